def KK (p : Nat) (n : Int) (v u : sI) : Prop := u p 2 = iI n ∧ ∀ i j : Nat, (i, j) ∈ FL → ¬ (i = p ∧ j = 2) → u i j = v i j
def KPx (z : Int) (v u : sI) : Prop := ((z < 0 ∨ 2 < z) ∧ FLs v u) ∨ (z = 0 ∧ KK 75 1 v u) ∨ (z = 1 ∧ KK 94 1 v u) ∨ (z = 2 ∧ KK 113 1 v u)
def RPx (z1 z2 z3 : Int) (v u : sI) : Prop := ((z1 < 0 ∨ 3 < z1 ∨ z2 < 0 ∨ 3 < z2 ∨ 60 < z3 ∨ z3 < 0) ∧ FLs v u) ∨ ((0 ≤ z2 ∧ z2 ≤ 3 ∧ 0 ≤ z3 ∧ z3 ≤ 60) ∧ ((z1 = 0 ∧ KK 67 z3 v u) ∨ (z1 = 1 ∧ KK 69 z3 v u) ∨ (z1 = 2 ∧ KK 71 z3 v u) ∨ (z1 = 3 ∧ KK 73 z3 v u)))
theorem fl_out2 {L : List (Nat × Nat)} {p : Nat} (hs : ∀ x ∈ FL, ¬ (x.1 = p ∧ x.2 = 2) → x ∉ L) {i j : Nat} (h : (i, j) ∈ FL) (hn : ¬ (i = p ∧ j = 2)) : (i, j) ∉ L := hs (i, j) h hn
set_option maxHeartbeats 4000000 in
set_option maxRecDepth 100000 in
theorem k_X5_begin_67 (l : Launch) (D : va_G) (K : Nat → ClassId) (ad : Nat → Nat) (mm : Option Nat) (N : Nat) (hNN : 132 ≤ N) (v ar : sI) (al : sL) (hI : XI v) (z_1 : Int) (hz_1 : -2147483648 ≤ z_1 ∧ z_1 ≤ 2147483647) (z_2 : Int) (hz_2 : 0 ≤ z_2 ∧ z_2 ≤ 60) : Met l yX5_begin (wM yX5_begin cX5_begin 3 none) (rmD 1) (va_Pc [.ref (ad 67), .int (iI (z_1)), .int (iI (z_2))] (wPre D K ad (xG ad K mm) N v ar al)) (va_Qv (fun u : sT => XI u.1 ∧ (∀ i j : Nat, (i, j) ∉ ([(67, 1), (67, 2)] : List (Nat × Nat)) → u.1 i j = v i j) ∧ u.1 67 2 = iI z_2) (wB D ad (xG ad K mm) N) (inW ad N)) 0 0 (inW ad N) := by
  refine s_metV (by decide) (Nat.le_of_ble_eq_true rfl) ?_
  intro p e s m below meth c ls args Q hE hB hl kr
  have hE : CallFix p m c cX5_begin 3 s args tbG "TaleCourt$Row" := hE
  obtain ⟨hP, hK, hN⟩ := hB
  have hS : va_S (inW ad N) s.heap s.heap [] := va_S.rf
  have hl : lv_has ls 3 [(0, .ref (ad 67)), (1, .int (iI (z_1))), (2, .int (iI (z_2)))] := hl
  refine lv_aload_n hE.1 hE.2.1 dX5_begin_0 rfl (lv_at hl 0 rfl) ?_
  refine lv_iload_n hE.1 hE.2.1 dX5_begin_1 rfl (lv_at hl 1 rfl) ?_
  refine x_put (x := iI (z_1)) hE hK hN hP hS 67 (Nat.lt_of_lt_of_le (by decide) hNN) (xG_5 rfl) rfl hin5 tyX5 tyX5_ok nmX5 1 (by decide) mw_447 rfl rfl rfl (Nat.le_of_ble_eq_true rfl) (xG_5 rfl) dX5_begin_2 (fun v1 H locs hv1 hP hS => ?_)
  have hI := XI_putN hI hv1 (by decide)
  refine lv_aload_n hE.1 hE.2.1 dX5_begin_5 rfl (lv_at hl 0 rfl) ?_
  refine lv_iload_n hE.1 hE.2.1 dX5_begin_6 rfl (lv_at hl 2 rfl) ?_
  refine x_put (x := iI (z_2)) hE hK hN hP hS 67 (Nat.lt_of_lt_of_le (by decide) hNN) (xG_5 rfl) rfl hin5 tyX5 tyX5_ok nmX5 2 (by decide) mw_449 rfl rfl rfl (Nat.le_of_ble_eq_true rfl) (xG_5 rfl) dX5_begin_7 (fun v2 H locs hv2 hP hS => ?_)
  have hI := XI_putB (z := z_2) hI hv2 (-1) 60 (by omega) (by decide) (by omega)
  refine lv_aload_n hE.1 hE.2.1 dX5_begin_10 rfl (lv_at hl 0 rfl) ?_
  refine x_get (x := .ref (ad 68)) hE hK hP 67 (Nat.lt_of_lt_of_le (by decide) hNN) (xG_5 rfl) rfl hin5 0 (by decide) mw_445 rfl dX5_begin_11 ?_
  refine lv_lconst (v := lI (0)) hE.1 hE.2.1 dX5_begin_14 (by decide) ?_
  refine x_sv (nn := 2) (As := [.ref (ad 68), .long (lI (0))]) (rest := []) hE hK hN hP hS (k_fillL l D K ad v2 ar al 68 60 (Nat.lt_of_lt_of_le (by decide) hNN) (fun _ => xG_11 rfl) (Nat.le_of_ble_eq_true rfl) (lI (0))) rfl mw_1307 mw_1308 mw_124 mw_1309 (by decide +kernel) ⟨by decide, by decide⟩ hl.1 rfl (Nat.le_of_ble_eq_true rfl) ⟨Nat.zero_le _, Nat.zero_le _⟩ dX5_begin_15 (fun v3 ar3 al3 H locs hq3 hP hS => ?_)
  rw [show v3 = v2 from hq3.1] at hP
  exact kr v2 _ _ _ _ _ _ ⟨hI, fun i j h => ((up_oth hv2 (fun q => h (by rcases q with ⟨rfl, rfl⟩; decide))).trans (up_oth hv1 (fun q => h (by rcases q with ⟨rfl, rfl⟩; decide)))), (up_eq hv2)⟩ hP hS dX5_begin_18

set_option maxHeartbeats 4000000 in
set_option maxRecDepth 100000 in
theorem k_X5_begin_69 (l : Launch) (D : va_G) (K : Nat → ClassId) (ad : Nat → Nat) (mm : Option Nat) (N : Nat) (hNN : 132 ≤ N) (v ar : sI) (al : sL) (hI : XI v) (z_1 : Int) (hz_1 : -2147483648 ≤ z_1 ∧ z_1 ≤ 2147483647) (z_2 : Int) (hz_2 : 0 ≤ z_2 ∧ z_2 ≤ 60) : Met l yX5_begin (wM yX5_begin cX5_begin 3 none) (rmD 1) (va_Pc [.ref (ad 69), .int (iI (z_1)), .int (iI (z_2))] (wPre D K ad (xG ad K mm) N v ar al)) (va_Qv (fun u : sT => XI u.1 ∧ (∀ i j : Nat, (i, j) ∉ ([(69, 1), (69, 2)] : List (Nat × Nat)) → u.1 i j = v i j) ∧ u.1 69 2 = iI z_2) (wB D ad (xG ad K mm) N) (inW ad N)) 0 0 (inW ad N) := by
  refine s_metV (by decide) (Nat.le_of_ble_eq_true rfl) ?_
  intro p e s m below meth c ls args Q hE hB hl kr
  have hE : CallFix p m c cX5_begin 3 s args tbG "TaleCourt$Row" := hE
  obtain ⟨hP, hK, hN⟩ := hB
  have hS : va_S (inW ad N) s.heap s.heap [] := va_S.rf
  have hl : lv_has ls 3 [(0, .ref (ad 69)), (1, .int (iI (z_1))), (2, .int (iI (z_2)))] := hl
  refine lv_aload_n hE.1 hE.2.1 dX5_begin_0 rfl (lv_at hl 0 rfl) ?_
  refine lv_iload_n hE.1 hE.2.1 dX5_begin_1 rfl (lv_at hl 1 rfl) ?_
  refine x_put (x := iI (z_1)) hE hK hN hP hS 69 (Nat.lt_of_lt_of_le (by decide) hNN) (xG_5 rfl) rfl hin5 tyX5 tyX5_ok nmX5 1 (by decide) mw_447 rfl rfl rfl (Nat.le_of_ble_eq_true rfl) (xG_5 rfl) dX5_begin_2 (fun v1 H locs hv1 hP hS => ?_)
  have hI := XI_putN hI hv1 (by decide)
  refine lv_aload_n hE.1 hE.2.1 dX5_begin_5 rfl (lv_at hl 0 rfl) ?_
  refine lv_iload_n hE.1 hE.2.1 dX5_begin_6 rfl (lv_at hl 2 rfl) ?_
  refine x_put (x := iI (z_2)) hE hK hN hP hS 69 (Nat.lt_of_lt_of_le (by decide) hNN) (xG_5 rfl) rfl hin5 tyX5 tyX5_ok nmX5 2 (by decide) mw_449 rfl rfl rfl (Nat.le_of_ble_eq_true rfl) (xG_5 rfl) dX5_begin_7 (fun v2 H locs hv2 hP hS => ?_)
  have hI := XI_putB (z := z_2) hI hv2 (-1) 60 (by omega) (by decide) (by omega)
  refine lv_aload_n hE.1 hE.2.1 dX5_begin_10 rfl (lv_at hl 0 rfl) ?_
  refine x_get (x := .ref (ad 70)) hE hK hP 69 (Nat.lt_of_lt_of_le (by decide) hNN) (xG_5 rfl) rfl hin5 0 (by decide) mw_445 rfl dX5_begin_11 ?_
  refine lv_lconst (v := lI (0)) hE.1 hE.2.1 dX5_begin_14 (by decide) ?_
  refine x_sv (nn := 2) (As := [.ref (ad 70), .long (lI (0))]) (rest := []) hE hK hN hP hS (k_fillL l D K ad v2 ar al 70 60 (Nat.lt_of_lt_of_le (by decide) hNN) (fun _ => xG_11 rfl) (Nat.le_of_ble_eq_true rfl) (lI (0))) rfl mw_1307 mw_1308 mw_124 mw_1309 (by decide +kernel) ⟨by decide, by decide⟩ hl.1 rfl (Nat.le_of_ble_eq_true rfl) ⟨Nat.zero_le _, Nat.zero_le _⟩ dX5_begin_15 (fun v3 ar3 al3 H locs hq3 hP hS => ?_)
  rw [show v3 = v2 from hq3.1] at hP
  exact kr v2 _ _ _ _ _ _ ⟨hI, fun i j h => ((up_oth hv2 (fun q => h (by rcases q with ⟨rfl, rfl⟩; decide))).trans (up_oth hv1 (fun q => h (by rcases q with ⟨rfl, rfl⟩; decide)))), (up_eq hv2)⟩ hP hS dX5_begin_18

set_option maxHeartbeats 4000000 in
set_option maxRecDepth 100000 in
theorem k_X5_begin_71 (l : Launch) (D : va_G) (K : Nat → ClassId) (ad : Nat → Nat) (mm : Option Nat) (N : Nat) (hNN : 132 ≤ N) (v ar : sI) (al : sL) (hI : XI v) (z_1 : Int) (hz_1 : -2147483648 ≤ z_1 ∧ z_1 ≤ 2147483647) (z_2 : Int) (hz_2 : 0 ≤ z_2 ∧ z_2 ≤ 60) : Met l yX5_begin (wM yX5_begin cX5_begin 3 none) (rmD 1) (va_Pc [.ref (ad 71), .int (iI (z_1)), .int (iI (z_2))] (wPre D K ad (xG ad K mm) N v ar al)) (va_Qv (fun u : sT => XI u.1 ∧ (∀ i j : Nat, (i, j) ∉ ([(71, 1), (71, 2)] : List (Nat × Nat)) → u.1 i j = v i j) ∧ u.1 71 2 = iI z_2) (wB D ad (xG ad K mm) N) (inW ad N)) 0 0 (inW ad N) := by
  refine s_metV (by decide) (Nat.le_of_ble_eq_true rfl) ?_
  intro p e s m below meth c ls args Q hE hB hl kr
  have hE : CallFix p m c cX5_begin 3 s args tbG "TaleCourt$Row" := hE
  obtain ⟨hP, hK, hN⟩ := hB
  have hS : va_S (inW ad N) s.heap s.heap [] := va_S.rf
  have hl : lv_has ls 3 [(0, .ref (ad 71)), (1, .int (iI (z_1))), (2, .int (iI (z_2)))] := hl
  refine lv_aload_n hE.1 hE.2.1 dX5_begin_0 rfl (lv_at hl 0 rfl) ?_
  refine lv_iload_n hE.1 hE.2.1 dX5_begin_1 rfl (lv_at hl 1 rfl) ?_
  refine x_put (x := iI (z_1)) hE hK hN hP hS 71 (Nat.lt_of_lt_of_le (by decide) hNN) (xG_5 rfl) rfl hin5 tyX5 tyX5_ok nmX5 1 (by decide) mw_447 rfl rfl rfl (Nat.le_of_ble_eq_true rfl) (xG_5 rfl) dX5_begin_2 (fun v1 H locs hv1 hP hS => ?_)
  have hI := XI_putN hI hv1 (by decide)
  refine lv_aload_n hE.1 hE.2.1 dX5_begin_5 rfl (lv_at hl 0 rfl) ?_
  refine lv_iload_n hE.1 hE.2.1 dX5_begin_6 rfl (lv_at hl 2 rfl) ?_
  refine x_put (x := iI (z_2)) hE hK hN hP hS 71 (Nat.lt_of_lt_of_le (by decide) hNN) (xG_5 rfl) rfl hin5 tyX5 tyX5_ok nmX5 2 (by decide) mw_449 rfl rfl rfl (Nat.le_of_ble_eq_true rfl) (xG_5 rfl) dX5_begin_7 (fun v2 H locs hv2 hP hS => ?_)
  have hI := XI_putB (z := z_2) hI hv2 (-1) 60 (by omega) (by decide) (by omega)
  refine lv_aload_n hE.1 hE.2.1 dX5_begin_10 rfl (lv_at hl 0 rfl) ?_
  refine x_get (x := .ref (ad 72)) hE hK hP 71 (Nat.lt_of_lt_of_le (by decide) hNN) (xG_5 rfl) rfl hin5 0 (by decide) mw_445 rfl dX5_begin_11 ?_
  refine lv_lconst (v := lI (0)) hE.1 hE.2.1 dX5_begin_14 (by decide) ?_
  refine x_sv (nn := 2) (As := [.ref (ad 72), .long (lI (0))]) (rest := []) hE hK hN hP hS (k_fillL l D K ad v2 ar al 72 60 (Nat.lt_of_lt_of_le (by decide) hNN) (fun _ => xG_11 rfl) (Nat.le_of_ble_eq_true rfl) (lI (0))) rfl mw_1307 mw_1308 mw_124 mw_1309 (by decide +kernel) ⟨by decide, by decide⟩ hl.1 rfl (Nat.le_of_ble_eq_true rfl) ⟨Nat.zero_le _, Nat.zero_le _⟩ dX5_begin_15 (fun v3 ar3 al3 H locs hq3 hP hS => ?_)
  rw [show v3 = v2 from hq3.1] at hP
  exact kr v2 _ _ _ _ _ _ ⟨hI, fun i j h => ((up_oth hv2 (fun q => h (by rcases q with ⟨rfl, rfl⟩; decide))).trans (up_oth hv1 (fun q => h (by rcases q with ⟨rfl, rfl⟩; decide)))), (up_eq hv2)⟩ hP hS dX5_begin_18

set_option maxHeartbeats 4000000 in
set_option maxRecDepth 100000 in
theorem k_X5_begin_73 (l : Launch) (D : va_G) (K : Nat → ClassId) (ad : Nat → Nat) (mm : Option Nat) (N : Nat) (hNN : 132 ≤ N) (v ar : sI) (al : sL) (hI : XI v) (z_1 : Int) (hz_1 : -2147483648 ≤ z_1 ∧ z_1 ≤ 2147483647) (z_2 : Int) (hz_2 : 0 ≤ z_2 ∧ z_2 ≤ 60) : Met l yX5_begin (wM yX5_begin cX5_begin 3 none) (rmD 1) (va_Pc [.ref (ad 73), .int (iI (z_1)), .int (iI (z_2))] (wPre D K ad (xG ad K mm) N v ar al)) (va_Qv (fun u : sT => XI u.1 ∧ (∀ i j : Nat, (i, j) ∉ ([(73, 1), (73, 2)] : List (Nat × Nat)) → u.1 i j = v i j) ∧ u.1 73 2 = iI z_2) (wB D ad (xG ad K mm) N) (inW ad N)) 0 0 (inW ad N) := by
  refine s_metV (by decide) (Nat.le_of_ble_eq_true rfl) ?_
  intro p e s m below meth c ls args Q hE hB hl kr
  have hE : CallFix p m c cX5_begin 3 s args tbG "TaleCourt$Row" := hE
  obtain ⟨hP, hK, hN⟩ := hB
  have hS : va_S (inW ad N) s.heap s.heap [] := va_S.rf
  have hl : lv_has ls 3 [(0, .ref (ad 73)), (1, .int (iI (z_1))), (2, .int (iI (z_2)))] := hl
  refine lv_aload_n hE.1 hE.2.1 dX5_begin_0 rfl (lv_at hl 0 rfl) ?_
  refine lv_iload_n hE.1 hE.2.1 dX5_begin_1 rfl (lv_at hl 1 rfl) ?_
  refine x_put (x := iI (z_1)) hE hK hN hP hS 73 (Nat.lt_of_lt_of_le (by decide) hNN) (xG_5 rfl) rfl hin5 tyX5 tyX5_ok nmX5 1 (by decide) mw_447 rfl rfl rfl (Nat.le_of_ble_eq_true rfl) (xG_5 rfl) dX5_begin_2 (fun v1 H locs hv1 hP hS => ?_)
  have hI := XI_putN hI hv1 (by decide)
  refine lv_aload_n hE.1 hE.2.1 dX5_begin_5 rfl (lv_at hl 0 rfl) ?_
  refine lv_iload_n hE.1 hE.2.1 dX5_begin_6 rfl (lv_at hl 2 rfl) ?_
  refine x_put (x := iI (z_2)) hE hK hN hP hS 73 (Nat.lt_of_lt_of_le (by decide) hNN) (xG_5 rfl) rfl hin5 tyX5 tyX5_ok nmX5 2 (by decide) mw_449 rfl rfl rfl (Nat.le_of_ble_eq_true rfl) (xG_5 rfl) dX5_begin_7 (fun v2 H locs hv2 hP hS => ?_)
  have hI := XI_putB (z := z_2) hI hv2 (-1) 60 (by omega) (by decide) (by omega)
  refine lv_aload_n hE.1 hE.2.1 dX5_begin_10 rfl (lv_at hl 0 rfl) ?_
  refine x_get (x := .ref (ad 74)) hE hK hP 73 (Nat.lt_of_lt_of_le (by decide) hNN) (xG_5 rfl) rfl hin5 0 (by decide) mw_445 rfl dX5_begin_11 ?_
  refine lv_lconst (v := lI (0)) hE.1 hE.2.1 dX5_begin_14 (by decide) ?_
  refine x_sv (nn := 2) (As := [.ref (ad 74), .long (lI (0))]) (rest := []) hE hK hN hP hS (k_fillL l D K ad v2 ar al 74 60 (Nat.lt_of_lt_of_le (by decide) hNN) (fun _ => xG_11 rfl) (Nat.le_of_ble_eq_true rfl) (lI (0))) rfl mw_1307 mw_1308 mw_124 mw_1309 (by decide +kernel) ⟨by decide, by decide⟩ hl.1 rfl (Nat.le_of_ble_eq_true rfl) ⟨Nat.zero_le _, Nat.zero_le _⟩ dX5_begin_15 (fun v3 ar3 al3 H locs hq3 hP hS => ?_)
  rw [show v3 = v2 from hq3.1] at hP
  exact kr v2 _ _ _ _ _ _ ⟨hI, fun i j h => ((up_oth hv2 (fun q => h (by rcases q with ⟨rfl, rfl⟩; decide))).trans (up_oth hv1 (fun q => h (by rcases q with ⟨rfl, rfl⟩; decide)))), (up_eq hv2)⟩ hP hS dX5_begin_18

set_option maxHeartbeats 4000000 in
set_option maxRecDepth 100000 in
theorem k_X8_row_0 (l : Launch) (D : va_G) (K : Nat → ClassId) (ad : Nat → Nat) (mm : Option Nat) (N : Nat) (hNN : 132 ≤ N) (v ar : sI) (al : sL) (hI : XI v) (z_1 : Int) (hz_1 : -2147483648 ≤ z_1 ∧ z_1 ≤ 2147483647) (z_2 : Int) (hz_2 : -2147483648 ≤ z_2 ∧ z_2 ≤ 2147483647) (z_3 : Int) (hz_3 : -2147483648 ≤ z_3 ∧ z_3 ≤ 2147483647) : Met l yX8_row (wM yX8_row cX8_row 4 (some .int)) (rmD 2) (va_Pc [.ref (ad 0), .int (iI (z_1)), .int (iI (z_2)), .int (iI (z_3))] (wPre D K ad (xG ad K mm) N v ar al)) (va_Qi (fun (r : Int32) (u : sT) => (∃ z : Int, (((z_1 < 0 ∨ 3 < z_1 ∨ z_2 < 0 ∨ 3 < z_2 ∨ 60 < z_3) ∧ z = -2) ∨ (0 ≤ z_1 ∧ z_1 ≤ 3 ∧ 0 ≤ z_2 ∧ z_2 ≤ 3 ∧ z_3 ≤ 60 ∧ ((z_3 < 0 ∧ z = -3) ∨ (0 ≤ z_3 ∧ z = 0)))) ∧ r = iI z) ∧ XI u.1 ∧ (∀ i j : Nat, (i, j) ∉ ([(67, 1), (67, 2), (69, 1), (69, 2), (71, 1), (71, 2), (73, 1), (73, 2)] : List (Nat × Nat)) → u.1 i j = v i j) ∧ RPx z_1 z_2 z_3 v u.1) (wB D ad (xG ad K mm) N) (inW ad N)) 0 0 (inW ad N) := by
  refine s_metI (by decide) (Nat.le_of_ble_eq_true rfl) ?_
  intro p e s m below meth c ls args Q hE hB hl kr
  have hE : CallFix p m c cX8_row 4 s args tbG "TaleCourt" := hE
  obtain ⟨hP, hK, hN⟩ := hB
  have hS : va_S (inW ad N) s.heap s.heap [] := va_S.rf
  have hl : lv_has ls 4 [(0, .ref (ad 0)), (1, .int (iI (z_1))), (2, .int (iI (z_2))), (3, .int (iI (z_3)))] := hl
  refine lv_iload_n hE.1 hE.2.1 dX8_row_0 rfl (lv_at hl 1 rfl) ?_
  refine x_sp (nn := 1) (As := [.int (iI (z_1))]) (rest := []) hE (s_X8_isSlot l (z_1) (by omega)) tt_blind (fun _ _ _ => trivial) rfl mw_1134 mw_1135 mw_114 mw_1136 (by decide +kernel) ⟨by decide, by decide⟩ hl.1 rfl (Nat.le_of_ble_eq_true rfl) ⟨Nat.zero_le _, Nat.zero_le _⟩ dX8_row_1 (fun r1 hr1 => ?_)
  obtain ⟨z1, hz1, rfl⟩ := hr1
  refine s_if_eq (a := z1) (tgt := 22) hE.1 hE.2.1 (by omega) dX8_row_4 (by decide) (fun c2 => ?_) (fun c2 => ?_)
  · skip
    refine lv_bipush (v := iI (-2)) hE.1 hE.2.1 dX8_row_22 (by decide) ?_
    exact kr _ v ar al _ _ _ _ rfl ⟨⟨-2, by omega, rfl⟩, hI, fun i j h => rfl, Or.inl ⟨by omega, fun _ _ _ => rfl⟩⟩ hP hS dX8_row_24
  · skip
    refine lv_iload_n hE.1 hE.2.1 dX8_row_7 rfl (lv_at hl 2 rfl) ?_
    refine s_if_lt (a := z_2) (tgt := 22) hE.1 hE.2.1 (by omega) dX8_row_8 (by decide) (fun c3 => ?_) (fun c3 => ?_)
    · skip
      refine lv_bipush (v := iI (-2)) hE.1 hE.2.1 dX8_row_22 (by decide) ?_
      exact kr _ v ar al _ _ _ _ rfl ⟨⟨-2, by omega, rfl⟩, hI, fun i j h => rfl, Or.inl ⟨by omega, fun _ _ _ => rfl⟩⟩ hP hS dX8_row_24
    · skip
      refine lv_iload_n hE.1 hE.2.1 dX8_row_11 rfl (lv_at hl 2 rfl) ?_
      refine lv_iconst (v := iI (4)) hE.1 hE.2.1 dX8_row_12 (by decide) ?_
      refine s_icmp_ge (a := z_2) (b := 4) (tgt := 22) hE.1 hE.2.1 (by omega) (by omega) dX8_row_13 (by decide) (fun c4 => ?_) (fun c4 => ?_)
      · skip
        refine lv_bipush (v := iI (-2)) hE.1 hE.2.1 dX8_row_22 (by decide) ?_
        exact kr _ v ar al _ _ _ _ rfl ⟨⟨-2, by omega, rfl⟩, hI, fun i j h => rfl, Or.inl ⟨by omega, fun _ _ _ => rfl⟩⟩ hP hS dX8_row_24
      · skip
        refine lv_iload_n hE.1 hE.2.1 dX8_row_16 rfl (lv_at hl 3 rfl) ?_
        refine lv_bipush (v := iI (60)) hE.1 hE.2.1 dX8_row_17 (by decide) ?_
        refine s_icmp_le (a := z_3) (b := 60) (tgt := 25) hE.1 hE.2.1 (by omega) (by omega) dX8_row_19 (by decide) (fun c5 => ?_) (fun c5 => ?_)
        · skip
          refine lv_iload_n hE.1 hE.2.1 dX8_row_25 rfl (lv_at hl 3 rfl) ?_
          refine s_if_ge (a := z_3) (tgt := 32) hE.1 hE.2.1 (by omega) dX8_row_26 (by decide) (fun c6 => ?_) (fun c6 => ?_)
          · skip
            refine lv_aload_n hE.1 hE.2.1 dX8_row_32 rfl (lv_at hl 0 rfl) ?_
            refine x_get (x := .ref (ad 65)) hE hK hP 0 (Nat.lt_of_lt_of_le (by decide) hNN) (xG_8 rfl) rfl hin8 8 (by decide) mw_488 rfl dX8_row_33 ?_
            refine lv_iload_n hE.1 hE.2.1 dX8_row_36 rfl (lv_at hl 1 rfl) ?_
            rcases (show z_1 = 0 ∨ z_1 = 1 ∨ z_1 = 2 ∨ z_1 = 3 by omega) with rfl | rfl | rfl | rfl
            · skip
              refine x_aald (r := .ref (ad 67)) hE hK hP 65 4 (Nat.lt_of_lt_of_le (by decide) hNN) (xG_13 rfl) rfl (by unfold vp_in; decide) rfl dX8_row_37 ?_
              refine lv_iload_n hE.1 hE.2.1 dX8_row_38 rfl (lv_at hl 2 rfl) ?_
              refine lv_iload_n hE.1 hE.2.1 dX8_row_39 rfl (lv_at hl 3 rfl) ?_
              refine x_vv (nn := 2) (As := [.int (iI (z_2)), .int (iI (z_3))]) (rest := []) hE hK hN hP hS (k_X5_begin_67 l D K ad mm N hNN v ar al hI  (z_2) (by omega) (z_3) (by omega)) (x_recv hK hP 67 (Nat.lt_of_lt_of_le (by decide) hNN) (xG_5 rfl) rfl) rfl mw_1303 mw_1304 mw_1305 mw_121 mw_1306 (by decide +kernel) ⟨by decide, by decide⟩ hl.1 rfl (Nat.le_of_ble_eq_true rfl) ⟨Nat.zero_le _, Nat.zero_le _⟩ dX8_row_40 (fun v7 ar7 al7 H locs hq7 hP hS => ?_)
              obtain ⟨hI, hq7, hk⟩ := hq7
              have hI : XI v7 := hI
              refine lv_iconst (v := iI (0)) hE.1 hE.2.1 dX8_row_43 (by decide) ?_
              exact kr _ v7 ar7 al7 _ _ _ _ rfl ⟨⟨0, by omega, rfl⟩, hI, fun i j h => (hq7 i j (fun q => h (mem_sub (by decide) q))), Or.inr ⟨by omega, Or.inl ⟨rfl, ⟨hk, fun i j h hn => hq7 i j (fl_out2 (p := 67) (by decide) h hn)⟩⟩⟩⟩ hP hS dX8_row_44
            · skip
              refine x_aald (r := .ref (ad 69)) hE hK hP 65 4 (Nat.lt_of_lt_of_le (by decide) hNN) (xG_13 rfl) rfl (by unfold vp_in; decide) rfl dX8_row_37 ?_
              refine lv_iload_n hE.1 hE.2.1 dX8_row_38 rfl (lv_at hl 2 rfl) ?_
              refine lv_iload_n hE.1 hE.2.1 dX8_row_39 rfl (lv_at hl 3 rfl) ?_
              refine x_vv (nn := 2) (As := [.int (iI (z_2)), .int (iI (z_3))]) (rest := []) hE hK hN hP hS (k_X5_begin_69 l D K ad mm N hNN v ar al hI  (z_2) (by omega) (z_3) (by omega)) (x_recv hK hP 69 (Nat.lt_of_lt_of_le (by decide) hNN) (xG_5 rfl) rfl) rfl mw_1303 mw_1304 mw_1305 mw_121 mw_1306 (by decide +kernel) ⟨by decide, by decide⟩ hl.1 rfl (Nat.le_of_ble_eq_true rfl) ⟨Nat.zero_le _, Nat.zero_le _⟩ dX8_row_40 (fun v8 ar8 al8 H locs hq8 hP hS => ?_)
              obtain ⟨hI, hq8, hk⟩ := hq8
              have hI : XI v8 := hI
              refine lv_iconst (v := iI (0)) hE.1 hE.2.1 dX8_row_43 (by decide) ?_
              exact kr _ v8 ar8 al8 _ _ _ _ rfl ⟨⟨0, by omega, rfl⟩, hI, fun i j h => (hq8 i j (fun q => h (mem_sub (by decide) q))), Or.inr ⟨by omega, Or.inr (Or.inl ⟨rfl, ⟨hk, fun i j h hn => hq8 i j (fl_out2 (p := 69) (by decide) h hn)⟩⟩)⟩⟩ hP hS dX8_row_44
            · skip
              refine x_aald (r := .ref (ad 71)) hE hK hP 65 4 (Nat.lt_of_lt_of_le (by decide) hNN) (xG_13 rfl) rfl (by unfold vp_in; decide) rfl dX8_row_37 ?_
              refine lv_iload_n hE.1 hE.2.1 dX8_row_38 rfl (lv_at hl 2 rfl) ?_
              refine lv_iload_n hE.1 hE.2.1 dX8_row_39 rfl (lv_at hl 3 rfl) ?_
              refine x_vv (nn := 2) (As := [.int (iI (z_2)), .int (iI (z_3))]) (rest := []) hE hK hN hP hS (k_X5_begin_71 l D K ad mm N hNN v ar al hI  (z_2) (by omega) (z_3) (by omega)) (x_recv hK hP 71 (Nat.lt_of_lt_of_le (by decide) hNN) (xG_5 rfl) rfl) rfl mw_1303 mw_1304 mw_1305 mw_121 mw_1306 (by decide +kernel) ⟨by decide, by decide⟩ hl.1 rfl (Nat.le_of_ble_eq_true rfl) ⟨Nat.zero_le _, Nat.zero_le _⟩ dX8_row_40 (fun v9 ar9 al9 H locs hq9 hP hS => ?_)
              obtain ⟨hI, hq9, hk⟩ := hq9
              have hI : XI v9 := hI
              refine lv_iconst (v := iI (0)) hE.1 hE.2.1 dX8_row_43 (by decide) ?_
              exact kr _ v9 ar9 al9 _ _ _ _ rfl ⟨⟨0, by omega, rfl⟩, hI, fun i j h => (hq9 i j (fun q => h (mem_sub (by decide) q))), Or.inr ⟨by omega, Or.inr (Or.inr (Or.inl ⟨rfl, ⟨hk, fun i j h hn => hq9 i j (fl_out2 (p := 71) (by decide) h hn)⟩⟩))⟩⟩ hP hS dX8_row_44
            · skip
              refine x_aald (r := .ref (ad 73)) hE hK hP 65 4 (Nat.lt_of_lt_of_le (by decide) hNN) (xG_13 rfl) rfl (by unfold vp_in; decide) rfl dX8_row_37 ?_
              refine lv_iload_n hE.1 hE.2.1 dX8_row_38 rfl (lv_at hl 2 rfl) ?_
              refine lv_iload_n hE.1 hE.2.1 dX8_row_39 rfl (lv_at hl 3 rfl) ?_
              refine x_vv (nn := 2) (As := [.int (iI (z_2)), .int (iI (z_3))]) (rest := []) hE hK hN hP hS (k_X5_begin_73 l D K ad mm N hNN v ar al hI  (z_2) (by omega) (z_3) (by omega)) (x_recv hK hP 73 (Nat.lt_of_lt_of_le (by decide) hNN) (xG_5 rfl) rfl) rfl mw_1303 mw_1304 mw_1305 mw_121 mw_1306 (by decide +kernel) ⟨by decide, by decide⟩ hl.1 rfl (Nat.le_of_ble_eq_true rfl) ⟨Nat.zero_le _, Nat.zero_le _⟩ dX8_row_40 (fun v10 ar10 al10 H locs hq10 hP hS => ?_)
              obtain ⟨hI, hq10, hk⟩ := hq10
              have hI : XI v10 := hI
              refine lv_iconst (v := iI (0)) hE.1 hE.2.1 dX8_row_43 (by decide) ?_
              exact kr _ v10 ar10 al10 _ _ _ _ rfl ⟨⟨0, by omega, rfl⟩, hI, fun i j h => (hq10 i j (fun q => h (mem_sub (by decide) q))), Or.inr ⟨by omega, Or.inr (Or.inr (Or.inr (⟨rfl, ⟨hk, fun i j h hn => hq10 i j (fl_out2 (p := 73) (by decide) h hn)⟩⟩)))⟩⟩ hP hS dX8_row_44
          · skip
            refine lv_bipush (v := iI (-3)) hE.1 hE.2.1 dX8_row_29 (by decide) ?_
            exact kr _ v ar al _ _ _ _ rfl ⟨⟨-3, by omega, rfl⟩, hI, fun i j h => rfl, Or.inl ⟨by omega, fun _ _ _ => rfl⟩⟩ hP hS dX8_row_31
        · skip
          refine lv_bipush (v := iI (-2)) hE.1 hE.2.1 dX8_row_22 (by decide) ?_
          exact kr _ v ar al _ _ _ _ rfl ⟨⟨-2, by omega, rfl⟩, hI, fun i j h => rfl, Or.inl ⟨by omega, fun _ _ _ => rfl⟩⟩ hP hS dX8_row_24

set_option maxHeartbeats 4000000 in
set_option maxRecDepth 100000 in
theorem k_X8_keep_0 (l : Launch) (D : va_G) (K : Nat → ClassId) (ad : Nat → Nat) (mm : Option Nat) (N : Nat) (hNN : 132 ≤ N) (v ar : sI) (al : sL) (hI : XI v) (z_1 : Int) (hz_1 : -2147483648 ≤ z_1 ∧ z_1 ≤ 2147483647) : Met l yX8_keep (wM yX8_keep cX8_keep 3 (some .int)) (rmD 2) (va_Pc [.ref (ad 0), .int (iI (z_1))] (wPre D K ad (xG ad K mm) N v ar al)) (va_Qi (fun (r : Int32) (u : sT) => (∃ z : Int, ((0 ≤ z_1 ∧ z_1 ≤ 2 ∧ z = 0) ∨ ((z_1 < 0 ∨ 2 < z_1) ∧ z = -2)) ∧ r = iI z) ∧ XI u.1 ∧ (∀ i j : Nat, (i, j) ∉ ([(75, 2), (76, 0), (76, 1), (76, 2), (76, 3), (76, 4), (76, 5), (76, 6), (76, 7), (76, 8), (76, 9), (76, 10), (86, 2), (86, 3), (86, 4), (86, 5), (86, 8), (86, 9), (94, 2), (95, 0), (95, 1), (95, 2), (95, 3), (95, 4), (95, 5), (95, 6), (95, 7), (95, 8), (95, 9), (95, 10), (105, 2), (105, 3), (105, 4), (105, 5), (105, 8), (105, 9), (113, 2), (114, 0), (114, 1), (114, 2), (114, 3), (114, 4), (114, 5), (114, 6), (114, 7), (114, 8), (114, 9), (114, 10), (124, 2), (124, 3), (124, 4), (124, 5), (124, 8), (124, 9)] : List (Nat × Nat)) → u.1 i j = v i j) ∧ KPx z_1 v u.1) (wB D ad (xG ad K mm) N) (inW ad N)) 0 0 (inW ad N) := by
  refine s_metI (by decide) (Nat.le_of_ble_eq_true rfl) ?_
  intro p e s m below meth c ls args Q hE hB hl kr
  have hE : CallFix p m c cX8_keep 3 s args tbG "TaleCourt" := hE
  obtain ⟨hP, hK, hN⟩ := hB
  have hS : va_S (inW ad N) s.heap s.heap [] := va_S.rf
  have hl : lv_has ls 3 [(0, .ref (ad 0)), (1, .int (iI (z_1)))] := hl
  refine lv_iload_n hE.1 hE.2.1 dX8_keep_0 rfl (lv_at hl 1 rfl) ?_
  refine s_if_lt (a := z_1) (tgt := 9) hE.1 hE.2.1 (by omega) dX8_keep_1 (by decide) (fun c1 => ?_) (fun c1 => ?_)
  · skip
    refine lv_bipush (v := iI (-2)) hE.1 hE.2.1 dX8_keep_9 (by decide) ?_
    exact kr _ v ar al _ _ _ _ rfl ⟨⟨-2, by omega, rfl⟩, hI, fun i j h => rfl, Or.inl ⟨by omega, fun _ _ _ => rfl⟩⟩ hP hS dX8_keep_11
  · skip
    refine lv_iload_n hE.1 hE.2.1 dX8_keep_4 rfl (lv_at hl 1 rfl) ?_
    refine lv_iconst (v := iI (3)) hE.1 hE.2.1 dX8_keep_5 (by decide) ?_
    refine s_icmp_lt (a := z_1) (b := 3) (tgt := 12) hE.1 hE.2.1 (by omega) (by omega) dX8_keep_6 (by decide) (fun c2 => ?_) (fun c2 => ?_)
    · skip
      refine lv_aload_n hE.1 hE.2.1 dX8_keep_12 rfl (lv_at hl 0 rfl) ?_
      refine x_get (x := .ref (ad 66)) hE hK hP 0 (Nat.lt_of_lt_of_le (by decide) hNN) (xG_8 rfl) rfl hin8 9 (by decide) mw_489 rfl dX8_keep_13 ?_
      refine lv_iload_n hE.1 hE.2.1 dX8_keep_16 rfl (lv_at hl 1 rfl) ?_
      rcases (show z_1 = 0 ∨ z_1 = 1 ∨ z_1 = 2 by omega) with rfl | rfl | rfl
      · skip
        refine x_aald (r := .ref (ad 75)) hE hK hP 66 5 (Nat.lt_of_lt_of_le (by decide) hNN) (xG_14 rfl) rfl (by unfold vp_in; decide) rfl dX8_keep_17 ?_
        refine lv_astore_n (lv' := [(2, .ref (ad 75)), (0, .ref (ad 0)), (1, .int (iI (0)))]) hE.1 hE.2.1 dX8_keep_18 rfl hl (by decide) rfl (fun ls hl => ?_)
        refine lv_aload_n hE.1 hE.2.1 dX8_keep_19 rfl (lv_at hl 0 rfl) ?_
        refine x_get (x := .ref (ad 76)) hE hK hP 75 (Nat.lt_of_lt_of_le (by decide) hNN) (xG_3 rfl) rfl hin3 0 (by decide) mw_469 rfl dX8_keep_20 ?_
        refine lv_aload_n hE.1 hE.2.1 dX8_keep_23 rfl (lv_at hl 1 rfl) ?_
        refine x_get (x := .ref (ad 3)) hE hK hP 0 (Nat.lt_of_lt_of_le (by decide) hNN) (xG_8 rfl) rfl hin8 1 (by decide) mw_481 rfl dX8_keep_24 ?_
        refine x_vv (nn := 1) (As := [.ref (ad 3)]) (rest := []) hE hK hN hP hS (s_X1_copyFrom_76_3 l D K ad mm N hNN v ar al hI  ) (x_recv hK hP 76 (Nat.lt_of_lt_of_le (by decide) hNN) (xG_1 rfl) rfl) rfl mw_674 mw_675 mw_676 mw_116 mw_677 (by decide +kernel) ⟨by decide, by decide⟩ hl.1 rfl (Nat.le_of_ble_eq_true rfl) ⟨Nat.zero_le _, Nat.zero_le _⟩ dX8_keep_27 (fun v3 ar3 al3 H locs hq3 hP hS => ?_)
        obtain ⟨hI, hq3⟩ := hq3
        have hI : XI v3 := hI
        refine lv_aload_n hE.1 hE.2.1 dX8_keep_30 rfl (lv_at hl 0 rfl) ?_
        refine x_get (x := .ref (ad 86)) hE hK hP 75 (Nat.lt_of_lt_of_le (by decide) hNN) (xG_3 rfl) rfl hin3 1 (by decide) mw_471 rfl dX8_keep_31 ?_
        refine lv_aload_n hE.1 hE.2.1 dX8_keep_34 rfl (lv_at hl 1 rfl) ?_
        refine x_get (x := .ref (ad 23)) hE hK hP 0 (Nat.lt_of_lt_of_le (by decide) hNN) (xG_8 rfl) rfl hin8 3 (by decide) mw_483 rfl dX8_keep_35 ?_
        refine x_vv (nn := 1) (As := [.ref (ad 23)]) (rest := []) hE hK hN hP hS (s_X7_copyFrom_86_23 l D K ad mm N hNN v3 ar3 al3 hI  ) (x_recv hK hP 86 (Nat.lt_of_lt_of_le (by decide) hNN) (xG_7 rfl) rfl) rfl mw_1267 mw_909 mw_910 mw_117 mw_911 (by decide +kernel) ⟨by decide, by decide⟩ hl.1 rfl (Nat.le_of_ble_eq_true rfl) ⟨Nat.zero_le _, Nat.zero_le _⟩ dX8_keep_38 (fun v4 ar4 al4 H locs hq4 hP hS => ?_)
        obtain ⟨hI, hq4⟩ := hq4
        have hI : XI v4 := hI
        refine lv_aload_n hE.1 hE.2.1 dX8_keep_41 rfl (lv_at hl 0 rfl) ?_
        refine lv_iconst (v := iI (1)) hE.1 hE.2.1 dX8_keep_42 (by decide) ?_
        refine x_put (x := iI (1)) hE hK hN hP hS 75 (Nat.lt_of_lt_of_le (by decide) hNN) (xG_3 rfl) rfl hin3 tyX3 tyX3_ok nmX3 2 (by decide) mw_472 rfl rfl rfl (Nat.le_of_ble_eq_true rfl) (xG_3 rfl) dX8_keep_43 (fun v5 H locs hv5 hP hS => ?_)
        have hI := XI_putN hI hv5 (by decide)
        refine lv_iconst (v := iI (0)) hE.1 hE.2.1 dX8_keep_46 (by decide) ?_
        exact kr _ v5 _ _ _ _ _ _ rfl ⟨⟨0, by omega, rfl⟩, hI, fun i j h => ((up_oth hv5 (fun q => h (by rcases q with ⟨rfl, rfl⟩; decide))).trans ((hq4 i j (fun q => h (mem_sub (by decide) q))).trans (hq3 i j (fun q => h (mem_sub (by decide) q))))), Or.inr (Or.inl ⟨rfl, ⟨(up_eq hv5), fun i j h hn => ((up_oth hv5 hn).trans ((hq4 i j (fl_out (by decide) h)).trans (hq3 i j (fl_out (by decide) h))))⟩⟩)⟩ hP hS dX8_keep_47
      · skip
        refine x_aald (r := .ref (ad 94)) hE hK hP 66 5 (Nat.lt_of_lt_of_le (by decide) hNN) (xG_14 rfl) rfl (by unfold vp_in; decide) rfl dX8_keep_17 ?_
        refine lv_astore_n (lv' := [(2, .ref (ad 94)), (0, .ref (ad 0)), (1, .int (iI (1)))]) hE.1 hE.2.1 dX8_keep_18 rfl hl (by decide) rfl (fun ls hl => ?_)
        refine lv_aload_n hE.1 hE.2.1 dX8_keep_19 rfl (lv_at hl 0 rfl) ?_
        refine x_get (x := .ref (ad 95)) hE hK hP 94 (Nat.lt_of_lt_of_le (by decide) hNN) (xG_3 rfl) rfl hin3 0 (by decide) mw_469 rfl dX8_keep_20 ?_
        refine lv_aload_n hE.1 hE.2.1 dX8_keep_23 rfl (lv_at hl 1 rfl) ?_
        refine x_get (x := .ref (ad 3)) hE hK hP 0 (Nat.lt_of_lt_of_le (by decide) hNN) (xG_8 rfl) rfl hin8 1 (by decide) mw_481 rfl dX8_keep_24 ?_
        refine x_vv (nn := 1) (As := [.ref (ad 3)]) (rest := []) hE hK hN hP hS (s_X1_copyFrom_95_3 l D K ad mm N hNN v ar al hI  ) (x_recv hK hP 95 (Nat.lt_of_lt_of_le (by decide) hNN) (xG_1 rfl) rfl) rfl mw_674 mw_675 mw_676 mw_116 mw_677 (by decide +kernel) ⟨by decide, by decide⟩ hl.1 rfl (Nat.le_of_ble_eq_true rfl) ⟨Nat.zero_le _, Nat.zero_le _⟩ dX8_keep_27 (fun v6 ar6 al6 H locs hq6 hP hS => ?_)
        obtain ⟨hI, hq6⟩ := hq6
        have hI : XI v6 := hI
        refine lv_aload_n hE.1 hE.2.1 dX8_keep_30 rfl (lv_at hl 0 rfl) ?_
        refine x_get (x := .ref (ad 105)) hE hK hP 94 (Nat.lt_of_lt_of_le (by decide) hNN) (xG_3 rfl) rfl hin3 1 (by decide) mw_471 rfl dX8_keep_31 ?_
        refine lv_aload_n hE.1 hE.2.1 dX8_keep_34 rfl (lv_at hl 1 rfl) ?_
        refine x_get (x := .ref (ad 23)) hE hK hP 0 (Nat.lt_of_lt_of_le (by decide) hNN) (xG_8 rfl) rfl hin8 3 (by decide) mw_483 rfl dX8_keep_35 ?_
        refine x_vv (nn := 1) (As := [.ref (ad 23)]) (rest := []) hE hK hN hP hS (s_X7_copyFrom_105_23 l D K ad mm N hNN v6 ar6 al6 hI  ) (x_recv hK hP 105 (Nat.lt_of_lt_of_le (by decide) hNN) (xG_7 rfl) rfl) rfl mw_1267 mw_909 mw_910 mw_117 mw_911 (by decide +kernel) ⟨by decide, by decide⟩ hl.1 rfl (Nat.le_of_ble_eq_true rfl) ⟨Nat.zero_le _, Nat.zero_le _⟩ dX8_keep_38 (fun v7 ar7 al7 H locs hq7 hP hS => ?_)
        obtain ⟨hI, hq7⟩ := hq7
        have hI : XI v7 := hI
        refine lv_aload_n hE.1 hE.2.1 dX8_keep_41 rfl (lv_at hl 0 rfl) ?_
        refine lv_iconst (v := iI (1)) hE.1 hE.2.1 dX8_keep_42 (by decide) ?_
        refine x_put (x := iI (1)) hE hK hN hP hS 94 (Nat.lt_of_lt_of_le (by decide) hNN) (xG_3 rfl) rfl hin3 tyX3 tyX3_ok nmX3 2 (by decide) mw_472 rfl rfl rfl (Nat.le_of_ble_eq_true rfl) (xG_3 rfl) dX8_keep_43 (fun v8 H locs hv8 hP hS => ?_)
        have hI := XI_putN hI hv8 (by decide)
        refine lv_iconst (v := iI (0)) hE.1 hE.2.1 dX8_keep_46 (by decide) ?_
        exact kr _ v8 _ _ _ _ _ _ rfl ⟨⟨0, by omega, rfl⟩, hI, fun i j h => ((up_oth hv8 (fun q => h (by rcases q with ⟨rfl, rfl⟩; decide))).trans ((hq7 i j (fun q => h (mem_sub (by decide) q))).trans (hq6 i j (fun q => h (mem_sub (by decide) q))))), Or.inr (Or.inr (Or.inl ⟨rfl, ⟨(up_eq hv8), fun i j h hn => ((up_oth hv8 hn).trans ((hq7 i j (fl_out (by decide) h)).trans (hq6 i j (fl_out (by decide) h))))⟩⟩))⟩ hP hS dX8_keep_47
      · skip
        refine x_aald (r := .ref (ad 113)) hE hK hP 66 5 (Nat.lt_of_lt_of_le (by decide) hNN) (xG_14 rfl) rfl (by unfold vp_in; decide) rfl dX8_keep_17 ?_
        refine lv_astore_n (lv' := [(2, .ref (ad 113)), (0, .ref (ad 0)), (1, .int (iI (2)))]) hE.1 hE.2.1 dX8_keep_18 rfl hl (by decide) rfl (fun ls hl => ?_)
        refine lv_aload_n hE.1 hE.2.1 dX8_keep_19 rfl (lv_at hl 0 rfl) ?_
        refine x_get (x := .ref (ad 114)) hE hK hP 113 (Nat.lt_of_lt_of_le (by decide) hNN) (xG_3 rfl) rfl hin3 0 (by decide) mw_469 rfl dX8_keep_20 ?_
        refine lv_aload_n hE.1 hE.2.1 dX8_keep_23 rfl (lv_at hl 1 rfl) ?_
        refine x_get (x := .ref (ad 3)) hE hK hP 0 (Nat.lt_of_lt_of_le (by decide) hNN) (xG_8 rfl) rfl hin8 1 (by decide) mw_481 rfl dX8_keep_24 ?_
        refine x_vv (nn := 1) (As := [.ref (ad 3)]) (rest := []) hE hK hN hP hS (s_X1_copyFrom_114_3 l D K ad mm N hNN v ar al hI  ) (x_recv hK hP 114 (Nat.lt_of_lt_of_le (by decide) hNN) (xG_1 rfl) rfl) rfl mw_674 mw_675 mw_676 mw_116 mw_677 (by decide +kernel) ⟨by decide, by decide⟩ hl.1 rfl (Nat.le_of_ble_eq_true rfl) ⟨Nat.zero_le _, Nat.zero_le _⟩ dX8_keep_27 (fun v9 ar9 al9 H locs hq9 hP hS => ?_)
        obtain ⟨hI, hq9⟩ := hq9
        have hI : XI v9 := hI
        refine lv_aload_n hE.1 hE.2.1 dX8_keep_30 rfl (lv_at hl 0 rfl) ?_
        refine x_get (x := .ref (ad 124)) hE hK hP 113 (Nat.lt_of_lt_of_le (by decide) hNN) (xG_3 rfl) rfl hin3 1 (by decide) mw_471 rfl dX8_keep_31 ?_
        refine lv_aload_n hE.1 hE.2.1 dX8_keep_34 rfl (lv_at hl 1 rfl) ?_
        refine x_get (x := .ref (ad 23)) hE hK hP 0 (Nat.lt_of_lt_of_le (by decide) hNN) (xG_8 rfl) rfl hin8 3 (by decide) mw_483 rfl dX8_keep_35 ?_
        refine x_vv (nn := 1) (As := [.ref (ad 23)]) (rest := []) hE hK hN hP hS (s_X7_copyFrom_124_23 l D K ad mm N hNN v9 ar9 al9 hI  ) (x_recv hK hP 124 (Nat.lt_of_lt_of_le (by decide) hNN) (xG_7 rfl) rfl) rfl mw_1267 mw_909 mw_910 mw_117 mw_911 (by decide +kernel) ⟨by decide, by decide⟩ hl.1 rfl (Nat.le_of_ble_eq_true rfl) ⟨Nat.zero_le _, Nat.zero_le _⟩ dX8_keep_38 (fun v10 ar10 al10 H locs hq10 hP hS => ?_)
        obtain ⟨hI, hq10⟩ := hq10
        have hI : XI v10 := hI
        refine lv_aload_n hE.1 hE.2.1 dX8_keep_41 rfl (lv_at hl 0 rfl) ?_
        refine lv_iconst (v := iI (1)) hE.1 hE.2.1 dX8_keep_42 (by decide) ?_
        refine x_put (x := iI (1)) hE hK hN hP hS 113 (Nat.lt_of_lt_of_le (by decide) hNN) (xG_3 rfl) rfl hin3 tyX3 tyX3_ok nmX3 2 (by decide) mw_472 rfl rfl rfl (Nat.le_of_ble_eq_true rfl) (xG_3 rfl) dX8_keep_43 (fun v11 H locs hv11 hP hS => ?_)
        have hI := XI_putN hI hv11 (by decide)
        refine lv_iconst (v := iI (0)) hE.1 hE.2.1 dX8_keep_46 (by decide) ?_
        exact kr _ v11 _ _ _ _ _ _ rfl ⟨⟨0, by omega, rfl⟩, hI, fun i j h => ((up_oth hv11 (fun q => h (by rcases q with ⟨rfl, rfl⟩; decide))).trans ((hq10 i j (fun q => h (mem_sub (by decide) q))).trans (hq9 i j (fun q => h (mem_sub (by decide) q))))), Or.inr (Or.inr (Or.inr ⟨rfl, ⟨(up_eq hv11), fun i j h hn => ((up_oth hv11 hn).trans ((hq10 i j (fl_out (by decide) h)).trans (hq9 i j (fl_out (by decide) h))))⟩⟩))⟩ hP hS dX8_keep_47
    · skip
      refine lv_bipush (v := iI (-2)) hE.1 hE.2.1 dX8_keep_9 (by decide) ?_
      exact kr _ v ar al _ _ _ _ rfl ⟨⟨-2, by omega, rfl⟩, hI, fun i j h => rfl, Or.inl ⟨by omega, fun _ _ _ => rfl⟩⟩ hP hS dX8_keep_11

def YKx (z : Int) (f g : Nat → Int32) : Prop := ((z < 0 ∨ 2 < z) ∧ g = f) ∨ ((0 ≤ z ∧ z ≤ 2) ∧ ∃ x : Int32, x ≠ iI 0 ∧ g = upd f z.toNat x)
def YRx (z1 z2 z3 : Int) (f1 f2 g1 g2 : Nat → Int32) : Prop := ((z1 < 0 ∨ 3 < z1 ∨ z2 < 0 ∨ 3 < z2 ∨ 60 < z3 ∨ z3 < 0) ∧ g1 = f1 ∧ g2 = f2) ∨ ((0 ≤ z1 ∧ z1 ≤ 3 ∧ 0 ≤ z2 ∧ z2 ≤ 3 ∧ 0 ≤ z3 ∧ z3 ≤ 60) ∧ g1 = upd f1 z1.toNat (iI z2) ∧ g2 = upd f2 z1.toNat (iI z3))
theorem YK_in {ar4 ar5 : sI} {f : Nat → Int32} {z : Int} {x : Int32} (ha : ar5 = va_up ar4 11 (upd (ar4 11) (iI z).toNatClampNeg x)) (hf : ar4 11 = f) (hz : 0 ≤ z ∧ z ≤ 2) (hx : x ≠ iI 0) : YKx z f (ar5 11) := by
  rw [cp_clamp (by omega)] at ha
  refine Or.inr ⟨hz, x, hx, ?_⟩
  rw [ha, hf]
  simp [va_up]
theorem YR_in {ar ar1 ar2 : sI} {z1 z2 z3 : Int} (ha : ar1 = va_up ar 1 (upd (ar 1) (iI z1).toNatClampNeg (iI z2))) (hb : ar2 = va_up ar1 2 (upd (ar1 2) (iI z1).toNatClampNeg (iI z3))) (h : 0 ≤ z1 ∧ z1 ≤ 3 ∧ 0 ≤ z2 ∧ z2 ≤ 3 ∧ 0 ≤ z3 ∧ z3 ≤ 60) : YRx z1 z2 z3 (ar 1) (ar 2) (ar2 1) (ar2 2) := by
  rw [cp_clamp (by omega)] at ha hb
  refine Or.inr ⟨h, ?_, ?_⟩
  · rw [upa_ne hb 1 (by decide), ha]; simp [va_up]
  · rw [hb, upa_ne ha 2 (by decide)]; simp [va_up]
set_option maxHeartbeats 4000000 in
set_option maxRecDepth 100000 in
theorem s_X9_keep_f (l : Launch) (D : va_G) (K : Nat → ClassId) (ad : Nat → Nat) (v ar : sI) (al : sL) (hI : YI v ar) (z_1 : Int) (hz_1 : -2147483648 ≤ z_1 ∧ z_1 ≤ 2147483647) : Met l yX9_keep (wM yX9_keep cX9_keep 2 (some .int)) (rmD 2) (va_Pc [.ref (ad 0), .int (iI (z_1))] (wPre D K ad (yG ad K) 21 v ar al)) (va_Qi (fun (r : Int32) (u : sT) => (∃ z : Int, ((0 ≤ z_1 ∧ z_1 ≤ 2 ∧ z = 0) ∨ ((z_1 < 0 ∨ 2 < z_1) ∧ z = -2)) ∧ r = iI z) ∧ YI u.1 u.2.1 ∧ (∀ i j : Nat, (i, j) ∉ ([(0, 0)] : List (Nat × Nat)) → u.1 i j = v i j) ∧ (∀ i : Nat, i ∉ ([6, 7, 8, 9, 10, 11] : List Nat) → u.2.1 i = ar i) ∧ (∀ i : Nat, i ∉ ([] : List Nat) → u.2.2 i = al i) ∧ (YKx z_1 (ar 11) (u.2.1 11))) (wB D ad (yG ad K) 21) (inW ad 21)) 0 0 (inW ad 21) := by
  refine s_metI (by decide) (Nat.le_of_ble_eq_true rfl) ?_
  intro p e s m below meth c ls args Q hE hB hl kr
  have hE : CallFix p m c cX9_keep 2 s args tbG "TaleCourtModel" := hE
  obtain ⟨hP, hK, hN⟩ := hB
  have hS : va_S (inW ad 21) s.heap s.heap [] := va_S.rf
  have hl : lv_has ls 2 [(0, .ref (ad 0)), (1, .int (iI (z_1)))] := hl
  refine lv_aload_n hE.1 hE.2.1 dX9_keep_0 rfl (lv_at hl 0 rfl) ?_
  refine lv_iconst (v := iI (0)) hE.1 hE.2.1 dX9_keep_1 (by decide) ?_
  refine x_put (x := iI (0)) hE hK hN hP hS 0 (by decide) (yG_9 rfl) rfl hin9 tyX9 tyX9_ok nmX9 0 (by decide) mw_1334 rfl rfl rfl (Nat.le_of_ble_eq_true rfl) (yG_9 rfl) dX9_keep_2 (fun v1 H locs hv1 hP hS => ?_)
  have hI := YI_putN hI hv1 (by decide)
  refine lv_iload_n hE.1 hE.2.1 dX9_keep_5 rfl (lv_at hl 1 rfl) ?_
  refine lv_i2l (v := lI (z_1)) hE.1 hE.2.1 dX9_keep_6 (iI_i2l (by omega)) ?_
  refine lv_lconst (v := lI (0)) hE.1 hE.2.1 dX9_keep_7 (by decide) ?_
  refine lv_ldc2 (v := 2) hE.1 hE.2.1 hE.2.2.2.1 (hE.2.2.2.2 _ mw_2046) dX9_keep_8 ?_
  refine x_topl (y := lI (2)) (by decide) ?_
  refine x_sp (nn := 3) (As := [.long (lI (z_1)), .long (lI (0)), .long (lI (2))]) (rest := []) hE (s_X9_in l (z_1) (by omega) (0) (by omega) (2) (by omega)) tt_blind (fun _ _ _ => trivial) rfl mw_1494 mw_1495 mw_123 mw_1496 (by decide +kernel) ⟨by decide, by decide⟩ hl.1 rfl (Nat.le_of_ble_eq_true rfl) ⟨Nat.zero_le _, Nat.zero_le _⟩ dX9_keep_11 (fun r2 hr2 => ?_)
  obtain ⟨z2, hz2, rfl⟩ := hr2
  refine s_if_ne (a := z2) (tgt := 20) hE.1 hE.2.1 (by omega) dX9_keep_14 (by decide) (fun c3 => ?_) (fun c3 => ?_)
  · skip
    refine lv_aload_n hE.1 hE.2.1 dX9_keep_20 rfl (lv_at hl 0 rfl) ?_
    refine lv_iconst (v := iI (0)) hE.1 hE.2.1 dX9_keep_21 (by decide) ?_
    refine lv_iconst (v := iI (1)) hE.1 hE.2.1 dX9_keep_22 (by decide) ?_
    refine lv_iload_n hE.1 hE.2.1 dX9_keep_23 rfl (lv_at hl 1 rfl) ?_
    refine lv_iadd hE.1 hE.2.1 dX9_keep_24 ?_
    refine x_top (y := iI (z_1 + 1)) ((iI_add (1) (z_1)).trans (congrArg iI (by omega))) ?_
    refine x_vv (nn := 2) (As := [.int (iI (0)), .int (iI (z_1 + 1))]) (rest := []) hE hK hN hP hS (s_X9_copyCourt l D K ad v1 ar al hI  (0) (by omega) (z_1 + 1) (by omega) (by omega)) (x_recv hK hP 0 (by decide) (yG_9 rfl) rfl) rfl mw_1631 mw_1633 mw_68 mw_123 mw_1634 (by decide +kernel) ⟨by decide, by decide⟩ hl.1 rfl (Nat.le_of_ble_eq_true rfl) ⟨Nat.zero_le _, Nat.zero_le _⟩ dX9_keep_25 (fun v4 ar4 al4 H locs hq4 hP hS => ?_)
    obtain ⟨hI, hq4, hqa4, hql4⟩ := hq4
    have hI : YI v4 ar4 := hI
    refine lv_aload_n hE.1 hE.2.1 dX9_keep_28 rfl (lv_at hl 0 rfl) ?_
    refine x_get (x := .ref (ad 11)) hE hK hP 0 (by decide) (yG_9 rfl) rfl hin9 21 (by decide) mw_1355 rfl dX9_keep_29 ?_
    refine lv_iload_n hE.1 hE.2.1 dX9_keep_32 rfl (lv_at hl 1 rfl) ?_
    refine lv_iconst (v := iI (1)) hE.1 hE.2.1 dX9_keep_33 (by decide) ?_
    refine x_zast (j := iI (z_1)) hE hK hN hP hS 11 (by decide) (fun _ => yG_15 rfl) (iI_in (n := 3) (by omega)) dX9_keep_34 (fun ar5 H locs ha5 hP hS => ?_)
    have hI := YI_ast hI ha5 (by decide)
    refine lv_iconst (v := iI (0)) hE.1 hE.2.1 dX9_keep_35 (by decide) ?_
    exact kr _ v4 ar5 al4 _ _ _ _ rfl ⟨⟨0, by omega, rfl⟩, hI, fun i j h => ((hq4 i j (fun q => h (mem_sub (by decide) q))).trans (up_oth hv1 (fun q => h (by rcases q with ⟨rfl, rfl⟩; decide)))), fun i h => ((upx_ne ha5 i (fun q => h (by rw [q]; decide))).trans (hqa4 i (fun q => h (mem_subn (by decide) q)))), fun i h => (hql4 i (fun q => h (mem_subn (by decide) q))), (YK_in ha5 (hqa4 11 (by decide)) (by omega) (by decide))⟩ hP hS dX9_keep_36
  · skip
    refine lv_bipush (v := iI (-2)) hE.1 hE.2.1 dX9_keep_17 (by decide) ?_
    exact kr _ v1 ar al _ _ _ _ rfl ⟨⟨-2, by omega, rfl⟩, hI, fun i j h => (up_oth hv1 (fun q => h (by rcases q with ⟨rfl, rfl⟩; decide))), fun i h => rfl, fun i h => rfl, (Or.inl ⟨by omega, rfl⟩)⟩ hP hS dX9_keep_19

set_option maxHeartbeats 4000000 in
set_option maxRecDepth 100000 in
theorem s_X9_row_f (l : Launch) (D : va_G) (K : Nat → ClassId) (ad : Nat → Nat) (v ar : sI) (al : sL) (hI : YI v ar) (z_1 : Int) (hz_1 : -2147483648 ≤ z_1 ∧ z_1 ≤ 2147483647) (z_2 : Int) (hz_2 : -2147483648 ≤ z_2 ∧ z_2 ≤ 2147483647) (z_3 : Int) (hz_3 : -2147483648 ≤ z_3 ∧ z_3 ≤ 2147483647) : Met l yX9_row (wM yX9_row cX9_row 5 (some .int)) (rmD 2) (va_Pc [.ref (ad 0), .int (iI (z_1)), .int (iI (z_2)), .int (iI (z_3))] (wPre D K ad (yG ad K) 21 v ar al)) (va_Qi (fun (r : Int32) (u : sT) => (∃ z : Int, (((z_1 < 0 ∨ 3 < z_1 ∨ z_2 < 0 ∨ 3 < z_2 ∨ 60 < z_3) ∧ z = -2) ∨ (0 ≤ z_1 ∧ z_1 ≤ 3 ∧ 0 ≤ z_2 ∧ z_2 ≤ 3 ∧ z_3 ≤ 60 ∧ ((z_3 < 0 ∧ z = -3) ∨ (0 ≤ z_3 ∧ z = 0)))) ∧ r = iI z) ∧ YI u.1 u.2.1 ∧ (∀ i j : Nat, (i, j) ∉ ([(0, 0)] : List (Nat × Nat)) → u.1 i j = v i j) ∧ (∀ i : Nat, i ∉ ([1, 2] : List Nat) → u.2.1 i = ar i) ∧ (∀ i : Nat, i ∉ ([3] : List Nat) → u.2.2 i = al i) ∧ (YRx z_1 z_2 z_3 (ar 1) (ar 2) (u.2.1 1) (u.2.1 2))) (wB D ad (yG ad K) 21) (inW ad 21)) 0 0 (inW ad 21) := by
  refine s_metI (by decide) (Nat.le_of_ble_eq_true rfl) ?_
  intro p e s m below meth c ls args Q hE hB hl kr
  have hE : CallFix p m c cX9_row 5 s args tbG "TaleCourtModel" := hE
  obtain ⟨hP, hK, hN⟩ := hB
  have hS : va_S (inW ad 21) s.heap s.heap [] := va_S.rf
  have hl : lv_has ls 5 [(0, .ref (ad 0)), (1, .int (iI (z_1))), (2, .int (iI (z_2))), (3, .int (iI (z_3)))] := hl
  refine lv_aload_n hE.1 hE.2.1 dX9_row_0 rfl (lv_at hl 0 rfl) ?_
  refine lv_iconst (v := iI (0)) hE.1 hE.2.1 dX9_row_1 (by decide) ?_
  refine x_put (x := iI (0)) hE hK hN hP hS 0 (by decide) (yG_9 rfl) rfl hin9 tyX9 tyX9_ok nmX9 0 (by decide) mw_1334 rfl rfl rfl (Nat.le_of_ble_eq_true rfl) (yG_9 rfl) dX9_row_2 (fun v1 H locs hv1 hP hS => ?_)
  have hI := YI_putN hI hv1 (by decide)
  refine lv_iload_n hE.1 hE.2.1 dX9_row_5 rfl (lv_at hl 1 rfl) ?_
  refine x_sp (nn := 1) (As := [.int (iI (z_1))]) (rest := []) hE (s_X9_isSlot l (z_1) (by omega)) tt_blind (fun _ _ _ => trivial) rfl mw_1490 mw_1491 mw_123 mw_1492 (by decide +kernel) ⟨by decide, by decide⟩ hl.1 rfl (Nat.le_of_ble_eq_true rfl) ⟨Nat.zero_le _, Nat.zero_le _⟩ dX9_row_6 (fun r2 hr2 => ?_)
  obtain ⟨z2, hz2, rfl⟩ := hr2
  refine s_if_eq (a := z2) (tgt := 30) hE.1 hE.2.1 (by omega) dX9_row_9 (by decide) (fun c3 => ?_) (fun c3 => ?_)
  · skip
    refine lv_bipush (v := iI (-2)) hE.1 hE.2.1 dX9_row_30 (by decide) ?_
    exact kr _ v1 ar al _ _ _ _ rfl ⟨⟨-2, by omega, rfl⟩, hI, fun i j h => (up_oth hv1 (fun q => h (by rcases q with ⟨rfl, rfl⟩; decide))), fun i h => rfl, fun i h => rfl, (Or.inl ⟨by omega, rfl, rfl⟩)⟩ hP hS dX9_row_32
  · skip
    refine lv_iload_n hE.1 hE.2.1 dX9_row_12 rfl (lv_at hl 2 rfl) ?_
    refine lv_i2l (v := lI (z_2)) hE.1 hE.2.1 dX9_row_13 (iI_i2l (by omega)) ?_
    refine lv_lconst (v := lI (0)) hE.1 hE.2.1 dX9_row_14 (by decide) ?_
    refine lv_ldc2 (v := 3) hE.1 hE.2.1 hE.2.2.2.1 (hE.2.2.2.2 _ mw_1493) dX9_row_15 ?_
    refine x_topl (y := lI (3)) (by decide) ?_
    refine x_sp (nn := 3) (As := [.long (lI (z_2)), .long (lI (0)), .long (lI (3))]) (rest := []) hE (s_X9_in l (z_2) (by omega) (0) (by omega) (3) (by omega)) tt_blind (fun _ _ _ => trivial) rfl mw_1494 mw_1495 mw_123 mw_1496 (by decide +kernel) ⟨by decide, by decide⟩ hl.1 rfl (Nat.le_of_ble_eq_true rfl) ⟨Nat.zero_le _, Nat.zero_le _⟩ dX9_row_18 (fun r4 hr4 => ?_)
    obtain ⟨z4, hz4, rfl⟩ := hr4
    refine s_if_eq (a := z4) (tgt := 30) hE.1 hE.2.1 (by omega) dX9_row_21 (by decide) (fun c5 => ?_) (fun c5 => ?_)
    · skip
      refine lv_bipush (v := iI (-2)) hE.1 hE.2.1 dX9_row_30 (by decide) ?_
      exact kr _ v1 ar al _ _ _ _ rfl ⟨⟨-2, by omega, rfl⟩, hI, fun i j h => (up_oth hv1 (fun q => h (by rcases q with ⟨rfl, rfl⟩; decide))), fun i h => rfl, fun i h => rfl, (Or.inl ⟨by omega, rfl, rfl⟩)⟩ hP hS dX9_row_32
    · skip
      refine lv_iload_n hE.1 hE.2.1 dX9_row_24 rfl (lv_at hl 3 rfl) ?_
      refine lv_bipush (v := iI (60)) hE.1 hE.2.1 dX9_row_25 (by decide) ?_
      refine s_icmp_le (a := z_3) (b := 60) (tgt := 33) hE.1 hE.2.1 (by omega) (by omega) dX9_row_27 (by decide) (fun c6 => ?_) (fun c6 => ?_)
      · skip
        refine lv_iload_n hE.1 hE.2.1 dX9_row_33 rfl (lv_at hl 3 rfl) ?_
        refine s_if_ge (a := z_3) (tgt := 40) hE.1 hE.2.1 (by omega) dX9_row_34 (by decide) (fun c7 => ?_) (fun c7 => ?_)
        · skip
          refine lv_aload_n hE.1 hE.2.1 dX9_row_40 rfl (lv_at hl 0 rfl) ?_
          refine x_get (x := .ref (ad 1)) hE hK hP 0 (by decide) (yG_9 rfl) rfl hin9 1 (by decide) mw_1335 rfl dX9_row_41 ?_
          refine lv_iload_n hE.1 hE.2.1 dX9_row_44 rfl (lv_at hl 1 rfl) ?_
          refine lv_iload_n hE.1 hE.2.1 dX9_row_45 rfl (lv_at hl 2 rfl) ?_
          refine x_iast (j := iI (z_1)) hE hK hN hP hS 1 (by decide) (fun _ => yG_10 rfl) (iI_in (n := 4) (by omega)) dX9_row_46 (fun ar8 H locs ha8 hP hS => ?_)
          have hI := YI_ast1 (z := z_2) hI ha8 (by omega)
          refine lv_aload_n hE.1 hE.2.1 dX9_row_47 rfl (lv_at hl 0 rfl) ?_
          refine x_get (x := .ref (ad 2)) hE hK hP 0 (by decide) (yG_9 rfl) rfl hin9 2 (by decide) mw_1336 rfl dX9_row_48 ?_
          refine lv_iload_n hE.1 hE.2.1 dX9_row_51 rfl (lv_at hl 1 rfl) ?_
          refine lv_iload_n hE.1 hE.2.1 dX9_row_52 rfl (lv_at hl 3 rfl) ?_
          refine x_iast (j := iI (z_1)) hE hK hN hP hS 2 (by decide) (fun _ => yG_10 rfl) (iI_in (n := 4) (by omega)) dX9_row_53 (fun ar9 H locs ha9 hP hS => ?_)
          have hI := YI_ast2 (z := z_3) hI ha9 (by omega)
          refine lv_iconst (v := iI (0)) hE.1 hE.2.1 dX9_row_54 (by decide) ?_
          refine lv_istore (lv' := [(4, .int (iI (0))), (0, .ref (ad 0)), (1, .int (iI (z_1))), (2, .int (iI (z_2))), (3, .int (iI (z_3)))]) hE.1 hE.2.1 dX9_row_55 hl (by decide) rfl (fun ls hl => ?_)
          have loop10 : ∀ (k10 : Nat) (y10_4 : Int) (vl10 : sI) (all10 : sL) (H : Heap) (locs : List Loc) (ls : Array Slot), (60 - y10_4).toNat = k10 → (0 ≤ y10_4 ∧ y10_4 ≤ 60) → YI vl10 ar9 → (∀ i j : Nat, (i, j) ∉ ([] : List (Nat × Nat)) → vl10 i j = v1 i j) → (∀ i : Nat, i ∉ ([3] : List Nat) → all10 i = al i) → va_P D xcl (wW ad (yG ad K) 21 vl10 ar9 all10) H → va_S (inW ad 21) s.heap H locs → lv_has ls 5 [(4, .int (iI (y10_4))), (0, .ref (ad 0)), (1, .int (iI (z_1))), (2, .int (iI (z_2))), (3, .int (iI (z_3)))] → W p l e (rmD 2) s m args below meth c H locs 0 0 Q (F0 m 57 ls []) := by
            intro k10
            induction k10 using Nat.strongRecOn with
            | _ k10 ih10 =>
              intro y10_4  vl10 all10 H locs ls hk10 hb_y10_4 hI hfr10 hfl10 hP hS hl
              refine lv_iload hE.1 hE.2.1 dX9_row_57 (lv_at hl 0 rfl) ?_
              refine lv_iload_n hE.1 hE.2.1 dX9_row_59 rfl (lv_at hl 4 rfl) ?_
              refine s_icmp_ge (a := y10_4) (b := z_3) (tgt := 82) hE.1 hE.2.1 (by omega) (by omega) dX9_row_60 (by decide) (fun c11 => ?_) (fun c11 => ?_)
              · skip
                refine lv_iconst (v := iI (0)) hE.1 hE.2.1 dX9_row_82 (by decide) ?_
                exact kr _ vl10 ar9 all10 _ _ _ _ rfl ⟨⟨0, by omega, rfl⟩, hI, fun i j h => ((hfr10 i j (fun q => h (mem_sub (by decide) q))).trans (up_oth hv1 (fun q => h (by rcases q with ⟨rfl, rfl⟩; decide)))), fun i h => ((upx_ne ha9 i (fun q => h (by rw [q]; decide))).trans (upx_ne ha8 i (fun q => h (by rw [q]; decide)))), fun i h => (hfl10 i (fun q => h (mem_subn (by decide) q))), (YR_in ha8 ha9 (by omega))⟩ hP hS dX9_row_83
              · skip
                refine lv_aload_n hE.1 hE.2.1 dX9_row_63 rfl (lv_at hl 1 rfl) ?_
                refine x_get (x := .ref (ad 3)) hE hK hP 0 (by decide) (yG_9 rfl) rfl hin9 3 (by decide) mw_1337 rfl dX9_row_64 ?_
                refine lv_bipush (v := iI (60)) hE.1 hE.2.1 dX9_row_67 (by decide) ?_
                refine lv_iload_n hE.1 hE.2.1 dX9_row_69 rfl (lv_at hl 2 rfl) ?_
                refine lv_imul hE.1 hE.2.1 dX9_row_70 ?_
                refine x_top (y := iI (60 * z_1)) ((iI_mul (60) (z_1)).trans (congrArg iI (by omega))) ?_
                refine lv_iload hE.1 hE.2.1 dX9_row_71 (lv_at hl 0 rfl) ?_
                refine lv_iadd hE.1 hE.2.1 dX9_row_73 ?_
                refine x_top (y := iI (y10_4 + 60 * z_1)) ((iI_add (60 * z_1) (y10_4)).trans (congrArg iI (by omega))) ?_
                refine lv_lconst (v := lI (0)) hE.1 hE.2.1 dX9_row_74 (by decide) ?_
                refine x_last (j := iI (y10_4 + 60 * z_1)) hE hK hN hP hS 3 (by decide) (fun _ => yG_11 rfl) (iI_in (n := 240) (by omega)) dX9_row_75 (fun al12 H locs ha12 hP hS => ?_)
                refine lv_iinc (v := iI (y10_4 + 1)) (lv' := [(4, .int (iI (y10_4 + 1))), (0, .ref (ad 0)), (1, .int (iI (z_1))), (2, .int (iI (z_2))), (3, .int (iI (z_3)))]) hE.1 hE.2.1 dX9_row_76 hl (k := 0) rfl ((iI_add (y10_4) (1)).trans (congrArg iI (by omega))) (by decide) rfl (fun ls hl => ?_)
                refine lv_goto (tgt := 57) hE.1 hE.2.1 dX9_row_79 (by decide) ?_
                exact ih10 _ (by omega) (y10_4 + 1)  vl10  al12 _ _ _ rfl (by omega)  hI (fun i j h => (hfr10 i j h)) (fun i h => ((upx_ne ha12 i (fun q => h (by rw [q]; decide))).trans (hfl10 i h))) hP hS (lv_sub hl [0, 1, 2, 3, 4] rfl)
          exact loop10 _ (0)  v1  al _ _ _ rfl (by omega)  hI (fun _ _ _ => rfl) (fun _ _ => rfl) hP hS hl
        · skip
          refine lv_bipush (v := iI (-3)) hE.1 hE.2.1 dX9_row_37 (by decide) ?_
          exact kr _ v1 ar al _ _ _ _ rfl ⟨⟨-3, by omega, rfl⟩, hI, fun i j h => (up_oth hv1 (fun q => h (by rcases q with ⟨rfl, rfl⟩; decide))), fun i h => rfl, fun i h => rfl, (Or.inl ⟨by omega, rfl, rfl⟩)⟩ hP hS dX9_row_39
      · skip
        refine lv_bipush (v := iI (-2)) hE.1 hE.2.1 dX9_row_30 (by decide) ?_
        exact kr _ v1 ar al _ _ _ _ rfl ⟨⟨-2, by omega, rfl⟩, hI, fun i j h => (up_oth hv1 (fun q => h (by rcases q with ⟨rfl, rfl⟩; decide))), fun i h => rfl, fun i h => rfl, (Or.inl ⟨by omega, rfl, rfl⟩)⟩ hP hS dX9_row_32

set_option maxHeartbeats 4000000 in
set_option maxRecDepth 100000 in
theorem s_X9_back_f (l : Launch) (D : va_G) (K : Nat → ClassId) (ad : Nat → Nat) (v ar : sI) (al : sL) (hI : YI v ar) (z_1 : Int) (hz_1 : -2147483648 ≤ z_1 ∧ z_1 ≤ 2147483647) (g_1 : Int) (hg_1 : -2147483648 ≤ g_1 ∧ g_1 ≤ 2147483647) (he_1 : ar 11 (iI z_1).toNatClampNeg = iI g_1) : Met l yX9_back (wM yX9_back cX9_back 2 (some .int)) (rmD 2) (va_Pc [.ref (ad 0), .int (iI (z_1))] (wPre D K ad (yG ad K) 21 v ar al)) (va_Qi (fun (r : Int32) (u : sT) => (∃ z : Int, (((z_1 < 0 ∨ 2 < z_1) ∧ z = -2) ∨ (0 ≤ z_1 ∧ z_1 ≤ 2 ∧ ((g_1 = 0 ∧ z = -6) ∨ (g_1 ≠ 0 ∧ z = 0)))) ∧ r = iI z) ∧ YI u.1 u.2.1 ∧ (∀ i j : Nat, (i, j) ∉ ([(0, 0)] : List (Nat × Nat)) → u.1 i j = v i j) ∧ (∀ i : Nat, i ∉ ([6, 7, 8, 9, 10] : List Nat) → u.2.1 i = ar i) ∧ (∀ i : Nat, i ∉ ([] : List Nat) → u.2.2 i = al i)) (wB D ad (yG ad K) 21) (inW ad 21)) 0 0 (inW ad 21) := by
  refine s_metI (by decide) (Nat.le_of_ble_eq_true rfl) ?_
  intro p e s m below meth c ls args Q hE hB hl kr
  have hE : CallFix p m c cX9_back 2 s args tbG "TaleCourtModel" := hE
  obtain ⟨hP, hK, hN⟩ := hB
  have hS : va_S (inW ad 21) s.heap s.heap [] := va_S.rf
  have hl : lv_has ls 2 [(0, .ref (ad 0)), (1, .int (iI (z_1)))] := hl
  refine lv_aload_n hE.1 hE.2.1 dX9_back_0 rfl (lv_at hl 0 rfl) ?_
  refine lv_iconst (v := iI (0)) hE.1 hE.2.1 dX9_back_1 (by decide) ?_
  refine x_put (x := iI (0)) hE hK hN hP hS 0 (by decide) (yG_9 rfl) rfl hin9 tyX9 tyX9_ok nmX9 0 (by decide) mw_1334 rfl rfl rfl (Nat.le_of_ble_eq_true rfl) (yG_9 rfl) dX9_back_2 (fun v1 H locs hv1 hP hS => ?_)
  have hI := YI_putN hI hv1 (by decide)
  refine lv_iload_n hE.1 hE.2.1 dX9_back_5 rfl (lv_at hl 1 rfl) ?_
  refine lv_i2l (v := lI (z_1)) hE.1 hE.2.1 dX9_back_6 (iI_i2l (by omega)) ?_
  refine lv_lconst (v := lI (0)) hE.1 hE.2.1 dX9_back_7 (by decide) ?_
  refine lv_ldc2 (v := 2) hE.1 hE.2.1 hE.2.2.2.1 (hE.2.2.2.2 _ mw_2046) dX9_back_8 ?_
  refine x_topl (y := lI (2)) (by decide) ?_
  refine x_sp (nn := 3) (As := [.long (lI (z_1)), .long (lI (0)), .long (lI (2))]) (rest := []) hE (s_X9_in l (z_1) (by omega) (0) (by omega) (2) (by omega)) tt_blind (fun _ _ _ => trivial) rfl mw_1494 mw_1495 mw_123 mw_1496 (by decide +kernel) ⟨by decide, by decide⟩ hl.1 rfl (Nat.le_of_ble_eq_true rfl) ⟨Nat.zero_le _, Nat.zero_le _⟩ dX9_back_11 (fun r2 hr2 => ?_)
  obtain ⟨z2, hz2, rfl⟩ := hr2
  refine s_if_ne (a := z2) (tgt := 20) hE.1 hE.2.1 (by omega) dX9_back_14 (by decide) (fun c3 => ?_) (fun c3 => ?_)
  · skip
    refine lv_aload_n hE.1 hE.2.1 dX9_back_20 rfl (lv_at hl 0 rfl) ?_
    refine x_get (x := .ref (ad 11)) hE hK hP 0 (by decide) (yG_9 rfl) rfl hin9 21 (by decide) mw_1355 rfl dX9_back_21 ?_
    refine lv_iload_n hE.1 hE.2.1 dX9_back_24 rfl (lv_at hl 1 rfl) ?_
    refine x_zald (j := iI (z_1)) hE hK hP 11 (by decide) (yG_15 rfl) (iI_in (n := 3) (by omega)) dX9_back_25 ?_
    refine x_top he_1 ?_
    refine s_if_ne (a := g_1) (tgt := 32) hE.1 hE.2.1 (by omega) dX9_back_26 (by decide) (fun c5 => ?_) (fun c5 => ?_)
    · skip
      refine lv_aload_n hE.1 hE.2.1 dX9_back_32 rfl (lv_at hl 0 rfl) ?_
      refine lv_iconst (v := iI (1)) hE.1 hE.2.1 dX9_back_33 (by decide) ?_
      refine lv_iload_n hE.1 hE.2.1 dX9_back_34 rfl (lv_at hl 1 rfl) ?_
      refine lv_iadd hE.1 hE.2.1 dX9_back_35 ?_
      refine x_top (y := iI (z_1 + 1)) ((iI_add (1) (z_1)).trans (congrArg iI (by omega))) ?_
      refine lv_iconst (v := iI (0)) hE.1 hE.2.1 dX9_back_36 (by decide) ?_
      refine x_vv (nn := 2) (As := [.int (iI (z_1 + 1)), .int (iI (0))]) (rest := []) hE hK hN hP hS (s_X9_copyCourt l D K ad v1 ar al hI  (z_1 + 1) (by omega) (0) (by omega) (by omega)) (x_recv hK hP 0 (by decide) (yG_9 rfl) rfl) rfl mw_1631 mw_1633 mw_68 mw_123 mw_1634 (by decide +kernel) ⟨by decide, by decide⟩ hl.1 rfl (Nat.le_of_ble_eq_true rfl) ⟨Nat.zero_le _, Nat.zero_le _⟩ dX9_back_37 (fun v6 ar6 al6 H locs hq6 hP hS => ?_)
      obtain ⟨hI, hq6, hqa6, hql6⟩ := hq6
      have hI : YI v6 ar6 := hI
      refine lv_iconst (v := iI (0)) hE.1 hE.2.1 dX9_back_40 (by decide) ?_
      exact kr _ v6 ar6 al6 _ _ _ _ rfl ⟨⟨0, by omega, rfl⟩, hI, fun i j h => ((hq6 i j (fun q => h (mem_sub (by decide) q))).trans (up_oth hv1 (fun q => h (by rcases q with ⟨rfl, rfl⟩; decide)))), fun i h => (hqa6 i (fun q => h (mem_subn (by decide) q))), fun i h => (hql6 i (fun q => h (mem_subn (by decide) q)))⟩ hP hS dX9_back_41
    · skip
      refine lv_bipush (v := iI (-6)) hE.1 hE.2.1 dX9_back_29 (by decide) ?_
      exact kr _ v1 ar al _ _ _ _ rfl ⟨⟨-6, by omega, rfl⟩, hI, fun i j h => (up_oth hv1 (fun q => h (by rcases q with ⟨rfl, rfl⟩; decide))), fun i h => rfl, fun i h => rfl⟩ hP hS dX9_back_31
  · skip
    refine lv_bipush (v := iI (-2)) hE.1 hE.2.1 dX9_back_17 (by decide) ?_
    exact kr _ v1 ar al _ _ _ _ rfl ⟨⟨-2, by omega, rfl⟩, hI, fun i j h => (up_oth hv1 (fun q => h (by rcases q with ⟨rfl, rfl⟩; decide))), fun i h => rfl, fun i h => rfl⟩ hP hS dX9_back_19

set_option maxHeartbeats 4000000 in
set_option maxRecDepth 100000 in
theorem s_X9_write_f (l : Launch) (D : va_G) (K : Nat → ClassId) (ad : Nat → Nat) (v ar : sI) (al : sL) (hI : YI v ar) (z_1 : Int) (hz_1 : -2147483648 ≤ z_1 ∧ z_1 ≤ 2147483647) (z_2 : Int) (hz_2 : -2147483648 ≤ z_2 ∧ z_2 ≤ 2147483647) (z_3 : Int) (hz_3 : -9223372036854775808 ≤ z_3 ∧ z_3 ≤ 9223372036854775807) (g_1 : Int) (hg_1 : -1 ≤ g_1 ∧ g_1 ≤ 3) (g_2 : Int) (hg_2 : 0 ≤ g_2 ∧ g_2 ≤ 60) (he_1 : ar 1 (iI z_1).toNatClampNeg = iI g_1) (he_2 : ar 2 (iI z_1).toNatClampNeg = iI g_2) : Met l yX9_write (wM yX9_write cX9_write 5 (some .int)) (rmD 2) (va_Pc [.ref (ad 0), .int (iI (z_1)), .int (iI (z_2)), .long (lI (z_3))] (wPre D K ad (yG ad K) 21 v ar al)) (va_Qi (fun (r : Int32) (u : sT) => (∃ z : Int, (((z_1 < 0 ∨ 3 < z_1) ∧ z = -2) ∨ (0 ≤ z_1 ∧ z_1 ≤ 3 ∧ ((g_1 = -1 ∧ z = -6) ∨ (g_1 ≠ -1 ∧ (z_2 < 0 ∨ g_2 ≤ z_2) ∧ z = -7) ∨ (g_1 ≠ -1 ∧ 0 ≤ z_2 ∧ z_2 < g_2 ∧ z = 0)))) ∧ r = iI z) ∧ YI u.1 u.2.1 ∧ (∀ i j : Nat, (i, j) ∉ ([(0, 0)] : List (Nat × Nat)) → u.1 i j = v i j) ∧ (∀ i : Nat, i ∉ ([] : List Nat) → u.2.1 i = ar i) ∧ (∀ i : Nat, i ∉ ([3] : List Nat) → u.2.2 i = al i)) (wB D ad (yG ad K) 21) (inW ad 21)) 0 0 (inW ad 21) := by
  refine s_metI (by decide) (Nat.le_of_ble_eq_true rfl) ?_
  intro p e s m below meth c ls args Q hE hB hl kr
  have hE : CallFix p m c cX9_write 5 s args tbG "TaleCourtModel" := hE
  obtain ⟨hP, hK, hN⟩ := hB
  have hS : va_S (inW ad 21) s.heap s.heap [] := va_S.rf
  have hl : lv_has ls 5 [(0, .ref (ad 0)), (1, .int (iI (z_1))), (2, .int (iI (z_2))), (3, .long (lI (z_3)))] := hl
  refine lv_aload_n hE.1 hE.2.1 dX9_write_0 rfl (lv_at hl 0 rfl) ?_
  refine lv_iconst (v := iI (0)) hE.1 hE.2.1 dX9_write_1 (by decide) ?_
  refine x_put (x := iI (0)) hE hK hN hP hS 0 (by decide) (yG_9 rfl) rfl hin9 tyX9 tyX9_ok nmX9 0 (by decide) mw_1334 rfl rfl rfl (Nat.le_of_ble_eq_true rfl) (yG_9 rfl) dX9_write_2 (fun v1 H locs hv1 hP hS => ?_)
  have hI := YI_putN hI hv1 (by decide)
  refine lv_iload_n hE.1 hE.2.1 dX9_write_5 rfl (lv_at hl 1 rfl) ?_
  refine x_sp (nn := 1) (As := [.int (iI (z_1))]) (rest := []) hE (s_X9_isSlot l (z_1) (by omega)) tt_blind (fun _ _ _ => trivial) rfl mw_1490 mw_1491 mw_123 mw_1492 (by decide +kernel) ⟨by decide, by decide⟩ hl.1 rfl (Nat.le_of_ble_eq_true rfl) ⟨Nat.zero_le _, Nat.zero_le _⟩ dX9_write_6 (fun r2 hr2 => ?_)
  obtain ⟨z2, hz2, rfl⟩ := hr2
  refine s_if_ne (a := z2) (tgt := 15) hE.1 hE.2.1 (by omega) dX9_write_9 (by decide) (fun c3 => ?_) (fun c3 => ?_)
  · skip
    refine lv_aload_n hE.1 hE.2.1 dX9_write_15 rfl (lv_at hl 0 rfl) ?_
    refine x_get (x := .ref (ad 1)) hE hK hP 0 (by decide) (yG_9 rfl) rfl hin9 1 (by decide) mw_1335 rfl dX9_write_16 ?_
    refine lv_iload_n hE.1 hE.2.1 dX9_write_19 rfl (lv_at hl 1 rfl) ?_
    refine x_iald (j := iI (z_1)) hE hK hP 1 (by decide) (yG_10 rfl) (iI_in (n := 4) (by omega)) dX9_write_20 ?_
    refine x_top he_1 ?_
    refine lv_iconst (v := iI (-1)) hE.1 hE.2.1 dX9_write_21 (by decide) ?_
    refine s_icmp_ne (a := g_1) (b := -1) (tgt := 28) hE.1 hE.2.1 (by omega) (by omega) dX9_write_22 (by decide) (fun c5 => ?_) (fun c5 => ?_)
    · skip
      refine lv_iload_n hE.1 hE.2.1 dX9_write_28 rfl (lv_at hl 2 rfl) ?_
      refine lv_i2l (v := lI (z_2)) hE.1 hE.2.1 dX9_write_29 (iI_i2l (by omega)) ?_
      refine lv_lconst (v := lI (0)) hE.1 hE.2.1 dX9_write_30 (by decide) ?_
      refine lv_aload_n hE.1 hE.2.1 dX9_write_31 rfl (lv_at hl 0 rfl) ?_
      refine x_get (x := .ref (ad 2)) hE hK hP 0 (by decide) (yG_9 rfl) rfl hin9 2 (by decide) mw_1336 rfl dX9_write_32 ?_
      refine lv_iload_n hE.1 hE.2.1 dX9_write_35 rfl (lv_at hl 1 rfl) ?_
      refine x_iald (j := iI (z_1)) hE hK hP 2 (by decide) (yG_10 rfl) (iI_in (n := 4) (by omega)) dX9_write_36 ?_
      refine x_top he_2 ?_
      refine lv_iconst (v := iI (1)) hE.1 hE.2.1 dX9_write_37 (by decide) ?_
      refine lv_isub hE.1 hE.2.1 dX9_write_38 ?_
      refine x_top (y := iI (g_2 - 1)) ((iI_sub (g_2) (1)).trans (congrArg iI (by omega))) ?_
      refine lv_i2l (v := lI (g_2 - 1)) hE.1 hE.2.1 dX9_write_39 (iI_i2l (by omega)) ?_
      refine x_sp (nn := 3) (As := [.long (lI (z_2)), .long (lI (0)), .long (lI (g_2 - 1))]) (rest := []) hE (s_X9_in l (z_2) (by omega) (0) (by omega) (g_2 - 1) (by omega)) tt_blind (fun _ _ _ => trivial) rfl mw_1494 mw_1495 mw_123 mw_1496 (by decide +kernel) ⟨by decide, by decide⟩ hl.1 rfl (Nat.le_of_ble_eq_true rfl) ⟨Nat.zero_le _, Nat.zero_le _⟩ dX9_write_40 (fun r7 hr7 => ?_)
      obtain ⟨z7, hz7, rfl⟩ := hr7
      refine s_if_ne (a := z7) (tgt := 49) hE.1 hE.2.1 (by omega) dX9_write_43 (by decide) (fun c8 => ?_) (fun c8 => ?_)
      · skip
        refine lv_aload_n hE.1 hE.2.1 dX9_write_49 rfl (lv_at hl 0 rfl) ?_
        refine x_get (x := .ref (ad 3)) hE hK hP 0 (by decide) (yG_9 rfl) rfl hin9 3 (by decide) mw_1337 rfl dX9_write_50 ?_
        refine lv_bipush (v := iI (60)) hE.1 hE.2.1 dX9_write_53 (by decide) ?_
        refine lv_iload_n hE.1 hE.2.1 dX9_write_55 rfl (lv_at hl 1 rfl) ?_
        refine lv_imul hE.1 hE.2.1 dX9_write_56 ?_
        refine x_top (y := iI (60 * z_1)) ((iI_mul (60) (z_1)).trans (congrArg iI (by omega))) ?_
        refine lv_iload_n hE.1 hE.2.1 dX9_write_57 rfl (lv_at hl 2 rfl) ?_
        refine lv_iadd hE.1 hE.2.1 dX9_write_58 ?_
        refine x_top (y := iI (60 * z_1 + z_2)) ((iI_add (60 * z_1) (z_2)).trans (congrArg iI (by omega))) ?_
        refine lv_lload_n hE.1 hE.2.1 dX9_write_59 rfl (lv_at hl 3 rfl) ?_
        refine lv_aload_n hE.1 hE.2.1 dX9_write_60 rfl (lv_at hl 0 rfl) ?_
        refine x_get (x := .ref (ad 1)) hE hK hP 0 (by decide) (yG_9 rfl) rfl hin9 1 (by decide) mw_1335 rfl dX9_write_61 ?_
        refine lv_iload_n hE.1 hE.2.1 dX9_write_64 rfl (lv_at hl 1 rfl) ?_
        refine x_iald (j := iI (z_1)) hE hK hP 1 (by decide) (yG_10 rfl) (iI_in (n := 4) (by omega)) dX9_write_65 ?_
        refine x_top he_1 ?_
        refine x_spl (nn := 2) (As := [.long (lI (z_3)), .int (iI (g_1))]) (rest := [.int (iI (60 * z_1 + z_2)), .ref (ad 3)]) hE (s_X9_cut l (z_3) (by omega) (g_1) (by omega)) tt_blind (fun _ _ _ => trivial) rfl mw_1501 mw_1502 mw_123 mw_1503 (by decide +kernel) ⟨by decide, by decide⟩ hl.1 rfl (Nat.le_of_ble_eq_true rfl) ⟨Nat.zero_le _, Nat.zero_le _⟩ dX9_write_66 (fun r10 hr10 => ?_)
        obtain ⟨z10, hz10, rfl⟩ := hr10
        refine x_last (j := iI (60 * z_1 + z_2)) hE hK hN hP hS 3 (by decide) (fun _ => yG_11 rfl) (iI_in (n := 240) (by omega)) dX9_write_69 (fun al11 H locs ha11 hP hS => ?_)
        refine lv_iconst (v := iI (0)) hE.1 hE.2.1 dX9_write_70 (by decide) ?_
        exact kr _ v1 ar al11 _ _ _ _ rfl ⟨⟨0, by omega, rfl⟩, hI, fun i j h => (up_oth hv1 (fun q => h (by rcases q with ⟨rfl, rfl⟩; decide))), fun i h => rfl, fun i h => (upx_ne ha11 i (fun q => h (by rw [q]; decide)))⟩ hP hS dX9_write_71
      · skip
        refine lv_bipush (v := iI (-7)) hE.1 hE.2.1 dX9_write_46 (by decide) ?_
        exact kr _ v1 ar al _ _ _ _ rfl ⟨⟨-7, by omega, rfl⟩, hI, fun i j h => (up_oth hv1 (fun q => h (by rcases q with ⟨rfl, rfl⟩; decide))), fun i h => rfl, fun i h => rfl⟩ hP hS dX9_write_48
    · skip
      refine lv_bipush (v := iI (-6)) hE.1 hE.2.1 dX9_write_25 (by decide) ?_
      exact kr _ v1 ar al _ _ _ _ rfl ⟨⟨-6, by omega, rfl⟩, hI, fun i j h => (up_oth hv1 (fun q => h (by rcases q with ⟨rfl, rfl⟩; decide))), fun i h => rfl, fun i h => rfl⟩ hP hS dX9_write_27
  · skip
    refine lv_bipush (v := iI (-2)) hE.1 hE.2.1 dX9_write_12 (by decide) ?_
    exact kr _ v1 ar al _ _ _ _ rfl ⟨⟨-2, by omega, rfl⟩, hI, fun i j h => (up_oth hv1 (fun q => h (by rcases q with ⟨rfl, rfl⟩; decide))), fun i h => rfl, fun i h => rfl⟩ hP hS dX9_write_14

def SZ (x w m : Int32) : Prop := (x = iI (-1) ∧ w = iI (-1)) ∨ (w ≠ iI (-1) ∧ x = m)
/-- the images that are kept, the rows that there are: alike on both sides -/
def lawR (v _ar : sI) (_al : sL) (_v' ar' : sI) (_al' : sL) : Prop := ((v 75 2 = iI 0 ↔ ar' 11 0 = iI 0) ∧ (v 94 2 = iI 0 ↔ ar' 11 1 = iI 0) ∧ (v 113 2 = iI 0 ↔ ar' 11 2 = iI 0)) ∧ SZ (v 67 2) (ar' 1 0) (ar' 2 0) ∧ SZ (v 69 2) (ar' 1 1) (ar' 2 1) ∧ SZ (v 71 2) (ar' 1 2) (ar' 2 2) ∧ SZ (v 73 2) (ar' 1 3) (ar' 2 3)
theorem R_x {v u ar ar1 v' ar' : sI} {al al1 al' : sL} (h : lawR v ar al v' ar' al') (hx : FLs v u) : lawR u ar1 al1 v' ar' al' := by
  unfold lawR
  rw [hx 75 2 (by decide), hx 94 2 (by decide), hx 113 2 (by decide), hx 67 2 (by decide), hx 69 2 (by decide), hx 71 2 (by decide), hx 73 2 (by decide)]
  exact h
theorem R_y {v ar v' ar' v2 ar2 : sI} {al al' al2 : sL} (h : lawR v ar al v' ar' al') (h1 : ar2 1 = ar' 1) (h2 : ar2 2 = ar' 2) (h11 : ar2 11 = ar' 11) : lawR v ar al v2 ar2 al2 := by
  unfold lawR
  rw [h1, h2, h11]
  exact h
theorem R_keep {z : Int} {vo u ar0 ar1 v' ar' v2 ar2 : sI} {al0 al1 al' al2 : sL} (h : lawR vo ar0 al0 v' ar' al') (hx : KPx z vo u) (hy : YKx z (ar' 11) (ar2 11)) (h1 : ar2 1 = ar' 1) (h2 : ar2 2 = ar' 2) : lawR u ar1 al1 v2 ar2 al2 := by
  have n1 : ¬ (iI 1 = iI 0) := by decide
  rcases hx with ⟨q, hf⟩ | ⟨q, k1, k2⟩ | ⟨q, k1, k2⟩ | ⟨q, k1, k2⟩
  · rcases hy with ⟨_, e⟩ | ⟨q2, _⟩
    · exact R_y (R_x (ar1 := ar1) (al1 := al1) h hf) h1 h2 e
    · omega
  · rcases hy with ⟨q2, _⟩ | ⟨_, x, hx0, e⟩
    · omega
    · subst q
      obtain ⟨⟨a0, a1, a2⟩, b0, b1, b2, b3⟩ := h
      have e0 : ar2 11 0 = x := by rw [e]; simp [upd]
      have e1 : ar2 11 1 = ar' 11 1 := by rw [e]; simp [upd]
      have e2 : ar2 11 2 = ar' 11 2 := by rw [e]; simp [upd]
      unfold lawR
      rw [h1, h2, k1, e0, e1, e2, k2 94 2 (by decide) (by decide), k2 113 2 (by decide) (by decide), k2 67 2 (by decide) (by decide), k2 69 2 (by decide) (by decide), k2 71 2 (by decide) (by decide), k2 73 2 (by decide) (by decide)]
      exact ⟨⟨⟨fun c => absurd c n1, fun c => absurd c hx0⟩, a1, a2⟩, b0, b1, b2, b3⟩
  · rcases hy with ⟨q2, _⟩ | ⟨_, x, hx0, e⟩
    · omega
    · subst q
      obtain ⟨⟨a0, a1, a2⟩, b0, b1, b2, b3⟩ := h
      have e0 : ar2 11 0 = ar' 11 0 := by rw [e]; simp [upd]
      have e1 : ar2 11 1 = x := by rw [e]; simp [upd]
      have e2 : ar2 11 2 = ar' 11 2 := by rw [e]; simp [upd]
      unfold lawR
      rw [h1, h2, k1, e0, e1, e2, k2 75 2 (by decide) (by decide), k2 113 2 (by decide) (by decide), k2 67 2 (by decide) (by decide), k2 69 2 (by decide) (by decide), k2 71 2 (by decide) (by decide), k2 73 2 (by decide) (by decide)]
      exact ⟨⟨a0, ⟨fun c => absurd c n1, fun c => absurd c hx0⟩, a2⟩, b0, b1, b2, b3⟩
  · rcases hy with ⟨q2, _⟩ | ⟨_, x, hx0, e⟩
    · omega
    · subst q
      obtain ⟨⟨a0, a1, a2⟩, b0, b1, b2, b3⟩ := h
      have e0 : ar2 11 0 = ar' 11 0 := by rw [e]; simp [upd]
      have e1 : ar2 11 1 = ar' 11 1 := by rw [e]; simp [upd]
      have e2 : ar2 11 2 = x := by rw [e]; simp [upd]
      unfold lawR
      rw [h1, h2, k1, e0, e1, e2, k2 75 2 (by decide) (by decide), k2 94 2 (by decide) (by decide), k2 67 2 (by decide) (by decide), k2 69 2 (by decide) (by decide), k2 71 2 (by decide) (by decide), k2 73 2 (by decide) (by decide)]
      exact ⟨⟨a0, a1, ⟨fun c => absurd c n1, fun c => absurd c hx0⟩⟩, b0, b1, b2, b3⟩
theorem R_row {z1 z2 z3 : Int} {vo u ar0 ar1 v' ar' v2 ar2 : sI} {al0 al1 al' al2 : sL} (h : lawR vo ar0 al0 v' ar' al') (hx : RPx z1 z2 z3 vo u) (hy : YRx z1 z2 z3 (ar' 1) (ar' 2) (ar2 1) (ar2 2)) (h11 : ar2 11 = ar' 11) : lawR u ar1 al1 v2 ar2 al2 := by
  rcases hx with ⟨q, hf⟩ | ⟨hb, hc⟩
  · rcases hy with ⟨_, e1, e2⟩ | ⟨q2, _⟩
    · exact R_y (R_x (ar1 := ar1) (al1 := al1) h hf) e1 e2 h11
    · omega
  · have ne : iI z2 ≠ iI (-1) := fun c => by have := (iI_eq (a := z2) (b := -1) (by omega) (by omega)).mp c; omega
    rcases hc with ⟨q, k1, k2⟩ | ⟨q, k1, k2⟩ | ⟨q, k1, k2⟩ | ⟨q, k1, k2⟩
    · rcases hy with ⟨q2, _⟩ | ⟨_, e1, e2⟩
      · omega
      · subst q
        obtain ⟨⟨a0, a1, a2⟩, b0, b1, b2, b3⟩ := h
        have f0 : ar2 1 0 = iI z2 := by rw [e1]; simp [upd]
        have g0 : ar2 2 0 = iI z3 := by rw [e2]; simp [upd]
        have f1 : ar2 1 1 = ar' 1 1 := by rw [e1]; simp [upd]
        have g1 : ar2 2 1 = ar' 2 1 := by rw [e2]; simp [upd]
        have f2 : ar2 1 2 = ar' 1 2 := by rw [e1]; simp [upd]
        have g2 : ar2 2 2 = ar' 2 2 := by rw [e2]; simp [upd]
        have f3 : ar2 1 3 = ar' 1 3 := by rw [e1]; simp [upd]
        have g3 : ar2 2 3 = ar' 2 3 := by rw [e2]; simp [upd]
        unfold lawR
        rw [h11, k1, f0, g0, f1, g1, f2, g2, f3, g3, k2 69 2 (by decide) (by decide), k2 71 2 (by decide) (by decide), k2 73 2 (by decide) (by decide), k2 75 2 (by decide) (by decide), k2 94 2 (by decide) (by decide), k2 113 2 (by decide) (by decide)]
        exact ⟨⟨a0, a1, a2⟩, Or.inr ⟨ne, rfl⟩, b1, b2, b3⟩
    · rcases hy with ⟨q2, _⟩ | ⟨_, e1, e2⟩
      · omega
      · subst q
        obtain ⟨⟨a0, a1, a2⟩, b0, b1, b2, b3⟩ := h
        have f0 : ar2 1 0 = ar' 1 0 := by rw [e1]; simp [upd]
        have g0 : ar2 2 0 = ar' 2 0 := by rw [e2]; simp [upd]
        have f1 : ar2 1 1 = iI z2 := by rw [e1]; simp [upd]
        have g1 : ar2 2 1 = iI z3 := by rw [e2]; simp [upd]
        have f2 : ar2 1 2 = ar' 1 2 := by rw [e1]; simp [upd]
        have g2 : ar2 2 2 = ar' 2 2 := by rw [e2]; simp [upd]
        have f3 : ar2 1 3 = ar' 1 3 := by rw [e1]; simp [upd]
        have g3 : ar2 2 3 = ar' 2 3 := by rw [e2]; simp [upd]
        unfold lawR
        rw [h11, k1, f0, g0, f1, g1, f2, g2, f3, g3, k2 67 2 (by decide) (by decide), k2 71 2 (by decide) (by decide), k2 73 2 (by decide) (by decide), k2 75 2 (by decide) (by decide), k2 94 2 (by decide) (by decide), k2 113 2 (by decide) (by decide)]
        exact ⟨⟨a0, a1, a2⟩, b0, Or.inr ⟨ne, rfl⟩, b2, b3⟩
    · rcases hy with ⟨q2, _⟩ | ⟨_, e1, e2⟩
      · omega
      · subst q
        obtain ⟨⟨a0, a1, a2⟩, b0, b1, b2, b3⟩ := h
        have f0 : ar2 1 0 = ar' 1 0 := by rw [e1]; simp [upd]
        have g0 : ar2 2 0 = ar' 2 0 := by rw [e2]; simp [upd]
        have f1 : ar2 1 1 = ar' 1 1 := by rw [e1]; simp [upd]
        have g1 : ar2 2 1 = ar' 2 1 := by rw [e2]; simp [upd]
        have f2 : ar2 1 2 = iI z2 := by rw [e1]; simp [upd]
        have g2 : ar2 2 2 = iI z3 := by rw [e2]; simp [upd]
        have f3 : ar2 1 3 = ar' 1 3 := by rw [e1]; simp [upd]
        have g3 : ar2 2 3 = ar' 2 3 := by rw [e2]; simp [upd]
        unfold lawR
        rw [h11, k1, f0, g0, f1, g1, f2, g2, f3, g3, k2 67 2 (by decide) (by decide), k2 69 2 (by decide) (by decide), k2 73 2 (by decide) (by decide), k2 75 2 (by decide) (by decide), k2 94 2 (by decide) (by decide), k2 113 2 (by decide) (by decide)]
        exact ⟨⟨a0, a1, a2⟩, b0, b1, Or.inr ⟨ne, rfl⟩, b3⟩
    · rcases hy with ⟨q2, _⟩ | ⟨_, e1, e2⟩
      · omega
      · subst q
        obtain ⟨⟨a0, a1, a2⟩, b0, b1, b2, b3⟩ := h
        have f0 : ar2 1 0 = ar' 1 0 := by rw [e1]; simp [upd]
        have g0 : ar2 2 0 = ar' 2 0 := by rw [e2]; simp [upd]
        have f1 : ar2 1 1 = ar' 1 1 := by rw [e1]; simp [upd]
        have g1 : ar2 2 1 = ar' 2 1 := by rw [e2]; simp [upd]
        have f2 : ar2 1 2 = ar' 1 2 := by rw [e1]; simp [upd]
        have g2 : ar2 2 2 = ar' 2 2 := by rw [e2]; simp [upd]
        have f3 : ar2 1 3 = iI z2 := by rw [e1]; simp [upd]
        have g3 : ar2 2 3 = iI z3 := by rw [e2]; simp [upd]
        unfold lawR
        rw [h11, k1, f0, g0, f1, g1, f2, g2, f3, g3, k2 67 2 (by decide) (by decide), k2 69 2 (by decide) (by decide), k2 71 2 (by decide) (by decide), k2 75 2 (by decide) (by decide), k2 94 2 (by decide) (by decide), k2 113 2 (by decide) (by decide)]
        exact ⟨⟨a0, a1, a2⟩, b0, b1, b2, Or.inr ⟨ne, rfl⟩⟩
theorem fk_get {x y : Int32} {w g : Int} (h : x = iI 0 ↔ y = iI 0) (ex : x = iI w) (hw : -2147483648 ≤ w ∧ w ≤ 2147483647) (ey : y = iI g) (hg : -2147483648 ≤ g ∧ g ≤ 2147483647) : (w = 0 ∧ g = 0) ∨ (w ≠ 0 ∧ g ≠ 0) := by
  rw [ex, ey, iI_eq (b := 0) hw (by omega), iI_eq (b := 0) hg (by omega)] at h
  by_cases c : w = 0
  · exact Or.inl ⟨c, h.mp c⟩
  · exact Or.inr ⟨c, fun g0 => c (h.mpr g0)⟩
theorem SZ_get {x w m : Int32} {a b c : Int} (h : SZ x w m) (ex : x = iI a) (ha : -1 ≤ a ∧ a ≤ 60) (ew : w = iI b) (hb : -1 ≤ b ∧ b ≤ 3) (em : m = iI c) (hc : 0 ≤ c ∧ c ≤ 60) : (a = -1 ∧ b = -1) ∨ (b ≠ -1 ∧ a = c) := by
  rw [ex, ew, em] at h
  rcases h with ⟨h1, h2⟩ | ⟨h1, h2⟩
  · exact Or.inl ⟨(iI_eq (by omega) (by omega)).mp h1, (iI_eq (by omega) (by omega)).mp h2⟩
  · exact Or.inr ⟨fun q => h1 (by rw [q]), (iI_eq (by omega) (by omega)).mp h2⟩
theorem R_back {v ar v' ar' : sI} {al al' : sL} {w1 w2 w3 z g : Int} (h : lawR v ar al v' ar' al') (e1 : v 75 2 = iI w1) (h1 : -2147483648 ≤ w1 ∧ w1 ≤ 2147483647) (e2 : v 94 2 = iI w2) (h2 : -2147483648 ≤ w2 ∧ w2 ≤ 2147483647) (e3 : v 113 2 = iI w3) (h3 : -2147483648 ≤ w3 ∧ w3 ≤ 2147483647) (eg : ar' 11 (iI z).toNatClampNeg = iI g) (hg : -2147483648 ≤ g ∧ g ≤ 2147483647) : (z ≠ 0 ∨ (w1 = 0 ∧ g = 0) ∨ (w1 ≠ 0 ∧ g ≠ 0)) ∧ (z ≠ 1 ∨ (w2 = 0 ∧ g = 0) ∨ (w2 ≠ 0 ∧ g ≠ 0)) ∧ (z ≠ 2 ∨ (w3 = 0 ∧ g = 0) ∨ (w3 ≠ 0 ∧ g ≠ 0)) := by
  obtain ⟨⟨a0, a1, a2⟩, -⟩ := h
  refine ⟨?_, ?_, ?_⟩
  · by_cases q : z = 0
    · subst q
      rw [show (iI 0).toNatClampNeg = 0 from by decide] at eg
      exact Or.inr (fk_get a0 e1 h1 eg hg)
    · exact Or.inl q
  · by_cases q : z = 1
    · subst q
      rw [show (iI 1).toNatClampNeg = 1 from by decide] at eg
      exact Or.inr (fk_get a1 e2 h2 eg hg)
    · exact Or.inl q
  · by_cases q : z = 2
    · subst q
      rw [show (iI 2).toNatClampNeg = 2 from by decide] at eg
      exact Or.inr (fk_get a2 e3 h3 eg hg)
    · exact Or.inl q
theorem R_write {v ar v' ar' : sI} {al al' : sL} {w1 w2 w3 w4 z g m : Int} (h : lawR v ar al v' ar' al') (e1 : v 67 2 = iI w1) (h1 : -1 ≤ w1 ∧ w1 ≤ 60) (e2 : v 69 2 = iI w2) (h2 : -1 ≤ w2 ∧ w2 ≤ 60) (e3 : v 71 2 = iI w3) (h3 : -1 ≤ w3 ∧ w3 ≤ 60) (e4 : v 73 2 = iI w4) (h4 : -1 ≤ w4 ∧ w4 ≤ 60) (eg : ar' 1 (iI z).toNatClampNeg = iI g) (hg : -1 ≤ g ∧ g ≤ 3) (em : ar' 2 (iI z).toNatClampNeg = iI m) (hm : 0 ≤ m ∧ m ≤ 60) : (z ≠ 0 ∨ (w1 = -1 ∧ g = -1) ∨ (g ≠ -1 ∧ w1 = m)) ∧ (z ≠ 1 ∨ (w2 = -1 ∧ g = -1) ∨ (g ≠ -1 ∧ w2 = m)) ∧ (z ≠ 2 ∨ (w3 = -1 ∧ g = -1) ∨ (g ≠ -1 ∧ w3 = m)) ∧ (z ≠ 3 ∨ (w4 = -1 ∧ g = -1) ∨ (g ≠ -1 ∧ w4 = m)) := by
  obtain ⟨-, b0, b1, b2, b3⟩ := h
  refine ⟨?_, ?_, ?_, ?_⟩
  · by_cases q : z = 0
    · subst q
      rw [show (iI 0).toNatClampNeg = 0 from by decide] at eg em
      exact Or.inr (SZ_get b0 e1 h1 eg hg em hm)
    · exact Or.inl q
  · by_cases q : z = 1
    · subst q
      rw [show (iI 1).toNatClampNeg = 1 from by decide] at eg em
      exact Or.inr (SZ_get b1 e2 h2 eg hg em hm)
    · exact Or.inl q
  · by_cases q : z = 2
    · subst q
      rw [show (iI 2).toNatClampNeg = 2 from by decide] at eg em
      exact Or.inr (SZ_get b2 e3 h3 eg hg em hm)
    · exact Or.inl q
  · by_cases q : z = 3
    · subst q
      rw [show (iI 3).toNatClampNeg = 3 from by decide] at eg em
      exact Or.inr (SZ_get b3 e4 h4 eg hg em hm)
    · exact Or.inl q
