theorem dX9_in_0 : decode cX9_in 0 = .ok (.lload_n 0, 1) := by decide +kernel
theorem dX9_in_1 : decode cX9_in 1 = .ok (.lload_n 2, 1) := by decide +kernel
theorem dX9_in_2 : decode cX9_in 2 = .ok (.lcmp, 1) := by decide +kernel
theorem dX9_in_3 : decode cX9_in 3 = .ok (.ifCond .lt 14, 3) := by decide +kernel
theorem dX9_in_6 : decode cX9_in 6 = .ok (.lload_n 0, 1) := by decide +kernel
theorem dX9_in_7 : decode cX9_in 7 = .ok (.lload 4, 2) := by decide +kernel
theorem dX9_in_9 : decode cX9_in 9 = .ok (.lcmp, 1) := by decide +kernel
theorem dX9_in_10 : decode cX9_in 10 = .ok (.ifCond .gt 7, 3) := by decide +kernel
theorem dX9_in_13 : decode cX9_in 13 = .ok (.iconst 1, 1) := by decide +kernel
theorem dX9_in_14 : decode cX9_in 14 = .ok (.goto 4, 3) := by decide +kernel
theorem dX9_in_17 : decode cX9_in 17 = .ok (.iconst 0, 1) := by decide +kernel
theorem dX9_in_18 : decode cX9_in 18 = .ok (.ireturn, 1) := by decide +kernel
set_option maxHeartbeats 4000000 in
set_option maxRecDepth 100000 in
theorem s_X9_in (l : Launch) (z_1 : Int) (hz_1 : -9223372036854775808 ≤ z_1 ∧ z_1 ≤ 9223372036854775807) (z_2 : Int) (hz_2 : -9223372036854775808 ≤ z_2 ∧ z_2 ≤ 9223372036854775807) (z_3 : Int) (hz_3 : -9223372036854775808 ≤ z_3 ∧ z_3 ≤ 9223372036854775807) : Met l yX9_in (wM yX9_in cX9_in 6 (some .boolean)) (rmD 0) (va_Pc [.long (lI (z_1)), .long (lI (z_2)), .long (lI (z_3))] (fun _ => True)) (vp_Si (fun r => ∃ z : Int, ((z = 0 ∧ (z_1 < z_2 ∨ z_3 < z_1)) ∨ (z = 1 ∧ z_2 ≤ z_1 ∧ z_1 ≤ z_3)) ∧ r = iI z)) 0 0 (fun _ => False) := by
  refine s_metP (by decide) (Nat.le_of_ble_eq_true rfl) ?_
  intro p e s m below meth c ls args Q hE hB hl kr
  have hE : CallFix p m c cX9_in 6 s args tbG "TaleCourtModel" := hE
  have hl : lv_has ls 6 [(0, .long (lI (z_1))), (2, .long (lI (z_2))), (4, .long (lI (z_3)))] := hl
  refine lv_lload_n hE.1 hE.2.1 dX9_in_0 rfl (lv_at hl 0 rfl) ?_
  refine lv_lload_n hE.1 hE.2.1 dX9_in_1 rfl (lv_at hl 1 rfl) ?_
  refine W.lcmp hE.1 hE.2.1 dX9_in_2 ?_
  obtain ⟨z1, hz1, ez1⟩ := lcmp_of (a := z_1) (b := z_2) (by omega) (by omega)
  refine x_top ez1 ?_
  refine s_if_lt (a := z1) (tgt := 17) hE.1 hE.2.1 (by omega) dX9_in_3 (by decide) (fun c2 => ?_) (fun c2 => ?_)
  · skip
    refine lv_iconst (v := iI (0)) hE.1 hE.2.1 dX9_in_17 (by decide) ?_
    exact kr _ _ _ (nar01 (by omega)) ⟨0, by omega, rfl⟩ dX9_in_18
  · skip
    refine lv_lload_n hE.1 hE.2.1 dX9_in_6 rfl (lv_at hl 0 rfl) ?_
    refine lv_lload hE.1 hE.2.1 dX9_in_7 (lv_at hl 2 rfl) ?_
    refine W.lcmp hE.1 hE.2.1 dX9_in_9 ?_
    obtain ⟨z3, hz3, ez3⟩ := lcmp_of (a := z_1) (b := z_3) (by omega) (by omega)
    refine x_top ez3 ?_
    refine s_if_gt (a := z3) (tgt := 17) hE.1 hE.2.1 (by omega) dX9_in_10 (by decide) (fun c4 => ?_) (fun c4 => ?_)
    · skip
      refine lv_iconst (v := iI (0)) hE.1 hE.2.1 dX9_in_17 (by decide) ?_
      exact kr _ _ _ (nar01 (by omega)) ⟨0, by omega, rfl⟩ dX9_in_18
    · skip
      refine lv_iconst (v := iI (1)) hE.1 hE.2.1 dX9_in_13 (by decide) ?_
      refine lv_goto (tgt := 18) hE.1 hE.2.1 dX9_in_14 (by decide) ?_
      exact kr _ _ _ (nar01 (by omega)) ⟨1, by omega, rfl⟩ dX9_in_18

theorem dX9_isSlot_0 : decode cX9_isSlot 0 = .ok (.iload_n 0, 1) := by decide +kernel
theorem dX9_isSlot_1 : decode cX9_isSlot 1 = .ok (.i2l, 1) := by decide +kernel
theorem dX9_isSlot_2 : decode cX9_isSlot 2 = .ok (.lconst 0, 1) := by decide +kernel
theorem dX9_isSlot_3 : decode cX9_isSlot 3 = .ok (.ldc2_w 84, 3) := by decide +kernel
theorem dX9_isSlot_6 : decode cX9_isSlot 6 = .ok (.invokestatic 86, 3) := by decide +kernel
theorem dX9_isSlot_9 : decode cX9_isSlot 9 = .ok (.ireturn, 1) := by decide +kernel
set_option maxHeartbeats 4000000 in
set_option maxRecDepth 100000 in
theorem s_X9_isSlot (l : Launch) (z_1 : Int) (hz_1 : -2147483648 ≤ z_1 ∧ z_1 ≤ 2147483647) : Met l yX9_isSlot (wM yX9_isSlot cX9_isSlot 1 (some .boolean)) (rmD 1) (va_Pc [.int (iI (z_1))] (fun _ => True)) (vp_Si (fun r => ∃ z : Int, ((z = 0 ∧ (z_1 < 0 ∨ 3 < z_1)) ∨ (z = 1 ∧ 0 ≤ z_1 ∧ z_1 ≤ 3)) ∧ r = iI z)) 0 0 (fun _ => False) := by
  refine s_metP (by decide) (Nat.le_of_ble_eq_true rfl) ?_
  intro p e s m below meth c ls args Q hE hB hl kr
  have hE : CallFix p m c cX9_isSlot 1 s args tbG "TaleCourtModel" := hE
  have hl : lv_has ls 1 [(0, .int (iI (z_1)))] := hl
  refine lv_iload_n hE.1 hE.2.1 dX9_isSlot_0 rfl (lv_at hl 0 rfl) ?_
  refine lv_i2l (v := lI (z_1)) hE.1 hE.2.1 dX9_isSlot_1 (iI_i2l (by omega)) ?_
  refine lv_lconst (v := lI (0)) hE.1 hE.2.1 dX9_isSlot_2 (by decide) ?_
  refine lv_ldc2 (v := 3) hE.1 hE.2.1 hE.2.2.2.1 (hE.2.2.2.2 _ mw_1493) dX9_isSlot_3 ?_
  refine x_topl (y := lI (3)) (by decide) ?_
  refine x_sp (nn := 3) (As := [.long (lI (z_1)), .long (lI (0)), .long (lI (3))]) (rest := []) hE (s_X9_in l (z_1) (by omega) (0) (by omega) (3) (by omega)) tt_blind (fun _ _ _ => trivial) rfl mw_1494 mw_1495 mw_123 mw_1496 (by decide +kernel) ⟨by decide, by decide⟩ hl.1 rfl (Nat.le_of_ble_eq_true rfl) ⟨Nat.zero_le _, Nat.zero_le _⟩ dX9_isSlot_6 (fun r1 hr1 => ?_)
  obtain ⟨z1, hz1, rfl⟩ := hr1
  exact kr _ _ _ (nar01 (by omega)) ⟨z1, by omega, rfl⟩ dX9_isSlot_9

theorem dX9_row_0 : decode cX9_row 0 = .ok (.aload_n 0, 1) := by decide +kernel
theorem dX9_row_1 : decode cX9_row 1 = .ok (.iconst 0, 1) := by decide +kernel
theorem dX9_row_2 : decode cX9_row 2 = .ok (.putfield 81, 3) := by decide +kernel
theorem dX9_row_5 : decode cX9_row 5 = .ok (.iload_n 1, 1) := by decide +kernel
theorem dX9_row_6 : decode cX9_row 6 = .ok (.invokestatic 90, 3) := by decide +kernel
theorem dX9_row_9 : decode cX9_row 9 = .ok (.ifCond .eq 21, 3) := by decide +kernel
theorem dX9_row_12 : decode cX9_row 12 = .ok (.iload_n 2, 1) := by decide +kernel
theorem dX9_row_13 : decode cX9_row 13 = .ok (.i2l, 1) := by decide +kernel
theorem dX9_row_14 : decode cX9_row 14 = .ok (.lconst 0, 1) := by decide +kernel
theorem dX9_row_15 : decode cX9_row 15 = .ok (.ldc2_w 84, 3) := by decide +kernel
theorem dX9_row_18 : decode cX9_row 18 = .ok (.invokestatic 86, 3) := by decide +kernel
theorem dX9_row_21 : decode cX9_row 21 = .ok (.ifCond .eq 9, 3) := by decide +kernel
theorem dX9_row_24 : decode cX9_row 24 = .ok (.iload_n 3, 1) := by decide +kernel
theorem dX9_row_25 : decode cX9_row 25 = .ok (.bipush 60, 2) := by decide +kernel
theorem dX9_row_27 : decode cX9_row 27 = .ok (.if_icmp .le 6, 3) := by decide +kernel
theorem dX9_row_30 : decode cX9_row 30 = .ok (.bipush (-2), 2) := by decide +kernel
theorem dX9_row_32 : decode cX9_row 32 = .ok (.ireturn, 1) := by decide +kernel
theorem dX9_row_33 : decode cX9_row 33 = .ok (.iload_n 3, 1) := by decide +kernel
theorem dX9_row_34 : decode cX9_row 34 = .ok (.ifCond .ge 6, 3) := by decide +kernel
theorem dX9_row_37 : decode cX9_row 37 = .ok (.bipush (-3), 2) := by decide +kernel
theorem dX9_row_39 : decode cX9_row 39 = .ok (.ireturn, 1) := by decide +kernel
theorem dX9_row_40 : decode cX9_row 40 = .ok (.aload_n 0, 1) := by decide +kernel
theorem dX9_row_41 : decode cX9_row 41 = .ok (.getfield 7, 3) := by decide +kernel
theorem dX9_row_44 : decode cX9_row 44 = .ok (.iload_n 1, 1) := by decide +kernel
theorem dX9_row_45 : decode cX9_row 45 = .ok (.iload_n 2, 1) := by decide +kernel
theorem dX9_row_46 : decode cX9_row 46 = .ok (.iastore, 1) := by decide +kernel
theorem dX9_row_47 : decode cX9_row 47 = .ok (.aload_n 0, 1) := by decide +kernel
theorem dX9_row_48 : decode cX9_row 48 = .ok (.getfield 13, 3) := by decide +kernel
theorem dX9_row_51 : decode cX9_row 51 = .ok (.iload_n 1, 1) := by decide +kernel
theorem dX9_row_52 : decode cX9_row 52 = .ok (.iload_n 3, 1) := by decide +kernel
theorem dX9_row_53 : decode cX9_row 53 = .ok (.iastore, 1) := by decide +kernel
theorem dX9_row_54 : decode cX9_row 54 = .ok (.iconst 0, 1) := by decide +kernel
theorem dX9_row_55 : decode cX9_row 55 = .ok (.istore 4, 2) := by decide +kernel
theorem dX9_row_57 : decode cX9_row 57 = .ok (.iload 4, 2) := by decide +kernel
theorem dX9_row_59 : decode cX9_row 59 = .ok (.iload_n 3, 1) := by decide +kernel
theorem dX9_row_60 : decode cX9_row 60 = .ok (.if_icmp .ge 22, 3) := by decide +kernel
theorem dX9_row_63 : decode cX9_row 63 = .ok (.aload_n 0, 1) := by decide +kernel
theorem dX9_row_64 : decode cX9_row 64 = .ok (.getfield 16, 3) := by decide +kernel
theorem dX9_row_67 : decode cX9_row 67 = .ok (.bipush 60, 2) := by decide +kernel
theorem dX9_row_69 : decode cX9_row 69 = .ok (.iload_n 1, 1) := by decide +kernel
theorem dX9_row_70 : decode cX9_row 70 = .ok (.imul, 1) := by decide +kernel
theorem dX9_row_71 : decode cX9_row 71 = .ok (.iload 4, 2) := by decide +kernel
theorem dX9_row_73 : decode cX9_row 73 = .ok (.iadd, 1) := by decide +kernel
theorem dX9_row_74 : decode cX9_row 74 = .ok (.lconst 0, 1) := by decide +kernel
theorem dX9_row_75 : decode cX9_row 75 = .ok (.lastore, 1) := by decide +kernel
theorem dX9_row_76 : decode cX9_row 76 = .ok (.iinc 4 1, 3) := by decide +kernel
theorem dX9_row_79 : decode cX9_row 79 = .ok (.goto (-22), 3) := by decide +kernel
theorem dX9_row_82 : decode cX9_row 82 = .ok (.iconst 0, 1) := by decide +kernel
theorem dX9_row_83 : decode cX9_row 83 = .ok (.ireturn, 1) := by decide +kernel
set_option maxHeartbeats 4000000 in
set_option maxRecDepth 100000 in
theorem s_X9_row (l : Launch) (D : va_G) (K : Nat → ClassId) (ad : Nat → Nat) (v ar : sI) (al : sL) (hI : YI v ar) (z_1 : Int) (hz_1 : -2147483648 ≤ z_1 ∧ z_1 ≤ 2147483647) (z_2 : Int) (hz_2 : -2147483648 ≤ z_2 ∧ z_2 ≤ 2147483647) (z_3 : Int) (hz_3 : -2147483648 ≤ z_3 ∧ z_3 ≤ 2147483647) : Met l yX9_row (wM yX9_row cX9_row 5 (some .int)) (rmD 2) (va_Pc [.ref (ad 0), .int (iI (z_1)), .int (iI (z_2)), .int (iI (z_3))] (wPre D K ad (yG ad K) 21 v ar al)) (va_Qi (fun (r : Int32) (u : sT) => (∃ z : Int, (((z_1 < 0 ∨ 3 < z_1 ∨ z_2 < 0 ∨ 3 < z_2 ∨ 60 < z_3) ∧ z = -2) ∨ (0 ≤ z_1 ∧ z_1 ≤ 3 ∧ 0 ≤ z_2 ∧ z_2 ≤ 3 ∧ z_3 ≤ 60 ∧ ((z_3 < 0 ∧ z = -3) ∨ (0 ≤ z_3 ∧ z = 0)))) ∧ r = iI z) ∧ YI u.1 u.2.1 ∧ (∀ i j : Nat, (i, j) ∉ ([(0, 0)] : List (Nat × Nat)) → u.1 i j = v i j) ∧ (∀ i : Nat, i ∉ ([1, 2] : List Nat) → u.2.1 i = ar i) ∧ (∀ i : Nat, i ∉ ([3] : List Nat) → u.2.2 i = al i)) (wB D ad (yG ad K) 21) (inW ad 21)) 0 0 (inW ad 21) := by
  refine s_metI (by decide) (Nat.le_of_ble_eq_true rfl) ?_
  intro p e s m below meth c ls args Q hE hB hl kr
  have hE : CallFix p m c cX9_row 5 s args tbG "TaleCourtModel" := hE
  obtain ⟨hP, hK, hN⟩ := hB
  have hS : va_S (inW ad 21) s.heap s.heap [] := va_S.rf
  have hl : lv_has ls 5 [(0, .ref (ad 0)), (1, .int (iI (z_1))), (2, .int (iI (z_2))), (3, .int (iI (z_3)))] := hl
  refine lv_aload_n hE.1 hE.2.1 dX9_row_0 rfl (lv_at hl 0 rfl) ?_
  refine lv_iconst (v := iI (0)) hE.1 hE.2.1 dX9_row_1 (by decide) ?_
  refine x_put (x := iI (0)) hE hK hN hP hS 0 (by decide) (yG_9 rfl) rfl hin9 tyX9 tyX9_ok nmX9 0 (by decide) mw_1334 rfl rfl rfl (Nat.le_of_ble_eq_true rfl) (yG_9 rfl) dX9_row_2 (fun v1 H locs hv1 hP hS => ?_)
  have hI := YI_putN hI hv1 (by decide)
  refine lv_iload_n hE.1 hE.2.1 dX9_row_5 rfl (lv_at hl 1 rfl) ?_
  refine x_sp (nn := 1) (As := [.int (iI (z_1))]) (rest := []) hE (s_X9_isSlot l (z_1) (by omega)) tt_blind (fun _ _ _ => trivial) rfl mw_1490 mw_1491 mw_123 mw_1492 (by decide +kernel) ⟨by decide, by decide⟩ hl.1 rfl (Nat.le_of_ble_eq_true rfl) ⟨Nat.zero_le _, Nat.zero_le _⟩ dX9_row_6 (fun r2 hr2 => ?_)
  obtain ⟨z2, hz2, rfl⟩ := hr2
  refine s_if_eq (a := z2) (tgt := 30) hE.1 hE.2.1 (by omega) dX9_row_9 (by decide) (fun c3 => ?_) (fun c3 => ?_)
  · skip
    refine lv_bipush (v := iI (-2)) hE.1 hE.2.1 dX9_row_30 (by decide) ?_
    exact kr _ v1 ar al _ _ _ _ rfl ⟨⟨-2, by omega, rfl⟩, hI, fun i j h => (up_oth hv1 (fun q => h (by rcases q with ⟨rfl, rfl⟩; decide))), fun i h => rfl, fun i h => rfl⟩ hP hS dX9_row_32
  · skip
    refine lv_iload_n hE.1 hE.2.1 dX9_row_12 rfl (lv_at hl 2 rfl) ?_
    refine lv_i2l (v := lI (z_2)) hE.1 hE.2.1 dX9_row_13 (iI_i2l (by omega)) ?_
    refine lv_lconst (v := lI (0)) hE.1 hE.2.1 dX9_row_14 (by decide) ?_
    refine lv_ldc2 (v := 3) hE.1 hE.2.1 hE.2.2.2.1 (hE.2.2.2.2 _ mw_1493) dX9_row_15 ?_
    refine x_topl (y := lI (3)) (by decide) ?_
    refine x_sp (nn := 3) (As := [.long (lI (z_2)), .long (lI (0)), .long (lI (3))]) (rest := []) hE (s_X9_in l (z_2) (by omega) (0) (by omega) (3) (by omega)) tt_blind (fun _ _ _ => trivial) rfl mw_1494 mw_1495 mw_123 mw_1496 (by decide +kernel) ⟨by decide, by decide⟩ hl.1 rfl (Nat.le_of_ble_eq_true rfl) ⟨Nat.zero_le _, Nat.zero_le _⟩ dX9_row_18 (fun r4 hr4 => ?_)
    obtain ⟨z4, hz4, rfl⟩ := hr4
    refine s_if_eq (a := z4) (tgt := 30) hE.1 hE.2.1 (by omega) dX9_row_21 (by decide) (fun c5 => ?_) (fun c5 => ?_)
    · skip
      refine lv_bipush (v := iI (-2)) hE.1 hE.2.1 dX9_row_30 (by decide) ?_
      exact kr _ v1 ar al _ _ _ _ rfl ⟨⟨-2, by omega, rfl⟩, hI, fun i j h => (up_oth hv1 (fun q => h (by rcases q with ⟨rfl, rfl⟩; decide))), fun i h => rfl, fun i h => rfl⟩ hP hS dX9_row_32
    · skip
      refine lv_iload_n hE.1 hE.2.1 dX9_row_24 rfl (lv_at hl 3 rfl) ?_
      refine lv_bipush (v := iI (60)) hE.1 hE.2.1 dX9_row_25 (by decide) ?_
      refine s_icmp_le (a := z_3) (b := 60) (tgt := 33) hE.1 hE.2.1 (by omega) (by omega) dX9_row_27 (by decide) (fun c6 => ?_) (fun c6 => ?_)
      · skip
        refine lv_iload_n hE.1 hE.2.1 dX9_row_33 rfl (lv_at hl 3 rfl) ?_
        refine s_if_ge (a := z_3) (tgt := 40) hE.1 hE.2.1 (by omega) dX9_row_34 (by decide) (fun c7 => ?_) (fun c7 => ?_)
        · skip
          refine lv_aload_n hE.1 hE.2.1 dX9_row_40 rfl (lv_at hl 0 rfl) ?_
          refine x_get (x := .ref (ad 1)) hE hK hP 0 (by decide) (yG_9 rfl) rfl hin9 1 (by decide) mw_1335 rfl dX9_row_41 ?_
          refine lv_iload_n hE.1 hE.2.1 dX9_row_44 rfl (lv_at hl 1 rfl) ?_
          refine lv_iload_n hE.1 hE.2.1 dX9_row_45 rfl (lv_at hl 2 rfl) ?_
          refine x_iast (j := iI (z_1)) hE hK hN hP hS 1 (by decide) (fun _ => yG_10 rfl) (iI_in (n := 4) (by omega)) dX9_row_46 (fun ar8 H locs ha8 hP hS => ?_)
          have hI := YI_ast1 (z := z_2) hI ha8 (by omega)
          refine lv_aload_n hE.1 hE.2.1 dX9_row_47 rfl (lv_at hl 0 rfl) ?_
          refine x_get (x := .ref (ad 2)) hE hK hP 0 (by decide) (yG_9 rfl) rfl hin9 2 (by decide) mw_1336 rfl dX9_row_48 ?_
          refine lv_iload_n hE.1 hE.2.1 dX9_row_51 rfl (lv_at hl 1 rfl) ?_
          refine lv_iload_n hE.1 hE.2.1 dX9_row_52 rfl (lv_at hl 3 rfl) ?_
          refine x_iast (j := iI (z_1)) hE hK hN hP hS 2 (by decide) (fun _ => yG_10 rfl) (iI_in (n := 4) (by omega)) dX9_row_53 (fun ar9 H locs ha9 hP hS => ?_)
          have hI := YI_ast2 (z := z_3) hI ha9 (by omega)
          refine lv_iconst (v := iI (0)) hE.1 hE.2.1 dX9_row_54 (by decide) ?_
          refine lv_istore (lv' := [(4, .int (iI (0))), (0, .ref (ad 0)), (1, .int (iI (z_1))), (2, .int (iI (z_2))), (3, .int (iI (z_3)))]) hE.1 hE.2.1 dX9_row_55 hl (by decide) rfl (fun ls hl => ?_)
          have loop10 : ∀ (k10 : Nat) (y10_4 : Int) (vl10 : sI) (all10 : sL) (H : Heap) (locs : List Loc) (ls : Array Slot), (60 - y10_4).toNat = k10 → (0 ≤ y10_4 ∧ y10_4 ≤ 60) → YI vl10 ar9 → (∀ i j : Nat, (i, j) ∉ ([] : List (Nat × Nat)) → vl10 i j = v1 i j) → (∀ i : Nat, i ∉ ([3] : List Nat) → all10 i = al i) → va_P D xcl (wW ad (yG ad K) 21 vl10 ar9 all10) H → va_S (inW ad 21) s.heap H locs → lv_has ls 5 [(4, .int (iI (y10_4))), (0, .ref (ad 0)), (1, .int (iI (z_1))), (2, .int (iI (z_2))), (3, .int (iI (z_3)))] → W p l e (rmD 2) s m args below meth c H locs 0 0 Q (F0 m 57 ls []) := by
            intro k10
            induction k10 using Nat.strongRecOn with
            | _ k10 ih10 =>
              intro y10_4  vl10 all10 H locs ls hk10 hb_y10_4 hI hfr10 hfl10 hP hS hl
              refine lv_iload hE.1 hE.2.1 dX9_row_57 (lv_at hl 0 rfl) ?_
              refine lv_iload_n hE.1 hE.2.1 dX9_row_59 rfl (lv_at hl 4 rfl) ?_
              refine s_icmp_ge (a := y10_4) (b := z_3) (tgt := 82) hE.1 hE.2.1 (by omega) (by omega) dX9_row_60 (by decide) (fun c11 => ?_) (fun c11 => ?_)
              · skip
                refine lv_iconst (v := iI (0)) hE.1 hE.2.1 dX9_row_82 (by decide) ?_
                exact kr _ vl10 ar9 all10 _ _ _ _ rfl ⟨⟨0, by omega, rfl⟩, hI, fun i j h => ((hfr10 i j (fun q => h (mem_sub (by decide) q))).trans (up_oth hv1 (fun q => h (by rcases q with ⟨rfl, rfl⟩; decide)))), fun i h => ((upx_ne ha9 i (fun q => h (by rw [q]; decide))).trans (upx_ne ha8 i (fun q => h (by rw [q]; decide)))), fun i h => (hfl10 i (fun q => h (mem_subn (by decide) q)))⟩ hP hS dX9_row_83
              · skip
                refine lv_aload_n hE.1 hE.2.1 dX9_row_63 rfl (lv_at hl 1 rfl) ?_
                refine x_get (x := .ref (ad 3)) hE hK hP 0 (by decide) (yG_9 rfl) rfl hin9 3 (by decide) mw_1337 rfl dX9_row_64 ?_
                refine lv_bipush (v := iI (60)) hE.1 hE.2.1 dX9_row_67 (by decide) ?_
                refine lv_iload_n hE.1 hE.2.1 dX9_row_69 rfl (lv_at hl 2 rfl) ?_
                refine lv_imul hE.1 hE.2.1 dX9_row_70 ?_
                refine x_top (y := iI (60 * z_1)) ((iI_mul (60) (z_1)).trans (congrArg iI (by omega))) ?_
                refine lv_iload hE.1 hE.2.1 dX9_row_71 (lv_at hl 0 rfl) ?_
                refine lv_iadd hE.1 hE.2.1 dX9_row_73 ?_
                refine x_top (y := iI (y10_4 + 60 * z_1)) ((iI_add (60 * z_1) (y10_4)).trans (congrArg iI (by omega))) ?_
                refine lv_lconst (v := lI (0)) hE.1 hE.2.1 dX9_row_74 (by decide) ?_
                refine x_last (j := iI (y10_4 + 60 * z_1)) hE hK hN hP hS 3 (by decide) (fun _ => yG_11 rfl) (iI_in (n := 240) (by omega)) dX9_row_75 (fun al12 H locs ha12 hP hS => ?_)
                refine lv_iinc (v := iI (y10_4 + 1)) (lv' := [(4, .int (iI (y10_4 + 1))), (0, .ref (ad 0)), (1, .int (iI (z_1))), (2, .int (iI (z_2))), (3, .int (iI (z_3)))]) hE.1 hE.2.1 dX9_row_76 hl (k := 0) rfl ((iI_add (y10_4) (1)).trans (congrArg iI (by omega))) (by decide) rfl (fun ls hl => ?_)
                refine lv_goto (tgt := 57) hE.1 hE.2.1 dX9_row_79 (by decide) ?_
                exact ih10 _ (by omega) (y10_4 + 1)  vl10  al12 _ _ _ rfl (by omega)  hI (fun i j h => (hfr10 i j h)) (fun i h => ((upx_ne ha12 i (fun q => h (by rw [q]; decide))).trans (hfl10 i h))) hP hS (lv_sub hl [0, 1, 2, 3, 4] rfl)
          exact loop10 _ (0)  v1  al _ _ _ rfl (by omega)  hI (fun _ _ _ => rfl) (fun _ _ => rfl) hP hS hl
        · skip
          refine lv_bipush (v := iI (-3)) hE.1 hE.2.1 dX9_row_37 (by decide) ?_
          exact kr _ v1 ar al _ _ _ _ rfl ⟨⟨-3, by omega, rfl⟩, hI, fun i j h => (up_oth hv1 (fun q => h (by rcases q with ⟨rfl, rfl⟩; decide))), fun i h => rfl, fun i h => rfl⟩ hP hS dX9_row_39
      · skip
        refine lv_bipush (v := iI (-2)) hE.1 hE.2.1 dX9_row_30 (by decide) ?_
        exact kr _ v1 ar al _ _ _ _ rfl ⟨⟨-2, by omega, rfl⟩, hI, fun i j h => (up_oth hv1 (fun q => h (by rcases q with ⟨rfl, rfl⟩; decide))), fun i h => rfl, fun i h => rfl⟩ hP hS dX9_row_32

theorem dX9_cut_0 : decode cX9_cut 0 = .ok (.iload_n 2, 1) := by decide +kernel
theorem dX9_cut_1 : decode cX9_cut 1 = .ok (.ifCond .ne 10, 3) := by decide +kernel
theorem dX9_cut_4 : decode cX9_cut 4 = .ok (.lload_n 0, 1) := by decide +kernel
theorem dX9_cut_5 : decode cX9_cut 5 = .ok (.l2i, 1) := by decide +kernel
theorem dX9_cut_6 : decode cX9_cut 6 = .ok (.i2b, 1) := by decide +kernel
theorem dX9_cut_7 : decode cX9_cut 7 = .ok (.i2l, 1) := by decide +kernel
theorem dX9_cut_8 : decode cX9_cut 8 = .ok (.goto 27, 3) := by decide +kernel
theorem dX9_cut_11 : decode cX9_cut 11 = .ok (.iload_n 2, 1) := by decide +kernel
theorem dX9_cut_12 : decode cX9_cut 12 = .ok (.iconst 1, 1) := by decide +kernel
theorem dX9_cut_13 : decode cX9_cut 13 = .ok (.if_icmp .ne 10, 3) := by decide +kernel
theorem dX9_cut_16 : decode cX9_cut 16 = .ok (.lload_n 0, 1) := by decide +kernel
theorem dX9_cut_17 : decode cX9_cut 17 = .ok (.l2i, 1) := by decide +kernel
theorem dX9_cut_18 : decode cX9_cut 18 = .ok (.i2s, 1) := by decide +kernel
theorem dX9_cut_19 : decode cX9_cut 19 = .ok (.i2l, 1) := by decide +kernel
theorem dX9_cut_20 : decode cX9_cut 20 = .ok (.goto 15, 3) := by decide +kernel
theorem dX9_cut_23 : decode cX9_cut 23 = .ok (.iload_n 2, 1) := by decide +kernel
theorem dX9_cut_24 : decode cX9_cut 24 = .ok (.iconst 2, 1) := by decide +kernel
theorem dX9_cut_25 : decode cX9_cut 25 = .ok (.if_icmp .ne 9, 3) := by decide +kernel
theorem dX9_cut_28 : decode cX9_cut 28 = .ok (.lload_n 0, 1) := by decide +kernel
theorem dX9_cut_29 : decode cX9_cut 29 = .ok (.l2i, 1) := by decide +kernel
theorem dX9_cut_30 : decode cX9_cut 30 = .ok (.i2l, 1) := by decide +kernel
theorem dX9_cut_31 : decode cX9_cut 31 = .ok (.goto 4, 3) := by decide +kernel
theorem dX9_cut_34 : decode cX9_cut 34 = .ok (.lload_n 0, 1) := by decide +kernel
theorem dX9_cut_35 : decode cX9_cut 35 = .ok (.lreturn, 1) := by decide +kernel
set_option maxHeartbeats 4000000 in
set_option maxRecDepth 100000 in
theorem s_X9_cut (l : Launch) (z_1 : Int) (hz_1 : -9223372036854775808 ≤ z_1 ∧ z_1 ≤ 9223372036854775807) (z_2 : Int) (hz_2 : -2147483648 ≤ z_2 ∧ z_2 ≤ 2147483647) : Met l yX9_cut (wM yX9_cut cX9_cut 3 (some .long)) (rmD 0) (va_Pc [.long (lI (z_1)), .int (iI (z_2))] (fun _ => True)) (vp_Sl (fun r => ∃ z : Int, (-9223372036854775808 ≤ z ∧ z ≤ 9223372036854775807) ∧ r = lI z)) 0 0 (fun _ => False) := by
  refine s_metL (by decide) (Nat.le_of_ble_eq_true rfl) ?_
  intro p e s m below meth c ls args Q hE hB hl kr
  have hE : CallFix p m c cX9_cut 3 s args tbG "TaleCourtModel" := hE
  have hl : lv_has ls 3 [(0, .long (lI (z_1))), (2, .int (iI (z_2)))] := hl
  refine lv_iload_n hE.1 hE.2.1 dX9_cut_0 rfl (lv_at hl 1 rfl) ?_
  refine s_if_ne (a := z_2) (tgt := 11) hE.1 hE.2.1 (by omega) dX9_cut_1 (by decide) (fun c1 => ?_) (fun c1 => ?_)
  · skip
    refine lv_iload_n hE.1 hE.2.1 dX9_cut_11 rfl (lv_at hl 1 rfl) ?_
    refine lv_iconst (v := iI (1)) hE.1 hE.2.1 dX9_cut_12 (by decide) ?_
    refine s_icmp_ne (a := z_2) (b := 1) (tgt := 23) hE.1 hE.2.1 (by omega) (by omega) dX9_cut_13 (by decide) (fun c2 => ?_) (fun c2 => ?_)
    · skip
      refine lv_iload_n hE.1 hE.2.1 dX9_cut_23 rfl (lv_at hl 1 rfl) ?_
      refine lv_iconst (v := iI (2)) hE.1 hE.2.1 dX9_cut_24 (by decide) ?_
      refine s_icmp_ne (a := z_2) (b := 2) (tgt := 34) hE.1 hE.2.1 (by omega) (by omega) dX9_cut_25 (by decide) (fun c3 => ?_) (fun c3 => ?_)
      · skip
        refine lv_lload_n hE.1 hE.2.1 dX9_cut_34 rfl (lv_at hl 0 rfl) ?_
        exact kr _ _ _ ⟨z_1, by omega, rfl⟩ dX9_cut_35
      · skip
        refine lv_lload_n hE.1 hE.2.1 dX9_cut_28 rfl (lv_at hl 0 rfl) ?_
        refine lv_l2i (v := iI (z_1)) hE.1 hE.2.1 dX9_cut_29 (lI_l2i _) ?_
        obtain ⟨z4, hz4, ez4⟩ := iI_of (iI (z_1))
        refine x_top ez4 ?_
        refine lv_i2l (v := lI (z4)) hE.1 hE.2.1 dX9_cut_30 (iI_i2l (by omega)) ?_
        refine lv_goto (tgt := 35) hE.1 hE.2.1 dX9_cut_31 (by decide) ?_
        exact kr _ _ _ ⟨z4, by omega, rfl⟩ dX9_cut_35
    · skip
      refine lv_lload_n hE.1 hE.2.1 dX9_cut_16 rfl (lv_at hl 0 rfl) ?_
      refine lv_l2i (v := iI (z_1)) hE.1 hE.2.1 dX9_cut_17 (lI_l2i _) ?_
      obtain ⟨z5, hz5, ez5⟩ := iI_of (iI (z_1))
      refine x_top ez5 ?_
      obtain ⟨z6, hz6, ez6⟩ := iI_of ((iI (z5)).toInt16.toInt32)
      refine lv_i2s (v := iI (z6)) hE.1 hE.2.1 dX9_cut_18 ez6 ?_
      refine lv_i2l (v := lI (z6)) hE.1 hE.2.1 dX9_cut_19 (iI_i2l (by omega)) ?_
      refine lv_goto (tgt := 35) hE.1 hE.2.1 dX9_cut_20 (by decide) ?_
      exact kr _ _ _ ⟨z6, by omega, rfl⟩ dX9_cut_35
  · skip
    refine lv_lload_n hE.1 hE.2.1 dX9_cut_4 rfl (lv_at hl 0 rfl) ?_
    refine lv_l2i (v := iI (z_1)) hE.1 hE.2.1 dX9_cut_5 (lI_l2i _) ?_
    obtain ⟨z7, hz7, ez7⟩ := iI_of (iI (z_1))
    refine x_top ez7 ?_
    obtain ⟨z8, hz8, ez8⟩ := iI_of ((iI (z7)).toInt8.toInt32)
    refine lv_i2b (v := iI (z8)) hE.1 hE.2.1 dX9_cut_6 ez8 ?_
    refine lv_i2l (v := lI (z8)) hE.1 hE.2.1 dX9_cut_7 (iI_i2l (by omega)) ?_
    refine lv_goto (tgt := 35) hE.1 hE.2.1 dX9_cut_8 (by decide) ?_
    exact kr _ _ _ ⟨z8, by omega, rfl⟩ dX9_cut_35

theorem dX9_write_0 : decode cX9_write 0 = .ok (.aload_n 0, 1) := by decide +kernel
theorem dX9_write_1 : decode cX9_write 1 = .ok (.iconst 0, 1) := by decide +kernel
theorem dX9_write_2 : decode cX9_write 2 = .ok (.putfield 81, 3) := by decide +kernel
theorem dX9_write_5 : decode cX9_write 5 = .ok (.iload_n 1, 1) := by decide +kernel
theorem dX9_write_6 : decode cX9_write 6 = .ok (.invokestatic 90, 3) := by decide +kernel
theorem dX9_write_9 : decode cX9_write 9 = .ok (.ifCond .ne 6, 3) := by decide +kernel
theorem dX9_write_12 : decode cX9_write 12 = .ok (.bipush (-2), 2) := by decide +kernel
theorem dX9_write_14 : decode cX9_write 14 = .ok (.ireturn, 1) := by decide +kernel
theorem dX9_write_15 : decode cX9_write 15 = .ok (.aload_n 0, 1) := by decide +kernel
theorem dX9_write_16 : decode cX9_write 16 = .ok (.getfield 7, 3) := by decide +kernel
theorem dX9_write_19 : decode cX9_write 19 = .ok (.iload_n 1, 1) := by decide +kernel
theorem dX9_write_20 : decode cX9_write 20 = .ok (.iaload, 1) := by decide +kernel
theorem dX9_write_21 : decode cX9_write 21 = .ok (.iconst (-1), 1) := by decide +kernel
theorem dX9_write_22 : decode cX9_write 22 = .ok (.if_icmp .ne 6, 3) := by decide +kernel
theorem dX9_write_25 : decode cX9_write 25 = .ok (.bipush (-6), 2) := by decide +kernel
theorem dX9_write_27 : decode cX9_write 27 = .ok (.ireturn, 1) := by decide +kernel
theorem dX9_write_28 : decode cX9_write 28 = .ok (.iload_n 2, 1) := by decide +kernel
theorem dX9_write_29 : decode cX9_write 29 = .ok (.i2l, 1) := by decide +kernel
theorem dX9_write_30 : decode cX9_write 30 = .ok (.lconst 0, 1) := by decide +kernel
theorem dX9_write_31 : decode cX9_write 31 = .ok (.aload_n 0, 1) := by decide +kernel
theorem dX9_write_32 : decode cX9_write 32 = .ok (.getfield 13, 3) := by decide +kernel
theorem dX9_write_35 : decode cX9_write 35 = .ok (.iload_n 1, 1) := by decide +kernel
theorem dX9_write_36 : decode cX9_write 36 = .ok (.iaload, 1) := by decide +kernel
theorem dX9_write_37 : decode cX9_write 37 = .ok (.iconst 1, 1) := by decide +kernel
theorem dX9_write_38 : decode cX9_write 38 = .ok (.isub, 1) := by decide +kernel
theorem dX9_write_39 : decode cX9_write 39 = .ok (.i2l, 1) := by decide +kernel
theorem dX9_write_40 : decode cX9_write 40 = .ok (.invokestatic 86, 3) := by decide +kernel
theorem dX9_write_43 : decode cX9_write 43 = .ok (.ifCond .ne 6, 3) := by decide +kernel
theorem dX9_write_46 : decode cX9_write 46 = .ok (.bipush (-7), 2) := by decide +kernel
theorem dX9_write_48 : decode cX9_write 48 = .ok (.ireturn, 1) := by decide +kernel
theorem dX9_write_49 : decode cX9_write 49 = .ok (.aload_n 0, 1) := by decide +kernel
theorem dX9_write_50 : decode cX9_write 50 = .ok (.getfield 16, 3) := by decide +kernel
theorem dX9_write_53 : decode cX9_write 53 = .ok (.bipush 60, 2) := by decide +kernel
theorem dX9_write_55 : decode cX9_write 55 = .ok (.iload_n 1, 1) := by decide +kernel
theorem dX9_write_56 : decode cX9_write 56 = .ok (.imul, 1) := by decide +kernel
theorem dX9_write_57 : decode cX9_write 57 = .ok (.iload_n 2, 1) := by decide +kernel
theorem dX9_write_58 : decode cX9_write 58 = .ok (.iadd, 1) := by decide +kernel
theorem dX9_write_59 : decode cX9_write 59 = .ok (.lload_n 3, 1) := by decide +kernel
theorem dX9_write_60 : decode cX9_write 60 = .ok (.aload_n 0, 1) := by decide +kernel
theorem dX9_write_61 : decode cX9_write 61 = .ok (.getfield 7, 3) := by decide +kernel
theorem dX9_write_64 : decode cX9_write 64 = .ok (.iload_n 1, 1) := by decide +kernel
theorem dX9_write_65 : decode cX9_write 65 = .ok (.iaload, 1) := by decide +kernel
theorem dX9_write_66 : decode cX9_write 66 = .ok (.invokestatic 94, 3) := by decide +kernel
theorem dX9_write_69 : decode cX9_write 69 = .ok (.lastore, 1) := by decide +kernel
theorem dX9_write_70 : decode cX9_write 70 = .ok (.iconst 0, 1) := by decide +kernel
theorem dX9_write_71 : decode cX9_write 71 = .ok (.ireturn, 1) := by decide +kernel
set_option maxHeartbeats 4000000 in
set_option maxRecDepth 100000 in
theorem s_X9_write (l : Launch) (D : va_G) (K : Nat → ClassId) (ad : Nat → Nat) (v ar : sI) (al : sL) (hI : YI v ar) (z_1 : Int) (hz_1 : -2147483648 ≤ z_1 ∧ z_1 ≤ 2147483647) (z_2 : Int) (hz_2 : -2147483648 ≤ z_2 ∧ z_2 ≤ 2147483647) (z_3 : Int) (hz_3 : -9223372036854775808 ≤ z_3 ∧ z_3 ≤ 9223372036854775807) : Met l yX9_write (wM yX9_write cX9_write 5 (some .int)) (rmD 2) (va_Pc [.ref (ad 0), .int (iI (z_1)), .int (iI (z_2)), .long (lI (z_3))] (wPre D K ad (yG ad K) 21 v ar al)) (va_Qi (fun (r : Int32) (u : sT) => (∃ z : Int, (-2147483648 ≤ z ∧ z ≤ 2147483647) ∧ r = iI z) ∧ YI u.1 u.2.1 ∧ (∀ i j : Nat, (i, j) ∉ ([(0, 0)] : List (Nat × Nat)) → u.1 i j = v i j) ∧ (∀ i : Nat, i ∉ ([] : List Nat) → u.2.1 i = ar i) ∧ (∀ i : Nat, i ∉ ([3] : List Nat) → u.2.2 i = al i)) (wB D ad (yG ad K) 21) (inW ad 21)) 0 0 (inW ad 21) := by
  refine s_metI (by decide) (Nat.le_of_ble_eq_true rfl) ?_
  intro p e s m below meth c ls args Q hE hB hl kr
  have hE : CallFix p m c cX9_write 5 s args tbG "TaleCourtModel" := hE
  obtain ⟨hP, hK, hN⟩ := hB
  have hS : va_S (inW ad 21) s.heap s.heap [] := va_S.rf
  have hl : lv_has ls 5 [(0, .ref (ad 0)), (1, .int (iI (z_1))), (2, .int (iI (z_2))), (3, .long (lI (z_3)))] := hl
  refine lv_aload_n hE.1 hE.2.1 dX9_write_0 rfl (lv_at hl 0 rfl) ?_
  refine lv_iconst (v := iI (0)) hE.1 hE.2.1 dX9_write_1 (by decide) ?_
  refine x_put (x := iI (0)) hE hK hN hP hS 0 (by decide) (yG_9 rfl) rfl hin9 tyX9 tyX9_ok nmX9 0 (by decide) mw_1334 rfl rfl rfl (Nat.le_of_ble_eq_true rfl) (yG_9 rfl) dX9_write_2 (fun v1 H locs hv1 hP hS => ?_)
  have hI := YI_putN hI hv1 (by decide)
  refine lv_iload_n hE.1 hE.2.1 dX9_write_5 rfl (lv_at hl 1 rfl) ?_
  refine x_sp (nn := 1) (As := [.int (iI (z_1))]) (rest := []) hE (s_X9_isSlot l (z_1) (by omega)) tt_blind (fun _ _ _ => trivial) rfl mw_1490 mw_1491 mw_123 mw_1492 (by decide +kernel) ⟨by decide, by decide⟩ hl.1 rfl (Nat.le_of_ble_eq_true rfl) ⟨Nat.zero_le _, Nat.zero_le _⟩ dX9_write_6 (fun r2 hr2 => ?_)
  obtain ⟨z2, hz2, rfl⟩ := hr2
  refine s_if_ne (a := z2) (tgt := 15) hE.1 hE.2.1 (by omega) dX9_write_9 (by decide) (fun c3 => ?_) (fun c3 => ?_)
  · skip
    refine lv_aload_n hE.1 hE.2.1 dX9_write_15 rfl (lv_at hl 0 rfl) ?_
    refine x_get (x := .ref (ad 1)) hE hK hP 0 (by decide) (yG_9 rfl) rfl hin9 1 (by decide) mw_1335 rfl dX9_write_16 ?_
    refine lv_iload_n hE.1 hE.2.1 dX9_write_19 rfl (lv_at hl 1 rfl) ?_
    refine x_iald (j := iI (z_1)) hE hK hP 1 (by decide) (yG_10 rfl) (iI_in (n := 4) (by omega)) dX9_write_20 ?_
    obtain ⟨z5, hz5, ez5⟩ := YI_a1 hI ((iI (z_1)).toNatClampNeg)
    refine x_top ez5 ?_
    refine lv_iconst (v := iI (-1)) hE.1 hE.2.1 dX9_write_21 (by decide) ?_
    refine s_icmp_ne (a := z5) (b := -1) (tgt := 28) hE.1 hE.2.1 (by omega) (by omega) dX9_write_22 (by decide) (fun c6 => ?_) (fun c6 => ?_)
    · skip
      refine lv_iload_n hE.1 hE.2.1 dX9_write_28 rfl (lv_at hl 2 rfl) ?_
      refine lv_i2l (v := lI (z_2)) hE.1 hE.2.1 dX9_write_29 (iI_i2l (by omega)) ?_
      refine lv_lconst (v := lI (0)) hE.1 hE.2.1 dX9_write_30 (by decide) ?_
      refine lv_aload_n hE.1 hE.2.1 dX9_write_31 rfl (lv_at hl 0 rfl) ?_
      refine x_get (x := .ref (ad 2)) hE hK hP 0 (by decide) (yG_9 rfl) rfl hin9 2 (by decide) mw_1336 rfl dX9_write_32 ?_
      refine lv_iload_n hE.1 hE.2.1 dX9_write_35 rfl (lv_at hl 1 rfl) ?_
      refine x_iald (j := iI (z_1)) hE hK hP 2 (by decide) (yG_10 rfl) (iI_in (n := 4) (by omega)) dX9_write_36 ?_
      obtain ⟨z8, hz8, ez8⟩ := YI_a2 hI ((iI (z_1)).toNatClampNeg)
      refine x_top ez8 ?_
      refine lv_iconst (v := iI (1)) hE.1 hE.2.1 dX9_write_37 (by decide) ?_
      refine lv_isub hE.1 hE.2.1 dX9_write_38 ?_
      refine x_top (y := iI (z8 - 1)) ((iI_sub (z8) (1)).trans (congrArg iI (by omega))) ?_
      refine lv_i2l (v := lI (z8 - 1)) hE.1 hE.2.1 dX9_write_39 (iI_i2l (by omega)) ?_
      refine x_sp (nn := 3) (As := [.long (lI (z_2)), .long (lI (0)), .long (lI (z8 - 1))]) (rest := []) hE (s_X9_in l (z_2) (by omega) (0) (by omega) (z8 - 1) (by omega)) tt_blind (fun _ _ _ => trivial) rfl mw_1494 mw_1495 mw_123 mw_1496 (by decide +kernel) ⟨by decide, by decide⟩ hl.1 rfl (Nat.le_of_ble_eq_true rfl) ⟨Nat.zero_le _, Nat.zero_le _⟩ dX9_write_40 (fun r9 hr9 => ?_)
      obtain ⟨z9, hz9, rfl⟩ := hr9
      refine s_if_ne (a := z9) (tgt := 49) hE.1 hE.2.1 (by omega) dX9_write_43 (by decide) (fun c10 => ?_) (fun c10 => ?_)
      · skip
        refine lv_aload_n hE.1 hE.2.1 dX9_write_49 rfl (lv_at hl 0 rfl) ?_
        refine x_get (x := .ref (ad 3)) hE hK hP 0 (by decide) (yG_9 rfl) rfl hin9 3 (by decide) mw_1337 rfl dX9_write_50 ?_
        refine lv_bipush (v := iI (60)) hE.1 hE.2.1 dX9_write_53 (by decide) ?_
        refine lv_iload_n hE.1 hE.2.1 dX9_write_55 rfl (lv_at hl 1 rfl) ?_
        refine lv_imul hE.1 hE.2.1 dX9_write_56 ?_
        refine x_top (y := iI (60 * z_1)) ((iI_mul (60) (z_1)).trans (congrArg iI (by omega))) ?_
        refine lv_iload_n hE.1 hE.2.1 dX9_write_57 rfl (lv_at hl 2 rfl) ?_
        refine lv_iadd hE.1 hE.2.1 dX9_write_58 ?_
        refine x_top (y := iI (60 * z_1 + z_2)) ((iI_add (60 * z_1) (z_2)).trans (congrArg iI (by omega))) ?_
        refine lv_lload_n hE.1 hE.2.1 dX9_write_59 rfl (lv_at hl 3 rfl) ?_
        refine lv_aload_n hE.1 hE.2.1 dX9_write_60 rfl (lv_at hl 0 rfl) ?_
        refine x_get (x := .ref (ad 1)) hE hK hP 0 (by decide) (yG_9 rfl) rfl hin9 1 (by decide) mw_1335 rfl dX9_write_61 ?_
        refine lv_iload_n hE.1 hE.2.1 dX9_write_64 rfl (lv_at hl 1 rfl) ?_
        refine x_iald (j := iI (z_1)) hE hK hP 1 (by decide) (yG_10 rfl) (iI_in (n := 4) (by omega)) dX9_write_65 ?_
        obtain ⟨z12, hz12, ez12⟩ := YI_a1 hI ((iI (z_1)).toNatClampNeg)
        refine x_top ez12 ?_
        refine x_spl (nn := 2) (As := [.long (lI (z_3)), .int (iI (z12))]) (rest := [.int (iI (60 * z_1 + z_2)), .ref (ad 3)]) hE (s_X9_cut l (z_3) (by omega) (z12) (by omega)) tt_blind (fun _ _ _ => trivial) rfl mw_1501 mw_1502 mw_123 mw_1503 (by decide +kernel) ⟨by decide, by decide⟩ hl.1 rfl (Nat.le_of_ble_eq_true rfl) ⟨Nat.zero_le _, Nat.zero_le _⟩ dX9_write_66 (fun r13 hr13 => ?_)
        obtain ⟨z13, hz13, rfl⟩ := hr13
        refine x_last (j := iI (60 * z_1 + z_2)) hE hK hN hP hS 3 (by decide) (fun _ => yG_11 rfl) (iI_in (n := 240) (by omega)) dX9_write_69 (fun al14 H locs ha14 hP hS => ?_)
        refine lv_iconst (v := iI (0)) hE.1 hE.2.1 dX9_write_70 (by decide) ?_
        exact kr _ v1 ar al14 _ _ _ _ rfl ⟨⟨0, by omega, rfl⟩, hI, fun i j h => (up_oth hv1 (fun q => h (by rcases q with ⟨rfl, rfl⟩; decide))), fun i h => rfl, fun i h => (upx_ne ha14 i (fun q => h (by rw [q]; decide)))⟩ hP hS dX9_write_71
      · skip
        refine lv_bipush (v := iI (-7)) hE.1 hE.2.1 dX9_write_46 (by decide) ?_
        exact kr _ v1 ar al _ _ _ _ rfl ⟨⟨-7, by omega, rfl⟩, hI, fun i j h => (up_oth hv1 (fun q => h (by rcases q with ⟨rfl, rfl⟩; decide))), fun i h => rfl, fun i h => rfl⟩ hP hS dX9_write_48
    · skip
      refine lv_bipush (v := iI (-6)) hE.1 hE.2.1 dX9_write_25 (by decide) ?_
      exact kr _ v1 ar al _ _ _ _ rfl ⟨⟨-6, by omega, rfl⟩, hI, fun i j h => (up_oth hv1 (fun q => h (by rcases q with ⟨rfl, rfl⟩; decide))), fun i h => rfl, fun i h => rfl⟩ hP hS dX9_write_27
  · skip
    refine lv_bipush (v := iI (-2)) hE.1 hE.2.1 dX9_write_12 (by decide) ?_
    exact kr _ v1 ar al _ _ _ _ rfl ⟨⟨-2, by omega, rfl⟩, hI, fun i j h => (up_oth hv1 (fun q => h (by rcases q with ⟨rfl, rfl⟩; decide))), fun i h => rfl, fun i h => rfl⟩ hP hS dX9_write_14

theorem dX9_paste_0 : decode cX9_paste 0 = .ok (.aload_n 0, 1) := by decide +kernel
theorem dX9_paste_1 : decode cX9_paste 1 = .ok (.iconst 0, 1) := by decide +kernel
theorem dX9_paste_2 : decode cX9_paste 2 = .ok (.putfield 81, 3) := by decide +kernel
theorem dX9_paste_5 : decode cX9_paste 5 = .ok (.iload_n 1, 1) := by decide +kernel
theorem dX9_paste_6 : decode cX9_paste 6 = .ok (.invokestatic 90, 3) := by decide +kernel
theorem dX9_paste_9 : decode cX9_paste 9 = .ok (.ifCond .eq 10, 3) := by decide +kernel
theorem dX9_paste_12 : decode cX9_paste 12 = .ok (.iload_n 3, 1) := by decide +kernel
theorem dX9_paste_13 : decode cX9_paste 13 = .ok (.invokestatic 90, 3) := by decide +kernel
theorem dX9_paste_16 : decode cX9_paste 16 = .ok (.ifCond .ne 6, 3) := by decide +kernel
theorem dX9_paste_19 : decode cX9_paste 19 = .ok (.bipush (-2), 2) := by decide +kernel
theorem dX9_paste_21 : decode cX9_paste 21 = .ok (.ireturn, 1) := by decide +kernel
theorem dX9_paste_22 : decode cX9_paste 22 = .ok (.aload_n 0, 1) := by decide +kernel
theorem dX9_paste_23 : decode cX9_paste 23 = .ok (.getfield 7, 3) := by decide +kernel
theorem dX9_paste_26 : decode cX9_paste 26 = .ok (.iload_n 1, 1) := by decide +kernel
theorem dX9_paste_27 : decode cX9_paste 27 = .ok (.iaload, 1) := by decide +kernel
theorem dX9_paste_28 : decode cX9_paste 28 = .ok (.iconst (-1), 1) := by decide +kernel
theorem dX9_paste_29 : decode cX9_paste 29 = .ok (.if_icmp .eq 13, 3) := by decide +kernel
theorem dX9_paste_32 : decode cX9_paste 32 = .ok (.aload_n 0, 1) := by decide +kernel
theorem dX9_paste_33 : decode cX9_paste 33 = .ok (.getfield 7, 3) := by decide +kernel
theorem dX9_paste_36 : decode cX9_paste 36 = .ok (.iload_n 3, 1) := by decide +kernel
theorem dX9_paste_37 : decode cX9_paste 37 = .ok (.iaload, 1) := by decide +kernel
theorem dX9_paste_38 : decode cX9_paste 38 = .ok (.iconst (-1), 1) := by decide +kernel
theorem dX9_paste_39 : decode cX9_paste 39 = .ok (.if_icmp .ne 6, 3) := by decide +kernel
theorem dX9_paste_42 : decode cX9_paste 42 = .ok (.bipush (-6), 2) := by decide +kernel
theorem dX9_paste_44 : decode cX9_paste 44 = .ok (.ireturn, 1) := by decide +kernel
theorem dX9_paste_45 : decode cX9_paste 45 = .ok (.aload_n 0, 1) := by decide +kernel
theorem dX9_paste_46 : decode cX9_paste 46 = .ok (.getfield 7, 3) := by decide +kernel
theorem dX9_paste_49 : decode cX9_paste 49 = .ok (.iload_n 1, 1) := by decide +kernel
theorem dX9_paste_50 : decode cX9_paste 50 = .ok (.iaload, 1) := by decide +kernel
theorem dX9_paste_51 : decode cX9_paste 51 = .ok (.aload_n 0, 1) := by decide +kernel
theorem dX9_paste_52 : decode cX9_paste 52 = .ok (.getfield 7, 3) := by decide +kernel
theorem dX9_paste_55 : decode cX9_paste 55 = .ok (.iload_n 3, 1) := by decide +kernel
theorem dX9_paste_56 : decode cX9_paste 56 = .ok (.iaload, 1) := by decide +kernel
theorem dX9_paste_57 : decode cX9_paste 57 = .ok (.if_icmp .eq 6, 3) := by decide +kernel
theorem dX9_paste_60 : decode cX9_paste 60 = .ok (.bipush (-8), 2) := by decide +kernel
theorem dX9_paste_62 : decode cX9_paste 62 = .ok (.ireturn, 1) := by decide +kernel
theorem dX9_paste_63 : decode cX9_paste 63 = .ok (.iload_n 2, 1) := by decide +kernel
theorem dX9_paste_64 : decode cX9_paste 64 = .ok (.ifCond .lt 48, 3) := by decide +kernel
theorem dX9_paste_67 : decode cX9_paste 67 = .ok (.iload 4, 2) := by decide +kernel
theorem dX9_paste_69 : decode cX9_paste 69 = .ok (.ifCond .lt 43, 3) := by decide +kernel
theorem dX9_paste_72 : decode cX9_paste 72 = .ok (.iload 5, 2) := by decide +kernel
theorem dX9_paste_74 : decode cX9_paste 74 = .ok (.ifCond .lt 38, 3) := by decide +kernel
theorem dX9_paste_77 : decode cX9_paste 77 = .ok (.iload_n 2, 1) := by decide +kernel
theorem dX9_paste_78 : decode cX9_paste 78 = .ok (.i2l, 1) := by decide +kernel
theorem dX9_paste_79 : decode cX9_paste 79 = .ok (.iload 5, 2) := by decide +kernel
theorem dX9_paste_81 : decode cX9_paste 81 = .ok (.i2l, 1) := by decide +kernel
theorem dX9_paste_82 : decode cX9_paste 82 = .ok (.ladd, 1) := by decide +kernel
theorem dX9_paste_83 : decode cX9_paste 83 = .ok (.aload_n 0, 1) := by decide +kernel
theorem dX9_paste_84 : decode cX9_paste 84 = .ok (.getfield 13, 3) := by decide +kernel
theorem dX9_paste_87 : decode cX9_paste 87 = .ok (.iload_n 1, 1) := by decide +kernel
theorem dX9_paste_88 : decode cX9_paste 88 = .ok (.iaload, 1) := by decide +kernel
theorem dX9_paste_89 : decode cX9_paste 89 = .ok (.i2l, 1) := by decide +kernel
theorem dX9_paste_90 : decode cX9_paste 90 = .ok (.lcmp, 1) := by decide +kernel
theorem dX9_paste_91 : decode cX9_paste 91 = .ok (.ifCond .gt 21, 3) := by decide +kernel
theorem dX9_paste_94 : decode cX9_paste 94 = .ok (.iload 4, 2) := by decide +kernel
theorem dX9_paste_96 : decode cX9_paste 96 = .ok (.i2l, 1) := by decide +kernel
theorem dX9_paste_97 : decode cX9_paste 97 = .ok (.iload 5, 2) := by decide +kernel
theorem dX9_paste_99 : decode cX9_paste 99 = .ok (.i2l, 1) := by decide +kernel
theorem dX9_paste_100 : decode cX9_paste 100 = .ok (.ladd, 1) := by decide +kernel
theorem dX9_paste_101 : decode cX9_paste 101 = .ok (.aload_n 0, 1) := by decide +kernel
theorem dX9_paste_102 : decode cX9_paste 102 = .ok (.getfield 13, 3) := by decide +kernel
theorem dX9_paste_105 : decode cX9_paste 105 = .ok (.iload_n 3, 1) := by decide +kernel
theorem dX9_paste_106 : decode cX9_paste 106 = .ok (.iaload, 1) := by decide +kernel
theorem dX9_paste_107 : decode cX9_paste 107 = .ok (.i2l, 1) := by decide +kernel
theorem dX9_paste_108 : decode cX9_paste 108 = .ok (.lcmp, 1) := by decide +kernel
theorem dX9_paste_109 : decode cX9_paste 109 = .ok (.ifCond .le 6, 3) := by decide +kernel
theorem dX9_paste_112 : decode cX9_paste 112 = .ok (.bipush (-7), 2) := by decide +kernel
theorem dX9_paste_114 : decode cX9_paste 114 = .ok (.ireturn, 1) := by decide +kernel
theorem dX9_paste_115 : decode cX9_paste 115 = .ok (.iconst 0, 1) := by decide +kernel
theorem dX9_paste_116 : decode cX9_paste 116 = .ok (.istore 6, 2) := by decide +kernel
theorem dX9_paste_118 : decode cX9_paste 118 = .ok (.iload 6, 2) := by decide +kernel
theorem dX9_paste_120 : decode cX9_paste 120 = .ok (.iload 5, 2) := by decide +kernel
theorem dX9_paste_122 : decode cX9_paste 122 = .ok (.if_icmp .ge 30, 3) := by decide +kernel
theorem dX9_paste_125 : decode cX9_paste 125 = .ok (.aload_n 0, 1) := by decide +kernel
theorem dX9_paste_126 : decode cX9_paste 126 = .ok (.getfield 20, 3) := by decide +kernel
theorem dX9_paste_129 : decode cX9_paste 129 = .ok (.iload 6, 2) := by decide +kernel
theorem dX9_paste_131 : decode cX9_paste 131 = .ok (.aload_n 0, 1) := by decide +kernel
theorem dX9_paste_132 : decode cX9_paste 132 = .ok (.getfield 16, 3) := by decide +kernel
theorem dX9_paste_135 : decode cX9_paste 135 = .ok (.bipush 60, 2) := by decide +kernel
theorem dX9_paste_137 : decode cX9_paste 137 = .ok (.iload_n 1, 1) := by decide +kernel
theorem dX9_paste_138 : decode cX9_paste 138 = .ok (.imul, 1) := by decide +kernel
theorem dX9_paste_139 : decode cX9_paste 139 = .ok (.iload_n 2, 1) := by decide +kernel
theorem dX9_paste_140 : decode cX9_paste 140 = .ok (.iadd, 1) := by decide +kernel
theorem dX9_paste_141 : decode cX9_paste 141 = .ok (.iload 6, 2) := by decide +kernel
theorem dX9_paste_143 : decode cX9_paste 143 = .ok (.iadd, 1) := by decide +kernel
theorem dX9_paste_144 : decode cX9_paste 144 = .ok (.laload, 1) := by decide +kernel
theorem dX9_paste_145 : decode cX9_paste 145 = .ok (.lastore, 1) := by decide +kernel
theorem dX9_paste_146 : decode cX9_paste 146 = .ok (.iinc 6 1, 3) := by decide +kernel
theorem dX9_paste_149 : decode cX9_paste 149 = .ok (.goto (-31), 3) := by decide +kernel
theorem dX9_paste_152 : decode cX9_paste 152 = .ok (.iconst 0, 1) := by decide +kernel
theorem dX9_paste_153 : decode cX9_paste 153 = .ok (.istore 6, 2) := by decide +kernel
theorem dX9_paste_155 : decode cX9_paste 155 = .ok (.iload 6, 2) := by decide +kernel
theorem dX9_paste_157 : decode cX9_paste 157 = .ok (.iload 5, 2) := by decide +kernel
theorem dX9_paste_159 : decode cX9_paste 159 = .ok (.if_icmp .ge 31, 3) := by decide +kernel
theorem dX9_paste_162 : decode cX9_paste 162 = .ok (.aload_n 0, 1) := by decide +kernel
theorem dX9_paste_163 : decode cX9_paste 163 = .ok (.getfield 16, 3) := by decide +kernel
theorem dX9_paste_166 : decode cX9_paste 166 = .ok (.bipush 60, 2) := by decide +kernel
theorem dX9_paste_168 : decode cX9_paste 168 = .ok (.iload_n 3, 1) := by decide +kernel
theorem dX9_paste_169 : decode cX9_paste 169 = .ok (.imul, 1) := by decide +kernel
theorem dX9_paste_170 : decode cX9_paste 170 = .ok (.iload 4, 2) := by decide +kernel
theorem dX9_paste_172 : decode cX9_paste 172 = .ok (.iadd, 1) := by decide +kernel
theorem dX9_paste_173 : decode cX9_paste 173 = .ok (.iload 6, 2) := by decide +kernel
theorem dX9_paste_175 : decode cX9_paste 175 = .ok (.iadd, 1) := by decide +kernel
theorem dX9_paste_176 : decode cX9_paste 176 = .ok (.aload_n 0, 1) := by decide +kernel
theorem dX9_paste_177 : decode cX9_paste 177 = .ok (.getfield 20, 3) := by decide +kernel
theorem dX9_paste_180 : decode cX9_paste 180 = .ok (.iload 6, 2) := by decide +kernel
theorem dX9_paste_182 : decode cX9_paste 182 = .ok (.laload, 1) := by decide +kernel
theorem dX9_paste_183 : decode cX9_paste 183 = .ok (.lastore, 1) := by decide +kernel
theorem dX9_paste_184 : decode cX9_paste 184 = .ok (.iinc 6 1, 3) := by decide +kernel
theorem dX9_paste_187 : decode cX9_paste 187 = .ok (.goto (-32), 3) := by decide +kernel
theorem dX9_paste_190 : decode cX9_paste 190 = .ok (.iconst 0, 1) := by decide +kernel
theorem dX9_paste_191 : decode cX9_paste 191 = .ok (.ireturn, 1) := by decide +kernel
set_option maxHeartbeats 4000000 in
set_option maxRecDepth 100000 in
theorem s_X9_paste (l : Launch) (D : va_G) (K : Nat → ClassId) (ad : Nat → Nat) (v ar : sI) (al : sL) (hI : YI v ar) (z_1 : Int) (hz_1 : -2147483648 ≤ z_1 ∧ z_1 ≤ 2147483647) (z_2 : Int) (hz_2 : -2147483648 ≤ z_2 ∧ z_2 ≤ 2147483647) (z_3 : Int) (hz_3 : -2147483648 ≤ z_3 ∧ z_3 ≤ 2147483647) (z_4 : Int) (hz_4 : -2147483648 ≤ z_4 ∧ z_4 ≤ 2147483647) (z_5 : Int) (hz_5 : -2147483648 ≤ z_5 ∧ z_5 ≤ 2147483647) : Met l yX9_paste (wM yX9_paste cX9_paste 7 (some .int)) (rmD 2) (va_Pc [.ref (ad 0), .int (iI (z_1)), .int (iI (z_2)), .int (iI (z_3)), .int (iI (z_4)), .int (iI (z_5))] (wPre D K ad (yG ad K) 21 v ar al)) (va_Qi (fun (r : Int32) (u : sT) => (∃ z : Int, (-2147483648 ≤ z ∧ z ≤ 2147483647) ∧ r = iI z) ∧ YI u.1 u.2.1 ∧ (∀ i j : Nat, (i, j) ∉ ([(0, 0)] : List (Nat × Nat)) → u.1 i j = v i j) ∧ (∀ i : Nat, i ∉ ([] : List Nat) → u.2.1 i = ar i) ∧ (∀ i : Nat, i ∉ ([3, 4] : List Nat) → u.2.2 i = al i)) (wB D ad (yG ad K) 21) (inW ad 21)) 0 0 (inW ad 21) := by
  refine s_metI (by decide) (Nat.le_of_ble_eq_true rfl) ?_
  intro p e s m below meth c ls args Q hE hB hl kr
  have hE : CallFix p m c cX9_paste 7 s args tbG "TaleCourtModel" := hE
  obtain ⟨hP, hK, hN⟩ := hB
  have hS : va_S (inW ad 21) s.heap s.heap [] := va_S.rf
  have hl : lv_has ls 7 [(0, .ref (ad 0)), (1, .int (iI (z_1))), (2, .int (iI (z_2))), (3, .int (iI (z_3))), (4, .int (iI (z_4))), (5, .int (iI (z_5)))] := hl
  refine lv_aload_n hE.1 hE.2.1 dX9_paste_0 rfl (lv_at hl 0 rfl) ?_
  refine lv_iconst (v := iI (0)) hE.1 hE.2.1 dX9_paste_1 (by decide) ?_
  refine x_put (x := iI (0)) hE hK hN hP hS 0 (by decide) (yG_9 rfl) rfl hin9 tyX9 tyX9_ok nmX9 0 (by decide) mw_1334 rfl rfl rfl (Nat.le_of_ble_eq_true rfl) (yG_9 rfl) dX9_paste_2 (fun v1 H locs hv1 hP hS => ?_)
  have hI := YI_putN hI hv1 (by decide)
  refine lv_iload_n hE.1 hE.2.1 dX9_paste_5 rfl (lv_at hl 1 rfl) ?_
  refine x_sp (nn := 1) (As := [.int (iI (z_1))]) (rest := []) hE (s_X9_isSlot l (z_1) (by omega)) tt_blind (fun _ _ _ => trivial) rfl mw_1490 mw_1491 mw_123 mw_1492 (by decide +kernel) ⟨by decide, by decide⟩ hl.1 rfl (Nat.le_of_ble_eq_true rfl) ⟨Nat.zero_le _, Nat.zero_le _⟩ dX9_paste_6 (fun r2 hr2 => ?_)
  obtain ⟨z2, hz2, rfl⟩ := hr2
  refine s_if_eq (a := z2) (tgt := 19) hE.1 hE.2.1 (by omega) dX9_paste_9 (by decide) (fun c3 => ?_) (fun c3 => ?_)
  · skip
    refine lv_bipush (v := iI (-2)) hE.1 hE.2.1 dX9_paste_19 (by decide) ?_
    exact kr _ v1 ar al _ _ _ _ rfl ⟨⟨-2, by omega, rfl⟩, hI, fun i j h => (up_oth hv1 (fun q => h (by rcases q with ⟨rfl, rfl⟩; decide))), fun i h => rfl, fun i h => rfl⟩ hP hS dX9_paste_21
  · skip
    refine lv_iload_n hE.1 hE.2.1 dX9_paste_12 rfl (lv_at hl 3 rfl) ?_
    refine x_sp (nn := 1) (As := [.int (iI (z_3))]) (rest := []) hE (s_X9_isSlot l (z_3) (by omega)) tt_blind (fun _ _ _ => trivial) rfl mw_1490 mw_1491 mw_123 mw_1492 (by decide +kernel) ⟨by decide, by decide⟩ hl.1 rfl (Nat.le_of_ble_eq_true rfl) ⟨Nat.zero_le _, Nat.zero_le _⟩ dX9_paste_13 (fun r4 hr4 => ?_)
    obtain ⟨z4, hz4, rfl⟩ := hr4
    refine s_if_ne (a := z4) (tgt := 22) hE.1 hE.2.1 (by omega) dX9_paste_16 (by decide) (fun c5 => ?_) (fun c5 => ?_)
    · skip
      refine lv_aload_n hE.1 hE.2.1 dX9_paste_22 rfl (lv_at hl 0 rfl) ?_
      refine x_get (x := .ref (ad 1)) hE hK hP 0 (by decide) (yG_9 rfl) rfl hin9 1 (by decide) mw_1335 rfl dX9_paste_23 ?_
      refine lv_iload_n hE.1 hE.2.1 dX9_paste_26 rfl (lv_at hl 1 rfl) ?_
      refine x_iald (j := iI (z_1)) hE hK hP 1 (by decide) (yG_10 rfl) (iI_in (n := 4) (by omega)) dX9_paste_27 ?_
      obtain ⟨z7, hz7, ez7⟩ := YI_a1 hI ((iI (z_1)).toNatClampNeg)
      refine x_top ez7 ?_
      refine lv_iconst (v := iI (-1)) hE.1 hE.2.1 dX9_paste_28 (by decide) ?_
      refine s_icmp_eq (a := z7) (b := -1) (tgt := 42) hE.1 hE.2.1 (by omega) (by omega) dX9_paste_29 (by decide) (fun c8 => ?_) (fun c8 => ?_)
      · skip
        refine lv_bipush (v := iI (-6)) hE.1 hE.2.1 dX9_paste_42 (by decide) ?_
        exact kr _ v1 ar al _ _ _ _ rfl ⟨⟨-6, by omega, rfl⟩, hI, fun i j h => (up_oth hv1 (fun q => h (by rcases q with ⟨rfl, rfl⟩; decide))), fun i h => rfl, fun i h => rfl⟩ hP hS dX9_paste_44
      · skip
        refine lv_aload_n hE.1 hE.2.1 dX9_paste_32 rfl (lv_at hl 0 rfl) ?_
        refine x_get (x := .ref (ad 1)) hE hK hP 0 (by decide) (yG_9 rfl) rfl hin9 1 (by decide) mw_1335 rfl dX9_paste_33 ?_
        refine lv_iload_n hE.1 hE.2.1 dX9_paste_36 rfl (lv_at hl 3 rfl) ?_
        refine x_iald (j := iI (z_3)) hE hK hP 1 (by decide) (yG_10 rfl) (iI_in (n := 4) (by omega)) dX9_paste_37 ?_
        obtain ⟨z10, hz10, ez10⟩ := YI_a1 hI ((iI (z_3)).toNatClampNeg)
        refine x_top ez10 ?_
        refine lv_iconst (v := iI (-1)) hE.1 hE.2.1 dX9_paste_38 (by decide) ?_
        refine s_icmp_ne (a := z10) (b := -1) (tgt := 45) hE.1 hE.2.1 (by omega) (by omega) dX9_paste_39 (by decide) (fun c11 => ?_) (fun c11 => ?_)
        · skip
          refine lv_aload_n hE.1 hE.2.1 dX9_paste_45 rfl (lv_at hl 0 rfl) ?_
          refine x_get (x := .ref (ad 1)) hE hK hP 0 (by decide) (yG_9 rfl) rfl hin9 1 (by decide) mw_1335 rfl dX9_paste_46 ?_
          refine lv_iload_n hE.1 hE.2.1 dX9_paste_49 rfl (lv_at hl 1 rfl) ?_
          refine x_iald (j := iI (z_1)) hE hK hP 1 (by decide) (yG_10 rfl) (iI_in (n := 4) (by omega)) dX9_paste_50 ?_
          obtain ⟨z13, hz13, ez13⟩ := YI_a1 hI ((iI (z_1)).toNatClampNeg)
          refine x_top ez13 ?_
          refine lv_aload_n hE.1 hE.2.1 dX9_paste_51 rfl (lv_at hl 0 rfl) ?_
          refine x_get (x := .ref (ad 1)) hE hK hP 0 (by decide) (yG_9 rfl) rfl hin9 1 (by decide) mw_1335 rfl dX9_paste_52 ?_
          refine lv_iload_n hE.1 hE.2.1 dX9_paste_55 rfl (lv_at hl 3 rfl) ?_
          refine x_iald (j := iI (z_3)) hE hK hP 1 (by decide) (yG_10 rfl) (iI_in (n := 4) (by omega)) dX9_paste_56 ?_
          obtain ⟨z15, hz15, ez15⟩ := YI_a1 hI ((iI (z_3)).toNatClampNeg)
          refine x_top ez15 ?_
          refine s_icmp_eq (a := z13) (b := z15) (tgt := 63) hE.1 hE.2.1 (by omega) (by omega) dX9_paste_57 (by decide) (fun c16 => ?_) (fun c16 => ?_)
          · skip
            refine lv_iload_n hE.1 hE.2.1 dX9_paste_63 rfl (lv_at hl 2 rfl) ?_
            refine s_if_lt (a := z_2) (tgt := 112) hE.1 hE.2.1 (by omega) dX9_paste_64 (by decide) (fun c17 => ?_) (fun c17 => ?_)
            · skip
              refine lv_bipush (v := iI (-7)) hE.1 hE.2.1 dX9_paste_112 (by decide) ?_
              exact kr _ v1 ar al _ _ _ _ rfl ⟨⟨-7, by omega, rfl⟩, hI, fun i j h => (up_oth hv1 (fun q => h (by rcases q with ⟨rfl, rfl⟩; decide))), fun i h => rfl, fun i h => rfl⟩ hP hS dX9_paste_114
            · skip
              refine lv_iload hE.1 hE.2.1 dX9_paste_67 (lv_at hl 4 rfl) ?_
              refine s_if_lt (a := z_4) (tgt := 112) hE.1 hE.2.1 (by omega) dX9_paste_69 (by decide) (fun c18 => ?_) (fun c18 => ?_)
              · skip
                refine lv_bipush (v := iI (-7)) hE.1 hE.2.1 dX9_paste_112 (by decide) ?_
                exact kr _ v1 ar al _ _ _ _ rfl ⟨⟨-7, by omega, rfl⟩, hI, fun i j h => (up_oth hv1 (fun q => h (by rcases q with ⟨rfl, rfl⟩; decide))), fun i h => rfl, fun i h => rfl⟩ hP hS dX9_paste_114
              · skip
                refine lv_iload hE.1 hE.2.1 dX9_paste_72 (lv_at hl 5 rfl) ?_
                refine s_if_lt (a := z_5) (tgt := 112) hE.1 hE.2.1 (by omega) dX9_paste_74 (by decide) (fun c19 => ?_) (fun c19 => ?_)
                · skip
                  refine lv_bipush (v := iI (-7)) hE.1 hE.2.1 dX9_paste_112 (by decide) ?_
                  exact kr _ v1 ar al _ _ _ _ rfl ⟨⟨-7, by omega, rfl⟩, hI, fun i j h => (up_oth hv1 (fun q => h (by rcases q with ⟨rfl, rfl⟩; decide))), fun i h => rfl, fun i h => rfl⟩ hP hS dX9_paste_114
                · skip
                  refine lv_iload_n hE.1 hE.2.1 dX9_paste_77 rfl (lv_at hl 2 rfl) ?_
                  refine lv_i2l (v := lI (z_2)) hE.1 hE.2.1 dX9_paste_78 (iI_i2l (by omega)) ?_
                  refine lv_iload hE.1 hE.2.1 dX9_paste_79 (lv_at hl 5 rfl) ?_
                  refine lv_i2l (v := lI (z_5)) hE.1 hE.2.1 dX9_paste_81 (iI_i2l (by omega)) ?_
                  refine lv_ladd hE.1 hE.2.1 dX9_paste_82 ?_
                  refine x_topl (y := lI (z_2 + z_5)) ((lI_add (z_2) (z_5)).trans (congrArg lI (by omega))) ?_
                  refine lv_aload_n hE.1 hE.2.1 dX9_paste_83 rfl (lv_at hl 0 rfl) ?_
                  refine x_get (x := .ref (ad 2)) hE hK hP 0 (by decide) (yG_9 rfl) rfl hin9 2 (by decide) mw_1336 rfl dX9_paste_84 ?_
                  refine lv_iload_n hE.1 hE.2.1 dX9_paste_87 rfl (lv_at hl 1 rfl) ?_
                  refine x_iald (j := iI (z_1)) hE hK hP 2 (by decide) (yG_10 rfl) (iI_in (n := 4) (by omega)) dX9_paste_88 ?_
                  obtain ⟨z21, hz21, ez21⟩ := YI_a2 hI ((iI (z_1)).toNatClampNeg)
                  refine x_top ez21 ?_
                  refine lv_i2l (v := lI (z21)) hE.1 hE.2.1 dX9_paste_89 (iI_i2l (by omega)) ?_
                  refine W.lcmp hE.1 hE.2.1 dX9_paste_90 ?_
                  obtain ⟨z22, hz22, ez22⟩ := lcmp_of (a := z_2 + z_5) (b := z21) (by omega) (by omega)
                  refine x_top ez22 ?_
                  refine s_if_gt (a := z22) (tgt := 112) hE.1 hE.2.1 (by omega) dX9_paste_91 (by decide) (fun c23 => ?_) (fun c23 => ?_)
                  · skip
                    refine lv_bipush (v := iI (-7)) hE.1 hE.2.1 dX9_paste_112 (by decide) ?_
                    exact kr _ v1 ar al _ _ _ _ rfl ⟨⟨-7, by omega, rfl⟩, hI, fun i j h => (up_oth hv1 (fun q => h (by rcases q with ⟨rfl, rfl⟩; decide))), fun i h => rfl, fun i h => rfl⟩ hP hS dX9_paste_114
                  · skip
                    refine lv_iload hE.1 hE.2.1 dX9_paste_94 (lv_at hl 4 rfl) ?_
                    refine lv_i2l (v := lI (z_4)) hE.1 hE.2.1 dX9_paste_96 (iI_i2l (by omega)) ?_
                    refine lv_iload hE.1 hE.2.1 dX9_paste_97 (lv_at hl 5 rfl) ?_
                    refine lv_i2l (v := lI (z_5)) hE.1 hE.2.1 dX9_paste_99 (iI_i2l (by omega)) ?_
                    refine lv_ladd hE.1 hE.2.1 dX9_paste_100 ?_
                    refine x_topl (y := lI (z_4 + z_5)) ((lI_add (z_4) (z_5)).trans (congrArg lI (by omega))) ?_
                    refine lv_aload_n hE.1 hE.2.1 dX9_paste_101 rfl (lv_at hl 0 rfl) ?_
                    refine x_get (x := .ref (ad 2)) hE hK hP 0 (by decide) (yG_9 rfl) rfl hin9 2 (by decide) mw_1336 rfl dX9_paste_102 ?_
                    refine lv_iload_n hE.1 hE.2.1 dX9_paste_105 rfl (lv_at hl 3 rfl) ?_
                    refine x_iald (j := iI (z_3)) hE hK hP 2 (by decide) (yG_10 rfl) (iI_in (n := 4) (by omega)) dX9_paste_106 ?_
                    obtain ⟨z25, hz25, ez25⟩ := YI_a2 hI ((iI (z_3)).toNatClampNeg)
                    refine x_top ez25 ?_
                    refine lv_i2l (v := lI (z25)) hE.1 hE.2.1 dX9_paste_107 (iI_i2l (by omega)) ?_
                    refine W.lcmp hE.1 hE.2.1 dX9_paste_108 ?_
                    obtain ⟨z26, hz26, ez26⟩ := lcmp_of (a := z_4 + z_5) (b := z25) (by omega) (by omega)
                    refine x_top ez26 ?_
                    refine s_if_le (a := z26) (tgt := 115) hE.1 hE.2.1 (by omega) dX9_paste_109 (by decide) (fun c27 => ?_) (fun c27 => ?_)
                    · skip
                      refine lv_iconst (v := iI (0)) hE.1 hE.2.1 dX9_paste_115 (by decide) ?_
                      refine lv_istore (lv' := [(6, .int (iI (0))), (0, .ref (ad 0)), (1, .int (iI (z_1))), (2, .int (iI (z_2))), (3, .int (iI (z_3))), (4, .int (iI (z_4))), (5, .int (iI (z_5)))]) hE.1 hE.2.1 dX9_paste_116 hl (by decide) rfl (fun ls hl => ?_)
                      have loop28 : ∀ (k28 : Nat) (y28_6 : Int) (vl28 : sI) (all28 : sL) (H : Heap) (locs : List Loc) (ls : Array Slot), (60 - y28_6).toNat = k28 → (0 ≤ y28_6 ∧ y28_6 ≤ 60) → YI vl28 ar → (∀ i j : Nat, (i, j) ∉ ([] : List (Nat × Nat)) → vl28 i j = v1 i j) → (∀ i : Nat, i ∉ ([4] : List Nat) → all28 i = al i) → va_P D xcl (wW ad (yG ad K) 21 vl28 ar all28) H → va_S (inW ad 21) s.heap H locs → lv_has ls 7 [(6, .int (iI (y28_6))), (0, .ref (ad 0)), (1, .int (iI (z_1))), (2, .int (iI (z_2))), (3, .int (iI (z_3))), (4, .int (iI (z_4))), (5, .int (iI (z_5)))] → W p l e (rmD 2) s m args below meth c H locs 0 0 Q (F0 m 118 ls []) := by
                        intro k28
                        induction k28 using Nat.strongRecOn with
                        | _ k28 ih28 =>
                          intro y28_6  vl28 all28 H locs ls hk28 hb_y28_6 hI hfr28 hfl28 hP hS hl
                          refine lv_iload hE.1 hE.2.1 dX9_paste_118 (lv_at hl 0 rfl) ?_
                          refine lv_iload hE.1 hE.2.1 dX9_paste_120 (lv_at hl 6 rfl) ?_
                          refine s_icmp_ge (a := y28_6) (b := z_5) (tgt := 152) hE.1 hE.2.1 (by omega) (by omega) dX9_paste_122 (by decide) (fun c29 => ?_) (fun c29 => ?_)
                          · skip
                            refine lv_iconst (v := iI (0)) hE.1 hE.2.1 dX9_paste_152 (by decide) ?_
                            refine lv_istore (lv' := [(6, .int (iI (0))), (0, .ref (ad 0)), (1, .int (iI (z_1))), (2, .int (iI (z_2))), (3, .int (iI (z_3))), (4, .int (iI (z_4))), (5, .int (iI (z_5)))]) hE.1 hE.2.1 dX9_paste_153 hl (by decide) rfl (fun ls hl => ?_)
                            have loop30 : ∀ (k30 : Nat) (y30_6 : Int) (vl30 : sI) (all30 : sL) (H : Heap) (locs : List Loc) (ls : Array Slot), (60 - y30_6).toNat = k30 → (0 ≤ y30_6 ∧ y30_6 ≤ 60) → YI vl30 ar → (∀ i j : Nat, (i, j) ∉ ([] : List (Nat × Nat)) → vl30 i j = vl28 i j) → (∀ i : Nat, i ∉ ([3] : List Nat) → all30 i = all28 i) → va_P D xcl (wW ad (yG ad K) 21 vl30 ar all30) H → va_S (inW ad 21) s.heap H locs → lv_has ls 7 [(6, .int (iI (y30_6))), (0, .ref (ad 0)), (1, .int (iI (z_1))), (2, .int (iI (z_2))), (3, .int (iI (z_3))), (4, .int (iI (z_4))), (5, .int (iI (z_5)))] → W p l e (rmD 2) s m args below meth c H locs 0 0 Q (F0 m 155 ls []) := by
                              intro k30
                              induction k30 using Nat.strongRecOn with
                              | _ k30 ih30 =>
                                intro y30_6  vl30 all30 H locs ls hk30 hb_y30_6 hI hfr30 hfl30 hP hS hl
                                refine lv_iload hE.1 hE.2.1 dX9_paste_155 (lv_at hl 0 rfl) ?_
                                refine lv_iload hE.1 hE.2.1 dX9_paste_157 (lv_at hl 6 rfl) ?_
                                refine s_icmp_ge (a := y30_6) (b := z_5) (tgt := 190) hE.1 hE.2.1 (by omega) (by omega) dX9_paste_159 (by decide) (fun c31 => ?_) (fun c31 => ?_)
                                · skip
                                  refine lv_iconst (v := iI (0)) hE.1 hE.2.1 dX9_paste_190 (by decide) ?_
                                  exact kr _ vl30 ar all30 _ _ _ _ rfl ⟨⟨0, by omega, rfl⟩, hI, fun i j h => ((hfr30 i j (fun q => h (mem_sub (by decide) q))).trans ((hfr28 i j (fun q => h (mem_sub (by decide) q))).trans (up_oth hv1 (fun q => h (by rcases q with ⟨rfl, rfl⟩; decide))))), fun i h => rfl, fun i h => ((hfl30 i (fun q => h (mem_subn (by decide) q))).trans (hfl28 i (fun q => h (mem_subn (by decide) q))))⟩ hP hS dX9_paste_191
                                · skip
                                  refine lv_aload_n hE.1 hE.2.1 dX9_paste_162 rfl (lv_at hl 1 rfl) ?_
                                  refine x_get (x := .ref (ad 3)) hE hK hP 0 (by decide) (yG_9 rfl) rfl hin9 3 (by decide) mw_1337 rfl dX9_paste_163 ?_
                                  refine lv_bipush (v := iI (60)) hE.1 hE.2.1 dX9_paste_166 (by decide) ?_
                                  refine lv_iload_n hE.1 hE.2.1 dX9_paste_168 rfl (lv_at hl 4 rfl) ?_
                                  refine lv_imul hE.1 hE.2.1 dX9_paste_169 ?_
                                  refine x_top (y := iI (60 * z_3)) ((iI_mul (60) (z_3)).trans (congrArg iI (by omega))) ?_
                                  refine lv_iload hE.1 hE.2.1 dX9_paste_170 (lv_at hl 5 rfl) ?_
                                  refine lv_iadd hE.1 hE.2.1 dX9_paste_172 ?_
                                  refine x_top (y := iI (60 * z_3 + z_4)) ((iI_add (60 * z_3) (z_4)).trans (congrArg iI (by omega))) ?_
                                  refine lv_iload hE.1 hE.2.1 dX9_paste_173 (lv_at hl 0 rfl) ?_
                                  refine lv_iadd hE.1 hE.2.1 dX9_paste_175 ?_
                                  refine x_top (y := iI (y30_6 + 60 * z_3 + z_4)) ((iI_add (60 * z_3 + z_4) (y30_6)).trans (congrArg iI (by omega))) ?_
                                  refine lv_aload_n hE.1 hE.2.1 dX9_paste_176 rfl (lv_at hl 1 rfl) ?_
                                  refine x_get (x := .ref (ad 4)) hE hK hP 0 (by decide) (yG_9 rfl) rfl hin9 4 (by decide) mw_1338 rfl dX9_paste_177 ?_
                                  refine lv_iload hE.1 hE.2.1 dX9_paste_180 (lv_at hl 0 rfl) ?_
                                  refine x_lald (j := iI (y30_6)) hE hK hP 4 (by decide) (yG_11 rfl) (iI_in (n := 60) (by omega)) dX9_paste_182 ?_
                                  obtain ⟨z33, hz33, ez33⟩ := lI_of (all30 4 (iI (y30_6)).toNatClampNeg)
                                  refine x_topl ez33 ?_
                                  refine x_last (j := iI (y30_6 + 60 * z_3 + z_4)) hE hK hN hP hS 3 (by decide) (fun _ => yG_11 rfl) (iI_in (n := 240) (by omega)) dX9_paste_183 (fun al34 H locs ha34 hP hS => ?_)
                                  refine lv_iinc (v := iI (y30_6 + 1)) (lv' := [(6, .int (iI (y30_6 + 1))), (0, .ref (ad 0)), (1, .int (iI (z_1))), (2, .int (iI (z_2))), (3, .int (iI (z_3))), (4, .int (iI (z_4))), (5, .int (iI (z_5)))]) hE.1 hE.2.1 dX9_paste_184 hl (k := 0) rfl ((iI_add (y30_6) (1)).trans (congrArg iI (by omega))) (by decide) rfl (fun ls hl => ?_)
                                  refine lv_goto (tgt := 155) hE.1 hE.2.1 dX9_paste_187 (by decide) ?_
                                  exact ih30 _ (by omega) (y30_6 + 1)  vl30  al34 _ _ _ rfl (by omega)  hI (fun i j h => (hfr30 i j h)) (fun i h => ((upx_ne ha34 i (fun q => h (by rw [q]; decide))).trans (hfl30 i h))) hP hS (lv_sub hl [0, 1, 2, 3, 4, 5, 6] rfl)
                            exact loop30 _ (0)  vl28  all28 _ _ _ rfl (by omega)  hI (fun _ _ _ => rfl) (fun _ _ => rfl) hP hS hl
                          · skip
                            refine lv_aload_n hE.1 hE.2.1 dX9_paste_125 rfl (lv_at hl 1 rfl) ?_
                            refine x_get (x := .ref (ad 4)) hE hK hP 0 (by decide) (yG_9 rfl) rfl hin9 4 (by decide) mw_1338 rfl dX9_paste_126 ?_
                            refine lv_iload hE.1 hE.2.1 dX9_paste_129 (lv_at hl 0 rfl) ?_
                            refine lv_aload_n hE.1 hE.2.1 dX9_paste_131 rfl (lv_at hl 1 rfl) ?_
                            refine x_get (x := .ref (ad 3)) hE hK hP 0 (by decide) (yG_9 rfl) rfl hin9 3 (by decide) mw_1337 rfl dX9_paste_132 ?_
                            refine lv_bipush (v := iI (60)) hE.1 hE.2.1 dX9_paste_135 (by decide) ?_
                            refine lv_iload_n hE.1 hE.2.1 dX9_paste_137 rfl (lv_at hl 2 rfl) ?_
                            refine lv_imul hE.1 hE.2.1 dX9_paste_138 ?_
                            refine x_top (y := iI (60 * z_1)) ((iI_mul (60) (z_1)).trans (congrArg iI (by omega))) ?_
                            refine lv_iload_n hE.1 hE.2.1 dX9_paste_139 rfl (lv_at hl 3 rfl) ?_
                            refine lv_iadd hE.1 hE.2.1 dX9_paste_140 ?_
                            refine x_top (y := iI (60 * z_1 + z_2)) ((iI_add (60 * z_1) (z_2)).trans (congrArg iI (by omega))) ?_
                            refine lv_iload hE.1 hE.2.1 dX9_paste_141 (lv_at hl 0 rfl) ?_
                            refine lv_iadd hE.1 hE.2.1 dX9_paste_143 ?_
                            refine x_top (y := iI (y28_6 + 60 * z_1 + z_2)) ((iI_add (60 * z_1 + z_2) (y28_6)).trans (congrArg iI (by omega))) ?_
                            refine x_lald (j := iI (y28_6 + 60 * z_1 + z_2)) hE hK hP 3 (by decide) (yG_11 rfl) (iI_in (n := 240) (by omega)) dX9_paste_144 ?_
                            obtain ⟨z36, hz36, ez36⟩ := lI_of (all28 3 (iI (y28_6 + 60 * z_1 + z_2)).toNatClampNeg)
                            refine x_topl ez36 ?_
                            refine x_last (j := iI (y28_6)) hE hK hN hP hS 4 (by decide) (fun _ => yG_11 rfl) (iI_in (n := 60) (by omega)) dX9_paste_145 (fun al37 H locs ha37 hP hS => ?_)
                            refine lv_iinc (v := iI (y28_6 + 1)) (lv' := [(6, .int (iI (y28_6 + 1))), (0, .ref (ad 0)), (1, .int (iI (z_1))), (2, .int (iI (z_2))), (3, .int (iI (z_3))), (4, .int (iI (z_4))), (5, .int (iI (z_5)))]) hE.1 hE.2.1 dX9_paste_146 hl (k := 0) rfl ((iI_add (y28_6) (1)).trans (congrArg iI (by omega))) (by decide) rfl (fun ls hl => ?_)
                            refine lv_goto (tgt := 118) hE.1 hE.2.1 dX9_paste_149 (by decide) ?_
                            exact ih28 _ (by omega) (y28_6 + 1)  vl28  al37 _ _ _ rfl (by omega)  hI (fun i j h => (hfr28 i j h)) (fun i h => ((upx_ne ha37 i (fun q => h (by rw [q]; decide))).trans (hfl28 i h))) hP hS (lv_sub hl [0, 1, 2, 3, 4, 5, 6] rfl)
                      exact loop28 _ (0)  v1  al _ _ _ rfl (by omega)  hI (fun _ _ _ => rfl) (fun _ _ => rfl) hP hS hl
                    · skip
                      refine lv_bipush (v := iI (-7)) hE.1 hE.2.1 dX9_paste_112 (by decide) ?_
                      exact kr _ v1 ar al _ _ _ _ rfl ⟨⟨-7, by omega, rfl⟩, hI, fun i j h => (up_oth hv1 (fun q => h (by rcases q with ⟨rfl, rfl⟩; decide))), fun i h => rfl, fun i h => rfl⟩ hP hS dX9_paste_114
          · skip
            refine lv_bipush (v := iI (-8)) hE.1 hE.2.1 dX9_paste_60 (by decide) ?_
            exact kr _ v1 ar al _ _ _ _ rfl ⟨⟨-8, by omega, rfl⟩, hI, fun i j h => (up_oth hv1 (fun q => h (by rcases q with ⟨rfl, rfl⟩; decide))), fun i h => rfl, fun i h => rfl⟩ hP hS dX9_paste_62
        · skip
          refine lv_bipush (v := iI (-6)) hE.1 hE.2.1 dX9_paste_42 (by decide) ?_
          exact kr _ v1 ar al _ _ _ _ rfl ⟨⟨-6, by omega, rfl⟩, hI, fun i j h => (up_oth hv1 (fun q => h (by rcases q with ⟨rfl, rfl⟩; decide))), fun i h => rfl, fun i h => rfl⟩ hP hS dX9_paste_44
    · skip
      refine lv_bipush (v := iI (-2)) hE.1 hE.2.1 dX9_paste_19 (by decide) ?_
      exact kr _ v1 ar al _ _ _ _ rfl ⟨⟨-2, by omega, rfl⟩, hI, fun i j h => (up_oth hv1 (fun q => h (by rcases q with ⟨rfl, rfl⟩; decide))), fun i h => rfl, fun i h => rfl⟩ hP hS dX9_paste_21

theorem dX9_four_0 : decode cX9_four 0 = .ok (.bipush 24, 2) := by decide +kernel
theorem dX9_four_2 : decode cX9_four 2 = .ok (.istore_n 2, 1) := by decide +kernel
theorem dX9_four_3 : decode cX9_four 3 = .ok (.iload_n 2, 1) := by decide +kernel
theorem dX9_four_4 : decode cX9_four 4 = .ok (.ifCond .lt 32, 3) := by decide +kernel
theorem dX9_four_7 : decode cX9_four 7 = .ok (.aload_n 0, 1) := by decide +kernel
theorem dX9_four_8 : decode cX9_four 8 = .ok (.getfield 23, 3) := by decide +kernel
theorem dX9_four_11 : decode cX9_four 11 = .ok (.aload_n 0, 1) := by decide +kernel
theorem dX9_four_12 : decode cX9_four 12 = .ok (.getfield 98, 3) := by decide +kernel
theorem dX9_four_15 : decode cX9_four 15 = .ok (.iload_n 1, 1) := by decide +kernel
theorem dX9_four_16 : decode cX9_four 16 = .ok (.iload_n 2, 1) := by decide +kernel
theorem dX9_four_17 : decode cX9_four 17 = .ok (.ishr, 1) := by decide +kernel
theorem dX9_four_18 : decode cX9_four 18 = .ok (.i2b, 1) := by decide +kernel
theorem dX9_four_19 : decode cX9_four 19 = .ok (.bastore, 1) := by decide +kernel
theorem dX9_four_20 : decode cX9_four 20 = .ok (.aload_n 0, 1) := by decide +kernel
theorem dX9_four_21 : decode cX9_four 21 = .ok (.dup, 1) := by decide +kernel
theorem dX9_four_22 : decode cX9_four 22 = .ok (.getfield 98, 3) := by decide +kernel
theorem dX9_four_25 : decode cX9_four 25 = .ok (.iconst 1, 1) := by decide +kernel
theorem dX9_four_26 : decode cX9_four 26 = .ok (.iadd, 1) := by decide +kernel
theorem dX9_four_27 : decode cX9_four 27 = .ok (.putfield 98, 3) := by decide +kernel
theorem dX9_four_30 : decode cX9_four 30 = .ok (.iinc 2 (-8), 3) := by decide +kernel
theorem dX9_four_33 : decode cX9_four 33 = .ok (.goto (-30), 3) := by decide +kernel
theorem dX9_four_36 : decode cX9_four 36 = .ok (.return_, 1) := by decide +kernel
set_option maxHeartbeats 4000000 in
set_option maxRecDepth 100000 in
theorem s_X9_four (l : Launch) (D : va_G) (K : Nat → ClassId) (ad : Nat → Nat) (v ar : sI) (al : sL) (hI : YI v ar) (w_1 : Int) (hw_1 : 0 ≤ w_1 ∧ w_1 ≤ 1596) (ew_1 : v 0 6 = iI w_1) (z_1 : Int) (hz_1 : -2147483648 ≤ z_1 ∧ z_1 ≤ 2147483647) : Met l yX9_four (wM yX9_four cX9_four 3 none) (rmD 0) (va_Pc [.ref (ad 0), .int (iI (z_1))] (wPre D K ad (yG ad K) 21 v ar al)) (va_Qv (fun u : sT => YI u.1 u.2.1 ∧ (∀ i j : Nat, (i, j) ∉ ([(0, 6)] : List (Nat × Nat)) → u.1 i j = v i j) ∧ (∀ i : Nat, i ∉ ([5] : List Nat) → u.2.1 i = ar i) ∧ (∀ i : Nat, i ∉ ([] : List Nat) → u.2.2 i = al i) ∧ (∃ x_1 : Int, (x_1 = w_1 + 4) ∧ u.1 0 6 = iI x_1)) (wB D ad (yG ad K) 21) (inW ad 21)) 0 0 (inW ad 21) := by
  refine s_metV (by decide) (Nat.le_of_ble_eq_true rfl) ?_
  intro p e s m below meth c ls args Q hE hB hl kr
  have hE : CallFix p m c cX9_four 3 s args tbG "TaleCourtModel" := hE
  obtain ⟨hP, hK, hN⟩ := hB
  have hS : va_S (inW ad 21) s.heap s.heap [] := va_S.rf
  have hl : lv_has ls 3 [(0, .ref (ad 0)), (1, .int (iI (z_1)))] := hl
  refine lv_bipush (v := iI (24)) hE.1 hE.2.1 dX9_four_0 (by decide) ?_
  refine lv_istore_n (lv' := [(2, .int (iI (24))), (0, .ref (ad 0)), (1, .int (iI (z_1)))]) hE.1 hE.2.1 dX9_four_2 rfl hl (by decide) rfl (fun ls hl => ?_)
  refine lv_iload_n hE.1 hE.2.1 dX9_four_3 rfl (lv_at hl 0 rfl) ?_
  refine s_if_lt (a := 24) (tgt := 36) hE.1 hE.2.1 (by omega) dX9_four_4 (by decide) (fun c1 => False.elim (by omega)) (fun _ => ?_)
  refine lv_aload_n hE.1 hE.2.1 dX9_four_7 rfl (lv_at hl 1 rfl) ?_
  refine x_get (x := .ref (ad 5)) hE hK hP 0 (by decide) (yG_9 rfl) rfl hin9 5 (by decide) mw_1339 rfl dX9_four_8 ?_
  refine lv_aload_n hE.1 hE.2.1 dX9_four_11 rfl (lv_at hl 1 rfl) ?_
  refine x_get (x := .int (v 0 6)) hE hK hP 0 (by decide) (yG_9 rfl) rfl hin9 6 (by decide) mw_1340 rfl dX9_four_12 ?_
  refine x_top (y := iI (w_1)) ew_1 ?_
  refine lv_iload_n hE.1 hE.2.1 dX9_four_15 rfl (lv_at hl 2 rfl) ?_
  refine lv_iload_n hE.1 hE.2.1 dX9_four_16 rfl (lv_at hl 0 rfl) ?_
  refine lv_ishr hE.1 hE.2.1 dX9_four_17 ?_
  obtain ⟨z2, hz2, ez2⟩ := iI_of (iI (z_1) >>> (iI (24) &&& 31))
  refine x_top ez2 ?_
  obtain ⟨z3, hz3, ez3⟩ := iI_of ((iI (z2)).toInt8.toInt32)
  refine lv_i2b (v := iI (z3)) hE.1 hE.2.1 dX9_four_18 ez3 ?_
  refine x_bast (j := iI (w_1)) hE hK hN hP hS 5 (by decide) (fun _ => yG_12 rfl) (iI_in (n := 1600) (by omega)) dX9_four_19 (fun ar4 H locs ha4 hP hS => ?_)
  have hI := YI_ast hI ha4 (by decide)
  refine lv_aload_n hE.1 hE.2.1 dX9_four_20 rfl (lv_at hl 1 rfl) ?_
  refine lv_dup hE.1 hE.2.1 dX9_four_21 rfl ?_
  refine x_get (x := .int (v 0 6)) hE hK hP 0 (by decide) (yG_9 rfl) rfl hin9 6 (by decide) mw_1340 rfl dX9_four_22 ?_
  refine x_top (y := iI (w_1)) ew_1 ?_
  refine lv_iconst (v := iI (1)) hE.1 hE.2.1 dX9_four_25 (by decide) ?_
  refine lv_iadd hE.1 hE.2.1 dX9_four_26 ?_
  refine x_top (y := iI (w_1 + 1)) ((iI_add (w_1) (1)).trans (congrArg iI (by omega))) ?_
  refine x_put (x := iI (w_1 + 1)) hE hK hN hP hS 0 (by decide) (yG_9 rfl) rfl hin9 tyX9 tyX9_ok nmX9 6 (by decide) mw_1340 rfl rfl rfl (Nat.le_of_ble_eq_true rfl) (yG_9 rfl) dX9_four_27 (fun v5 H locs hv5 hP hS => ?_)
  have hI := YI_putB (z := w_1 + 1) hI hv5 0 1600 (by omega) (by decide) (by omega)
  refine lv_iinc (v := iI (16)) (lv' := [(2, .int (iI (16))), (0, .ref (ad 0)), (1, .int (iI (z_1)))]) hE.1 hE.2.1 dX9_four_30 hl (k := 0) rfl ((iI_add (24) (-8)).trans (congrArg iI (by omega))) (by decide) rfl (fun ls hl => ?_)
  refine lv_goto (tgt := 3) hE.1 hE.2.1 dX9_four_33 (by decide) ?_
  refine lv_iload_n hE.1 hE.2.1 dX9_four_3 rfl (lv_at hl 0 rfl) ?_
  refine s_if_lt (a := 16) (tgt := 36) hE.1 hE.2.1 (by omega) dX9_four_4 (by decide) (fun c6 => False.elim (by omega)) (fun _ => ?_)
  refine lv_aload_n hE.1 hE.2.1 dX9_four_7 rfl (lv_at hl 1 rfl) ?_
  refine x_get (x := .ref (ad 5)) hE hK hP 0 (by decide) (yG_9 rfl) rfl hin9 5 (by decide) mw_1339 rfl dX9_four_8 ?_
  refine lv_aload_n hE.1 hE.2.1 dX9_four_11 rfl (lv_at hl 1 rfl) ?_
  refine x_get (x := .int (v5 0 6)) hE hK hP 0 (by decide) (yG_9 rfl) rfl hin9 6 (by decide) mw_1340 rfl dX9_four_12 ?_
  refine x_top (y := iI (w_1 + 1)) (up_eq hv5) ?_
  refine lv_iload_n hE.1 hE.2.1 dX9_four_15 rfl (lv_at hl 2 rfl) ?_
  refine lv_iload_n hE.1 hE.2.1 dX9_four_16 rfl (lv_at hl 0 rfl) ?_
  refine lv_ishr hE.1 hE.2.1 dX9_four_17 ?_
  obtain ⟨z7, hz7, ez7⟩ := iI_of (iI (z_1) >>> (iI (16) &&& 31))
  refine x_top ez7 ?_
  obtain ⟨z8, hz8, ez8⟩ := iI_of ((iI (z7)).toInt8.toInt32)
  refine lv_i2b (v := iI (z8)) hE.1 hE.2.1 dX9_four_18 ez8 ?_
  refine x_bast (j := iI (w_1 + 1)) hE hK hN hP hS 5 (by decide) (fun _ => yG_12 rfl) (iI_in (n := 1600) (by omega)) dX9_four_19 (fun ar9 H locs ha9 hP hS => ?_)
  have hI := YI_ast hI ha9 (by decide)
  refine lv_aload_n hE.1 hE.2.1 dX9_four_20 rfl (lv_at hl 1 rfl) ?_
  refine lv_dup hE.1 hE.2.1 dX9_four_21 rfl ?_
  refine x_get (x := .int (v5 0 6)) hE hK hP 0 (by decide) (yG_9 rfl) rfl hin9 6 (by decide) mw_1340 rfl dX9_four_22 ?_
  refine x_top (y := iI (w_1 + 1)) (up_eq hv5) ?_
  refine lv_iconst (v := iI (1)) hE.1 hE.2.1 dX9_four_25 (by decide) ?_
  refine lv_iadd hE.1 hE.2.1 dX9_four_26 ?_
  refine x_top (y := iI (w_1 + 2)) ((iI_add (w_1 + 1) (1)).trans (congrArg iI (by omega))) ?_
  refine x_put (x := iI (w_1 + 2)) hE hK hN hP hS 0 (by decide) (yG_9 rfl) rfl hin9 tyX9 tyX9_ok nmX9 6 (by decide) mw_1340 rfl rfl rfl (Nat.le_of_ble_eq_true rfl) (yG_9 rfl) dX9_four_27 (fun v10 H locs hv10 hP hS => ?_)
  have hI := YI_putB (z := w_1 + 2) hI hv10 0 1600 (by omega) (by decide) (by omega)
  refine lv_iinc (v := iI (8)) (lv' := [(2, .int (iI (8))), (0, .ref (ad 0)), (1, .int (iI (z_1)))]) hE.1 hE.2.1 dX9_four_30 hl (k := 0) rfl ((iI_add (16) (-8)).trans (congrArg iI (by omega))) (by decide) rfl (fun ls hl => ?_)
  refine lv_goto (tgt := 3) hE.1 hE.2.1 dX9_four_33 (by decide) ?_
  refine lv_iload_n hE.1 hE.2.1 dX9_four_3 rfl (lv_at hl 0 rfl) ?_
  refine s_if_lt (a := 8) (tgt := 36) hE.1 hE.2.1 (by omega) dX9_four_4 (by decide) (fun c11 => False.elim (by omega)) (fun _ => ?_)
  refine lv_aload_n hE.1 hE.2.1 dX9_four_7 rfl (lv_at hl 1 rfl) ?_
  refine x_get (x := .ref (ad 5)) hE hK hP 0 (by decide) (yG_9 rfl) rfl hin9 5 (by decide) mw_1339 rfl dX9_four_8 ?_
  refine lv_aload_n hE.1 hE.2.1 dX9_four_11 rfl (lv_at hl 1 rfl) ?_
  refine x_get (x := .int (v10 0 6)) hE hK hP 0 (by decide) (yG_9 rfl) rfl hin9 6 (by decide) mw_1340 rfl dX9_four_12 ?_
  refine x_top (y := iI (w_1 + 2)) (up_eq hv10) ?_
  refine lv_iload_n hE.1 hE.2.1 dX9_four_15 rfl (lv_at hl 2 rfl) ?_
  refine lv_iload_n hE.1 hE.2.1 dX9_four_16 rfl (lv_at hl 0 rfl) ?_
  refine lv_ishr hE.1 hE.2.1 dX9_four_17 ?_
  obtain ⟨z12, hz12, ez12⟩ := iI_of (iI (z_1) >>> (iI (8) &&& 31))
  refine x_top ez12 ?_
  obtain ⟨z13, hz13, ez13⟩ := iI_of ((iI (z12)).toInt8.toInt32)
  refine lv_i2b (v := iI (z13)) hE.1 hE.2.1 dX9_four_18 ez13 ?_
  refine x_bast (j := iI (w_1 + 2)) hE hK hN hP hS 5 (by decide) (fun _ => yG_12 rfl) (iI_in (n := 1600) (by omega)) dX9_four_19 (fun ar14 H locs ha14 hP hS => ?_)
  have hI := YI_ast hI ha14 (by decide)
  refine lv_aload_n hE.1 hE.2.1 dX9_four_20 rfl (lv_at hl 1 rfl) ?_
  refine lv_dup hE.1 hE.2.1 dX9_four_21 rfl ?_
  refine x_get (x := .int (v10 0 6)) hE hK hP 0 (by decide) (yG_9 rfl) rfl hin9 6 (by decide) mw_1340 rfl dX9_four_22 ?_
  refine x_top (y := iI (w_1 + 2)) (up_eq hv10) ?_
  refine lv_iconst (v := iI (1)) hE.1 hE.2.1 dX9_four_25 (by decide) ?_
  refine lv_iadd hE.1 hE.2.1 dX9_four_26 ?_
  refine x_top (y := iI (w_1 + 3)) ((iI_add (w_1 + 2) (1)).trans (congrArg iI (by omega))) ?_
  refine x_put (x := iI (w_1 + 3)) hE hK hN hP hS 0 (by decide) (yG_9 rfl) rfl hin9 tyX9 tyX9_ok nmX9 6 (by decide) mw_1340 rfl rfl rfl (Nat.le_of_ble_eq_true rfl) (yG_9 rfl) dX9_four_27 (fun v15 H locs hv15 hP hS => ?_)
  have hI := YI_putB (z := w_1 + 3) hI hv15 0 1600 (by omega) (by decide) (by omega)
  refine lv_iinc (v := iI (0)) (lv' := [(2, .int (iI (0))), (0, .ref (ad 0)), (1, .int (iI (z_1)))]) hE.1 hE.2.1 dX9_four_30 hl (k := 0) rfl ((iI_add (8) (-8)).trans (congrArg iI (by omega))) (by decide) rfl (fun ls hl => ?_)
  refine lv_goto (tgt := 3) hE.1 hE.2.1 dX9_four_33 (by decide) ?_
  refine lv_iload_n hE.1 hE.2.1 dX9_four_3 rfl (lv_at hl 0 rfl) ?_
  refine s_if_lt (a := 0) (tgt := 36) hE.1 hE.2.1 (by omega) dX9_four_4 (by decide) (fun c16 => False.elim (by omega)) (fun _ => ?_)
  refine lv_aload_n hE.1 hE.2.1 dX9_four_7 rfl (lv_at hl 1 rfl) ?_
  refine x_get (x := .ref (ad 5)) hE hK hP 0 (by decide) (yG_9 rfl) rfl hin9 5 (by decide) mw_1339 rfl dX9_four_8 ?_
  refine lv_aload_n hE.1 hE.2.1 dX9_four_11 rfl (lv_at hl 1 rfl) ?_
  refine x_get (x := .int (v15 0 6)) hE hK hP 0 (by decide) (yG_9 rfl) rfl hin9 6 (by decide) mw_1340 rfl dX9_four_12 ?_
  refine x_top (y := iI (w_1 + 3)) (up_eq hv15) ?_
  refine lv_iload_n hE.1 hE.2.1 dX9_four_15 rfl (lv_at hl 2 rfl) ?_
  refine lv_iload_n hE.1 hE.2.1 dX9_four_16 rfl (lv_at hl 0 rfl) ?_
  refine lv_ishr hE.1 hE.2.1 dX9_four_17 ?_
  obtain ⟨z17, hz17, ez17⟩ := iI_of (iI (z_1) >>> (iI (0) &&& 31))
  refine x_top ez17 ?_
  obtain ⟨z18, hz18, ez18⟩ := iI_of ((iI (z17)).toInt8.toInt32)
  refine lv_i2b (v := iI (z18)) hE.1 hE.2.1 dX9_four_18 ez18 ?_
  refine x_bast (j := iI (w_1 + 3)) hE hK hN hP hS 5 (by decide) (fun _ => yG_12 rfl) (iI_in (n := 1600) (by omega)) dX9_four_19 (fun ar19 H locs ha19 hP hS => ?_)
  have hI := YI_ast hI ha19 (by decide)
  refine lv_aload_n hE.1 hE.2.1 dX9_four_20 rfl (lv_at hl 1 rfl) ?_
  refine lv_dup hE.1 hE.2.1 dX9_four_21 rfl ?_
  refine x_get (x := .int (v15 0 6)) hE hK hP 0 (by decide) (yG_9 rfl) rfl hin9 6 (by decide) mw_1340 rfl dX9_four_22 ?_
  refine x_top (y := iI (w_1 + 3)) (up_eq hv15) ?_
  refine lv_iconst (v := iI (1)) hE.1 hE.2.1 dX9_four_25 (by decide) ?_
  refine lv_iadd hE.1 hE.2.1 dX9_four_26 ?_
  refine x_top (y := iI (w_1 + 4)) ((iI_add (w_1 + 3) (1)).trans (congrArg iI (by omega))) ?_
  refine x_put (x := iI (w_1 + 4)) hE hK hN hP hS 0 (by decide) (yG_9 rfl) rfl hin9 tyX9 tyX9_ok nmX9 6 (by decide) mw_1340 rfl rfl rfl (Nat.le_of_ble_eq_true rfl) (yG_9 rfl) dX9_four_27 (fun v20 H locs hv20 hP hS => ?_)
  have hI := YI_putB (z := w_1 + 4) hI hv20 0 1600 (by omega) (by decide) (by omega)
  refine lv_iinc (v := iI (-8)) (lv' := [(2, .int (iI (-8))), (0, .ref (ad 0)), (1, .int (iI (z_1)))]) hE.1 hE.2.1 dX9_four_30 hl (k := 0) rfl ((iI_add (0) (-8)).trans (congrArg iI (by omega))) (by decide) rfl (fun ls hl => ?_)
  refine lv_goto (tgt := 3) hE.1 hE.2.1 dX9_four_33 (by decide) ?_
  refine lv_iload_n hE.1 hE.2.1 dX9_four_3 rfl (lv_at hl 0 rfl) ?_
  refine s_if_lt (a := -8) (tgt := 36) hE.1 hE.2.1 (by omega) dX9_four_4 (by decide) (fun _ => ?_) (fun c21 => False.elim (by omega))
  exact kr v20 ar19 al _ _ _ _ ⟨hI, fun i j h => ((up_oth hv20 (fun q => h (by rcases q with ⟨rfl, rfl⟩; decide))).trans ((up_oth hv15 (fun q => h (by rcases q with ⟨rfl, rfl⟩; decide))).trans ((up_oth hv10 (fun q => h (by rcases q with ⟨rfl, rfl⟩; decide))).trans (up_oth hv5 (fun q => h (by rcases q with ⟨rfl, rfl⟩; decide)))))), fun i h => ((upx_ne ha19 i (fun q => h (by rw [q]; decide))).trans ((upx_ne ha14 i (fun q => h (by rw [q]; decide))).trans ((upx_ne ha9 i (fun q => h (by rw [q]; decide))).trans (upx_ne ha4 i (fun q => h (by rw [q]; decide)))))), fun i h => rfl, w_1 + 4, by omega, (up_eq hv20)⟩ hP hS dX9_four_36

theorem dX9_feed_0 : decode cX9_feed 0 = .ok (.aload_n 0, 1) := by decide +kernel
theorem dX9_feed_1 : decode cX9_feed 1 = .ok (.iconst 0, 1) := by decide +kernel
theorem dX9_feed_2 : decode cX9_feed 2 = .ok (.putfield 81, 3) := by decide +kernel
theorem dX9_feed_5 : decode cX9_feed 5 = .ok (.aload_n 0, 1) := by decide +kernel
theorem dX9_feed_6 : decode cX9_feed 6 = .ok (.getfield 98, 3) := by decide +kernel
theorem dX9_feed_9 : decode cX9_feed 9 = .ok (.bipush 20, 2) := by decide +kernel
theorem dX9_feed_11 : decode cX9_feed 11 = .ok (.iadd, 1) := by decide +kernel
theorem dX9_feed_12 : decode cX9_feed 12 = .ok (.sipush 1600, 3) := by decide +kernel
theorem dX9_feed_15 : decode cX9_feed 15 = .ok (.if_icmp .le 5, 3) := by decide +kernel
theorem dX9_feed_18 : decode cX9_feed 18 = .ok (.iconst (-1), 1) := by decide +kernel
theorem dX9_feed_19 : decode cX9_feed 19 = .ok (.ireturn, 1) := by decide +kernel
theorem dX9_feed_20 : decode cX9_feed 20 = .ok (.aload_n 0, 1) := by decide +kernel
theorem dX9_feed_21 : decode cX9_feed 21 = .ok (.iload_n 1, 1) := by decide +kernel
theorem dX9_feed_22 : decode cX9_feed 22 = .ok (.invokevirtual 101, 3) := by decide +kernel
theorem dX9_feed_25 : decode cX9_feed 25 = .ok (.aload_n 0, 1) := by decide +kernel
theorem dX9_feed_26 : decode cX9_feed 26 = .ok (.iload_n 2, 1) := by decide +kernel
theorem dX9_feed_27 : decode cX9_feed 27 = .ok (.invokevirtual 101, 3) := by decide +kernel
theorem dX9_feed_30 : decode cX9_feed 30 = .ok (.aload_n 0, 1) := by decide +kernel
theorem dX9_feed_31 : decode cX9_feed 31 = .ok (.iload_n 3, 1) := by decide +kernel
theorem dX9_feed_32 : decode cX9_feed 32 = .ok (.invokevirtual 101, 3) := by decide +kernel
theorem dX9_feed_35 : decode cX9_feed 35 = .ok (.aload_n 0, 1) := by decide +kernel
theorem dX9_feed_36 : decode cX9_feed 36 = .ok (.iload 4, 2) := by decide +kernel
theorem dX9_feed_38 : decode cX9_feed 38 = .ok (.invokevirtual 101, 3) := by decide +kernel
theorem dX9_feed_41 : decode cX9_feed 41 = .ok (.aload_n 0, 1) := by decide +kernel
theorem dX9_feed_42 : decode cX9_feed 42 = .ok (.iload 5, 2) := by decide +kernel
theorem dX9_feed_44 : decode cX9_feed 44 = .ok (.invokevirtual 101, 3) := by decide +kernel
theorem dX9_feed_47 : decode cX9_feed 47 = .ok (.aload_n 0, 1) := by decide +kernel
theorem dX9_feed_48 : decode cX9_feed 48 = .ok (.getfield 98, 3) := by decide +kernel
theorem dX9_feed_51 : decode cX9_feed 51 = .ok (.ireturn, 1) := by decide +kernel
set_option maxHeartbeats 4000000 in
set_option maxRecDepth 100000 in
theorem s_X9_feed (l : Launch) (D : va_G) (K : Nat → ClassId) (ad : Nat → Nat) (v ar : sI) (al : sL) (hI : YI v ar) (z_1 : Int) (hz_1 : -2147483648 ≤ z_1 ∧ z_1 ≤ 2147483647) (z_2 : Int) (hz_2 : -2147483648 ≤ z_2 ∧ z_2 ≤ 2147483647) (z_3 : Int) (hz_3 : -2147483648 ≤ z_3 ∧ z_3 ≤ 2147483647) (z_4 : Int) (hz_4 : -2147483648 ≤ z_4 ∧ z_4 ≤ 2147483647) (z_5 : Int) (hz_5 : -2147483648 ≤ z_5 ∧ z_5 ≤ 2147483647) : Met l yX9_feed (wM yX9_feed cX9_feed 6 (some .int)) (rmD 1) (va_Pc [.ref (ad 0), .int (iI (z_1)), .int (iI (z_2)), .int (iI (z_3)), .int (iI (z_4)), .int (iI (z_5))] (wPre D K ad (yG ad K) 21 v ar al)) (va_Qi (fun (r : Int32) (u : sT) => (∃ z : Int, (-2147483648 ≤ z ∧ z ≤ 2147483647) ∧ r = iI z) ∧ YI u.1 u.2.1 ∧ (∀ i j : Nat, (i, j) ∉ ([(0, 0), (0, 6)] : List (Nat × Nat)) → u.1 i j = v i j) ∧ (∀ i : Nat, i ∉ ([5] : List Nat) → u.2.1 i = ar i) ∧ (∀ i : Nat, i ∉ ([] : List Nat) → u.2.2 i = al i)) (wB D ad (yG ad K) 21) (inW ad 21)) 0 0 (inW ad 21) := by
  refine s_metI (by decide) (Nat.le_of_ble_eq_true rfl) ?_
  intro p e s m below meth c ls args Q hE hB hl kr
  have hE : CallFix p m c cX9_feed 6 s args tbG "TaleCourtModel" := hE
  obtain ⟨hP, hK, hN⟩ := hB
  have hS : va_S (inW ad 21) s.heap s.heap [] := va_S.rf
  have hl : lv_has ls 6 [(0, .ref (ad 0)), (1, .int (iI (z_1))), (2, .int (iI (z_2))), (3, .int (iI (z_3))), (4, .int (iI (z_4))), (5, .int (iI (z_5)))] := hl
  refine lv_aload_n hE.1 hE.2.1 dX9_feed_0 rfl (lv_at hl 0 rfl) ?_
  refine lv_iconst (v := iI (0)) hE.1 hE.2.1 dX9_feed_1 (by decide) ?_
  refine x_put (x := iI (0)) hE hK hN hP hS 0 (by decide) (yG_9 rfl) rfl hin9 tyX9 tyX9_ok nmX9 0 (by decide) mw_1334 rfl rfl rfl (Nat.le_of_ble_eq_true rfl) (yG_9 rfl) dX9_feed_2 (fun v1 H locs hv1 hP hS => ?_)
  have hI := YI_putN hI hv1 (by decide)
  refine lv_aload_n hE.1 hE.2.1 dX9_feed_5 rfl (lv_at hl 0 rfl) ?_
  obtain ⟨z2, hz2, ez2⟩ := YI_get hI 0 6 0 1600 (by decide)
  refine x_get (x := .int (v1 0 6)) hE hK hP 0 (by decide) (yG_9 rfl) rfl hin9 6 (by decide) mw_1340 rfl dX9_feed_6 ?_
  refine x_top (y := iI (z2)) ez2 ?_
  refine lv_bipush (v := iI (20)) hE.1 hE.2.1 dX9_feed_9 (by decide) ?_
  refine lv_iadd hE.1 hE.2.1 dX9_feed_11 ?_
  refine x_top (y := iI (z2 + 20)) ((iI_add (z2) (20)).trans (congrArg iI (by omega))) ?_
  refine lv_sipush (v := iI (1600)) hE.1 hE.2.1 dX9_feed_12 (by decide) ?_
  refine s_icmp_le (a := z2 + 20) (b := 1600) (tgt := 20) hE.1 hE.2.1 (by omega) (by omega) dX9_feed_15 (by decide) (fun c3 => ?_) (fun c3 => ?_)
  · skip
    refine lv_aload_n hE.1 hE.2.1 dX9_feed_20 rfl (lv_at hl 0 rfl) ?_
    refine lv_iload_n hE.1 hE.2.1 dX9_feed_21 rfl (lv_at hl 1 rfl) ?_
    refine x_vv (nn := 1) (As := [.int (iI (z_1))]) (rest := []) hE hK hN hP hS (s_X9_four l D K ad v1 ar al hI (z2) (by omega) ez2 (z_1) (by omega)) (x_recv hK hP 0 (by decide) (yG_9 rfl) rfl) rfl mw_1512 mw_1514 mw_47 mw_123 mw_1515 (by decide +kernel) ⟨by decide, by decide⟩ hl.1 rfl (Nat.le_of_ble_eq_true rfl) ⟨Nat.zero_le _, Nat.zero_le _⟩ dX9_feed_22 (fun v4 ar4 al4 H locs hq4 hP hS => ?_)
    obtain ⟨hI, hq4, hqa4, hql4, x4_1, hx4, ex4_1⟩ := hq4
    have hI : YI v4 ar4 := hI
    refine lv_aload_n hE.1 hE.2.1 dX9_feed_25 rfl (lv_at hl 0 rfl) ?_
    refine lv_iload_n hE.1 hE.2.1 dX9_feed_26 rfl (lv_at hl 2 rfl) ?_
    refine x_vv (nn := 1) (As := [.int (iI (z_2))]) (rest := []) hE hK hN hP hS (s_X9_four l D K ad v4 ar4 al4 hI (x4_1) (by omega) ex4_1 (z_2) (by omega)) (x_recv hK hP 0 (by decide) (yG_9 rfl) rfl) rfl mw_1512 mw_1514 mw_47 mw_123 mw_1515 (by decide +kernel) ⟨by decide, by decide⟩ hl.1 rfl (Nat.le_of_ble_eq_true rfl) ⟨Nat.zero_le _, Nat.zero_le _⟩ dX9_feed_27 (fun v5 ar5 al5 H locs hq5 hP hS => ?_)
    obtain ⟨hI, hq5, hqa5, hql5, x5_1, hx5, ex5_1⟩ := hq5
    have hI : YI v5 ar5 := hI
    refine lv_aload_n hE.1 hE.2.1 dX9_feed_30 rfl (lv_at hl 0 rfl) ?_
    refine lv_iload_n hE.1 hE.2.1 dX9_feed_31 rfl (lv_at hl 3 rfl) ?_
    refine x_vv (nn := 1) (As := [.int (iI (z_3))]) (rest := []) hE hK hN hP hS (s_X9_four l D K ad v5 ar5 al5 hI (x5_1) (by omega) ex5_1 (z_3) (by omega)) (x_recv hK hP 0 (by decide) (yG_9 rfl) rfl) rfl mw_1512 mw_1514 mw_47 mw_123 mw_1515 (by decide +kernel) ⟨by decide, by decide⟩ hl.1 rfl (Nat.le_of_ble_eq_true rfl) ⟨Nat.zero_le _, Nat.zero_le _⟩ dX9_feed_32 (fun v6 ar6 al6 H locs hq6 hP hS => ?_)
    obtain ⟨hI, hq6, hqa6, hql6, x6_1, hx6, ex6_1⟩ := hq6
    have hI : YI v6 ar6 := hI
    refine lv_aload_n hE.1 hE.2.1 dX9_feed_35 rfl (lv_at hl 0 rfl) ?_
    refine lv_iload hE.1 hE.2.1 dX9_feed_36 (lv_at hl 4 rfl) ?_
    refine x_vv (nn := 1) (As := [.int (iI (z_4))]) (rest := []) hE hK hN hP hS (s_X9_four l D K ad v6 ar6 al6 hI (x6_1) (by omega) ex6_1 (z_4) (by omega)) (x_recv hK hP 0 (by decide) (yG_9 rfl) rfl) rfl mw_1512 mw_1514 mw_47 mw_123 mw_1515 (by decide +kernel) ⟨by decide, by decide⟩ hl.1 rfl (Nat.le_of_ble_eq_true rfl) ⟨Nat.zero_le _, Nat.zero_le _⟩ dX9_feed_38 (fun v7 ar7 al7 H locs hq7 hP hS => ?_)
    obtain ⟨hI, hq7, hqa7, hql7, x7_1, hx7, ex7_1⟩ := hq7
    have hI : YI v7 ar7 := hI
    refine lv_aload_n hE.1 hE.2.1 dX9_feed_41 rfl (lv_at hl 0 rfl) ?_
    refine lv_iload hE.1 hE.2.1 dX9_feed_42 (lv_at hl 5 rfl) ?_
    refine x_vv (nn := 1) (As := [.int (iI (z_5))]) (rest := []) hE hK hN hP hS (s_X9_four l D K ad v7 ar7 al7 hI (x7_1) (by omega) ex7_1 (z_5) (by omega)) (x_recv hK hP 0 (by decide) (yG_9 rfl) rfl) rfl mw_1512 mw_1514 mw_47 mw_123 mw_1515 (by decide +kernel) ⟨by decide, by decide⟩ hl.1 rfl (Nat.le_of_ble_eq_true rfl) ⟨Nat.zero_le _, Nat.zero_le _⟩ dX9_feed_44 (fun v8 ar8 al8 H locs hq8 hP hS => ?_)
    obtain ⟨hI, hq8, hqa8, hql8, x8_1, hx8, ex8_1⟩ := hq8
    have hI : YI v8 ar8 := hI
    refine lv_aload_n hE.1 hE.2.1 dX9_feed_47 rfl (lv_at hl 0 rfl) ?_
    refine x_get (x := .int (v8 0 6)) hE hK hP 0 (by decide) (yG_9 rfl) rfl hin9 6 (by decide) mw_1340 rfl dX9_feed_48 ?_
    refine x_top (y := iI (x8_1)) ex8_1 ?_
    exact kr _ v8 ar8 al8 _ _ _ _ rfl ⟨⟨x8_1, by omega, rfl⟩, hI, fun i j h => ((hq8 i j (fun q => h (mem_sub (by decide) q))).trans ((hq7 i j (fun q => h (mem_sub (by decide) q))).trans ((hq6 i j (fun q => h (mem_sub (by decide) q))).trans ((hq5 i j (fun q => h (mem_sub (by decide) q))).trans ((hq4 i j (fun q => h (mem_sub (by decide) q))).trans (up_oth hv1 (fun q => h (by rcases q with ⟨rfl, rfl⟩; decide)))))))), fun i h => ((hqa8 i (fun q => h (mem_subn (by decide) q))).trans ((hqa7 i (fun q => h (mem_subn (by decide) q))).trans ((hqa6 i (fun q => h (mem_subn (by decide) q))).trans ((hqa5 i (fun q => h (mem_subn (by decide) q))).trans (hqa4 i (fun q => h (mem_subn (by decide) q))))))), fun i h => ((hql8 i (fun q => h (mem_subn (by decide) q))).trans ((hql7 i (fun q => h (mem_subn (by decide) q))).trans ((hql6 i (fun q => h (mem_subn (by decide) q))).trans ((hql5 i (fun q => h (mem_subn (by decide) q))).trans (hql4 i (fun q => h (mem_subn (by decide) q)))))))⟩ hP hS dX9_feed_51
  · skip
    refine lv_iconst (v := iI (-1)) hE.1 hE.2.1 dX9_feed_18 (by decide) ?_
    exact kr _ v1 ar al _ _ _ _ rfl ⟨⟨-1, by omega, rfl⟩, hI, fun i j h => (up_oth hv1 (fun q => h (by rcases q with ⟨rfl, rfl⟩; decide))), fun i h => rfl, fun i h => rfl⟩ hP hS dX9_feed_19

theorem dX9_end_0 : decode cX9_end 0 = .ok (.aload_n 0, 1) := by decide +kernel
theorem dX9_end_1 : decode cX9_end 1 = .ok (.iconst 0, 1) := by decide +kernel
theorem dX9_end_2 : decode cX9_end 2 = .ok (.putfield 81, 3) := by decide +kernel
theorem dX9_end_5 : decode cX9_end 5 = .ok (.iload_n 1, 1) := by decide +kernel
theorem dX9_end_6 : decode cX9_end 6 = .ok (.i2l, 1) := by decide +kernel
theorem dX9_end_7 : decode cX9_end 7 = .ok (.lconst 0, 1) := by decide +kernel
theorem dX9_end_8 : decode cX9_end 8 = .ok (.aload_n 0, 1) := by decide +kernel
theorem dX9_end_9 : decode cX9_end 9 = .ok (.getfield 98, 3) := by decide +kernel
theorem dX9_end_12 : decode cX9_end 12 = .ok (.i2l, 1) := by decide +kernel
theorem dX9_end_13 : decode cX9_end 13 = .ok (.invokestatic 86, 3) := by decide +kernel
theorem dX9_end_16 : decode cX9_end 16 = .ok (.ifCond .ne 5, 3) := by decide +kernel
theorem dX9_end_19 : decode cX9_end 19 = .ok (.iconst (-1), 1) := by decide +kernel
theorem dX9_end_20 : decode cX9_end 20 = .ok (.ireturn, 1) := by decide +kernel
theorem dX9_end_21 : decode cX9_end 21 = .ok (.aload_n 0, 1) := by decide +kernel
theorem dX9_end_22 : decode cX9_end 22 = .ok (.iload_n 1, 1) := by decide +kernel
theorem dX9_end_23 : decode cX9_end 23 = .ok (.putfield 98, 3) := by decide +kernel
theorem dX9_end_26 : decode cX9_end 26 = .ok (.iload_n 1, 1) := by decide +kernel
theorem dX9_end_27 : decode cX9_end 27 = .ok (.ireturn, 1) := by decide +kernel
set_option maxHeartbeats 4000000 in
set_option maxRecDepth 100000 in
theorem s_X9_end (l : Launch) (D : va_G) (K : Nat → ClassId) (ad : Nat → Nat) (v ar : sI) (al : sL) (hI : YI v ar) (z_1 : Int) (hz_1 : -2147483648 ≤ z_1 ∧ z_1 ≤ 2147483647) : Met l yX9_end (wM yX9_end cX9_end 2 (some .int)) (rmD 1) (va_Pc [.ref (ad 0), .int (iI (z_1))] (wPre D K ad (yG ad K) 21 v ar al)) (va_Qi (fun (r : Int32) (u : sT) => (∃ z : Int, (-2147483648 ≤ z ∧ z ≤ 2147483647) ∧ r = iI z) ∧ YI u.1 u.2.1 ∧ (∀ i j : Nat, (i, j) ∉ ([(0, 0), (0, 6)] : List (Nat × Nat)) → u.1 i j = v i j) ∧ (∀ i : Nat, i ∉ ([] : List Nat) → u.2.1 i = ar i) ∧ (∀ i : Nat, i ∉ ([] : List Nat) → u.2.2 i = al i)) (wB D ad (yG ad K) 21) (inW ad 21)) 0 0 (inW ad 21) := by
  refine s_metI (by decide) (Nat.le_of_ble_eq_true rfl) ?_
  intro p e s m below meth c ls args Q hE hB hl kr
  have hE : CallFix p m c cX9_end 2 s args tbG "TaleCourtModel" := hE
  obtain ⟨hP, hK, hN⟩ := hB
  have hS : va_S (inW ad 21) s.heap s.heap [] := va_S.rf
  have hl : lv_has ls 2 [(0, .ref (ad 0)), (1, .int (iI (z_1)))] := hl
  refine lv_aload_n hE.1 hE.2.1 dX9_end_0 rfl (lv_at hl 0 rfl) ?_
  refine lv_iconst (v := iI (0)) hE.1 hE.2.1 dX9_end_1 (by decide) ?_
  refine x_put (x := iI (0)) hE hK hN hP hS 0 (by decide) (yG_9 rfl) rfl hin9 tyX9 tyX9_ok nmX9 0 (by decide) mw_1334 rfl rfl rfl (Nat.le_of_ble_eq_true rfl) (yG_9 rfl) dX9_end_2 (fun v1 H locs hv1 hP hS => ?_)
  have hI := YI_putN hI hv1 (by decide)
  refine lv_iload_n hE.1 hE.2.1 dX9_end_5 rfl (lv_at hl 1 rfl) ?_
  refine lv_i2l (v := lI (z_1)) hE.1 hE.2.1 dX9_end_6 (iI_i2l (by omega)) ?_
  refine lv_lconst (v := lI (0)) hE.1 hE.2.1 dX9_end_7 (by decide) ?_
  refine lv_aload_n hE.1 hE.2.1 dX9_end_8 rfl (lv_at hl 0 rfl) ?_
  obtain ⟨z2, hz2, ez2⟩ := YI_get hI 0 6 0 1600 (by decide)
  refine x_get (x := .int (v1 0 6)) hE hK hP 0 (by decide) (yG_9 rfl) rfl hin9 6 (by decide) mw_1340 rfl dX9_end_9 ?_
  refine x_top (y := iI (z2)) ez2 ?_
  refine lv_i2l (v := lI (z2)) hE.1 hE.2.1 dX9_end_12 (iI_i2l (by omega)) ?_
  refine x_sp (nn := 3) (As := [.long (lI (z_1)), .long (lI (0)), .long (lI (z2))]) (rest := []) hE (s_X9_in l (z_1) (by omega) (0) (by omega) (z2) (by omega)) tt_blind (fun _ _ _ => trivial) rfl mw_1494 mw_1495 mw_123 mw_1496 (by decide +kernel) ⟨by decide, by decide⟩ hl.1 rfl (Nat.le_of_ble_eq_true rfl) ⟨Nat.zero_le _, Nat.zero_le _⟩ dX9_end_13 (fun r3 hr3 => ?_)
  obtain ⟨z3, hz3, rfl⟩ := hr3
  refine s_if_ne (a := z3) (tgt := 21) hE.1 hE.2.1 (by omega) dX9_end_16 (by decide) (fun c4 => ?_) (fun c4 => ?_)
  · skip
    refine lv_aload_n hE.1 hE.2.1 dX9_end_21 rfl (lv_at hl 0 rfl) ?_
    refine lv_iload_n hE.1 hE.2.1 dX9_end_22 rfl (lv_at hl 1 rfl) ?_
    refine x_put (x := iI (z_1)) hE hK hN hP hS 0 (by decide) (yG_9 rfl) rfl hin9 tyX9 tyX9_ok nmX9 6 (by decide) mw_1340 rfl rfl rfl (Nat.le_of_ble_eq_true rfl) (yG_9 rfl) dX9_end_23 (fun v5 H locs hv5 hP hS => ?_)
    have hI := YI_putB (z := z_1) hI hv5 0 1600 (by omega) (by decide) (by omega)
    refine lv_iload_n hE.1 hE.2.1 dX9_end_26 rfl (lv_at hl 1 rfl) ?_
    exact kr _ v5 ar al _ _ _ _ rfl ⟨⟨z_1, by omega, rfl⟩, hI, fun i j h => ((up_oth hv5 (fun q => h (by rcases q with ⟨rfl, rfl⟩; decide))).trans (up_oth hv1 (fun q => h (by rcases q with ⟨rfl, rfl⟩; decide)))), fun i h => rfl, fun i h => rfl⟩ hP hS dX9_end_27
  · skip
    refine lv_iconst (v := iI (-1)) hE.1 hE.2.1 dX9_end_19 (by decide) ?_
    exact kr _ v1 ar al _ _ _ _ rfl ⟨⟨-1, by omega, rfl⟩, hI, fun i j h => (up_oth hv1 (fun q => h (by rcases q with ⟨rfl, rfl⟩; decide))), fun i h => rfl, fun i h => rfl⟩ hP hS dX9_end_20

theorem dX9_fault_0 : decode cX9_fault 0 = .ok (.aload_n 0, 1) := by decide +kernel
theorem dX9_fault_1 : decode cX9_fault 1 = .ok (.iconst 0, 1) := by decide +kernel
theorem dX9_fault_2 : decode cX9_fault 2 = .ok (.putfield 81, 3) := by decide +kernel
theorem dX9_fault_5 : decode cX9_fault 5 = .ok (.iload_n 1, 1) := by decide +kernel
theorem dX9_fault_6 : decode cX9_fault 6 = .ok (.ifCond .ne 10, 3) := by decide +kernel
theorem dX9_fault_9 : decode cX9_fault 9 = .ok (.aload_n 0, 1) := by decide +kernel
theorem dX9_fault_10 : decode cX9_fault 10 = .ok (.getfield 160, 3) := by decide +kernel
theorem dX9_fault_13 : decode cX9_fault 13 = .ok (.goto 16, 3) := by decide +kernel
theorem dX9_fault_16 : decode cX9_fault 16 = .ok (.iload_n 1, 1) := by decide +kernel
theorem dX9_fault_17 : decode cX9_fault 17 = .ok (.iconst 1, 1) := by decide +kernel
theorem dX9_fault_18 : decode cX9_fault 18 = .ok (.if_icmp .ne 10, 3) := by decide +kernel
theorem dX9_fault_21 : decode cX9_fault 21 = .ok (.aload_n 0, 1) := by decide +kernel
theorem dX9_fault_22 : decode cX9_fault 22 = .ok (.getfield 27, 3) := by decide +kernel
theorem dX9_fault_25 : decode cX9_fault 25 = .ok (.goto 4, 3) := by decide +kernel
theorem dX9_fault_28 : decode cX9_fault 28 = .ok (.iconst (-1), 1) := by decide +kernel
theorem dX9_fault_29 : decode cX9_fault 29 = .ok (.ireturn, 1) := by decide +kernel
set_option maxHeartbeats 4000000 in
set_option maxRecDepth 100000 in
theorem s_X9_fault (l : Launch) (D : va_G) (K : Nat → ClassId) (ad : Nat → Nat) (v ar : sI) (al : sL) (hI : YI v ar) (z_1 : Int) (hz_1 : -2147483648 ≤ z_1 ∧ z_1 ≤ 2147483647) : Met l yX9_fault (wM yX9_fault cX9_fault 2 (some .int)) (rmD 0) (va_Pc [.ref (ad 0), .int (iI (z_1))] (wPre D K ad (yG ad K) 21 v ar al)) (va_Qi (fun (r : Int32) (u : sT) => (∃ z : Int, (-2147483648 ≤ z ∧ z ≤ 2147483647) ∧ r = iI z) ∧ YI u.1 u.2.1 ∧ (∀ i j : Nat, (i, j) ∉ ([(0, 0)] : List (Nat × Nat)) → u.1 i j = v i j) ∧ (∀ i : Nat, i ∉ ([] : List Nat) → u.2.1 i = ar i) ∧ (∀ i : Nat, i ∉ ([] : List Nat) → u.2.2 i = al i)) (wB D ad (yG ad K) 21) (inW ad 21)) 0 0 (inW ad 21) := by
  refine s_metI (by decide) (Nat.le_of_ble_eq_true rfl) ?_
  intro p e s m below meth c ls args Q hE hB hl kr
  have hE : CallFix p m c cX9_fault 2 s args tbG "TaleCourtModel" := hE
  obtain ⟨hP, hK, hN⟩ := hB
  have hS : va_S (inW ad 21) s.heap s.heap [] := va_S.rf
  have hl : lv_has ls 2 [(0, .ref (ad 0)), (1, .int (iI (z_1)))] := hl
  refine lv_aload_n hE.1 hE.2.1 dX9_fault_0 rfl (lv_at hl 0 rfl) ?_
  refine lv_iconst (v := iI (0)) hE.1 hE.2.1 dX9_fault_1 (by decide) ?_
  refine x_put (x := iI (0)) hE hK hN hP hS 0 (by decide) (yG_9 rfl) rfl hin9 tyX9 tyX9_ok nmX9 0 (by decide) mw_1334 rfl rfl rfl (Nat.le_of_ble_eq_true rfl) (yG_9 rfl) dX9_fault_2 (fun v1 H locs hv1 hP hS => ?_)
  have hI := YI_putN hI hv1 (by decide)
  refine lv_iload_n hE.1 hE.2.1 dX9_fault_5 rfl (lv_at hl 1 rfl) ?_
  refine s_if_ne (a := z_1) (tgt := 16) hE.1 hE.2.1 (by omega) dX9_fault_6 (by decide) (fun c2 => ?_) (fun c2 => ?_)
  · skip
    refine lv_iload_n hE.1 hE.2.1 dX9_fault_16 rfl (lv_at hl 1 rfl) ?_
    refine lv_iconst (v := iI (1)) hE.1 hE.2.1 dX9_fault_17 (by decide) ?_
    refine s_icmp_ne (a := z_1) (b := 1) (tgt := 28) hE.1 hE.2.1 (by omega) (by omega) dX9_fault_18 (by decide) (fun c3 => ?_) (fun c3 => ?_)
    · skip
      refine lv_iconst (v := iI (-1)) hE.1 hE.2.1 dX9_fault_28 (by decide) ?_
      exact kr _ v1 ar al _ _ _ _ rfl ⟨⟨-1, by omega, rfl⟩, hI, fun i j h => (up_oth hv1 (fun q => h (by rcases q with ⟨rfl, rfl⟩; decide))), fun i h => rfl, fun i h => rfl⟩ hP hS dX9_fault_29
    · skip
      refine lv_aload_n hE.1 hE.2.1 dX9_fault_21 rfl (lv_at hl 0 rfl) ?_
      obtain ⟨z4, hz4, ez4⟩ := iI_of (v1 0 15)
      refine x_get (x := .int (v1 0 15)) hE hK hP 0 (by decide) (yG_9 rfl) rfl hin9 15 (by decide) mw_1349 rfl dX9_fault_22 ?_
      refine x_top (y := iI (z4)) ez4 ?_
      refine lv_goto (tgt := 29) hE.1 hE.2.1 dX9_fault_25 (by decide) ?_
      exact kr _ v1 ar al _ _ _ _ rfl ⟨⟨z4, by omega, rfl⟩, hI, fun i j h => (up_oth hv1 (fun q => h (by rcases q with ⟨rfl, rfl⟩; decide))), fun i h => rfl, fun i h => rfl⟩ hP hS dX9_fault_29
  · skip
    refine lv_aload_n hE.1 hE.2.1 dX9_fault_9 rfl (lv_at hl 0 rfl) ?_
    obtain ⟨z5, hz5, ez5⟩ := iI_of (v1 0 14)
    refine x_get (x := .int (v1 0 14)) hE hK hP 0 (by decide) (yG_9 rfl) rfl hin9 14 (by decide) mw_1348 rfl dX9_fault_10 ?_
    refine x_top (y := iI (z5)) ez5 ?_
    refine lv_goto (tgt := 29) hE.1 hE.2.1 dX9_fault_13 (by decide) ?_
    exact kr _ v1 ar al _ _ _ _ rfl ⟨⟨z5, by omega, rfl⟩, hI, fun i j h => (up_oth hv1 (fun q => h (by rcases q with ⟨rfl, rfl⟩; decide))), fun i h => rfl, fun i h => rfl⟩ hP hS dX9_fault_29

theorem dX9_isMotif_0 : decode cX9_isMotif 0 = .ok (.lload_n 1, 1) := by decide +kernel
theorem dX9_isMotif_1 : decode cX9_isMotif 1 = .ok (.lconst 0, 1) := by decide +kernel
theorem dX9_isMotif_2 : decode cX9_isMotif 2 = .ok (.aload_n 0, 1) := by decide +kernel
theorem dX9_isMotif_3 : decode cX9_isMotif 3 = .ok (.getfield 34, 3) := by decide +kernel
theorem dX9_isMotif_6 : decode cX9_isMotif 6 = .ok (.iconst 2, 1) := by decide +kernel
theorem dX9_isMotif_7 : decode cX9_isMotif 7 = .ok (.iaload, 1) := by decide +kernel
theorem dX9_isMotif_8 : decode cX9_isMotif 8 = .ok (.i2l, 1) := by decide +kernel
theorem dX9_isMotif_9 : decode cX9_isMotif 9 = .ok (.lconst 1, 1) := by decide +kernel
theorem dX9_isMotif_10 : decode cX9_isMotif 10 = .ok (.lsub, 1) := by decide +kernel
theorem dX9_isMotif_11 : decode cX9_isMotif 11 = .ok (.invokestatic 86, 3) := by decide +kernel
theorem dX9_isMotif_14 : decode cX9_isMotif 14 = .ok (.ireturn, 1) := by decide +kernel
set_option maxHeartbeats 4000000 in
set_option maxRecDepth 100000 in
theorem s_X9_isMotif (l : Launch) (D : va_G) (K : Nat → ClassId) (ad : Nat → Nat) (v ar : sI) (al : sL) (hI : YI v ar) (w_1 : Int) (hw_1 : 0 ≤ w_1 ∧ w_1 ≤ 9) (ew_1 : ar 7 2 = iI w_1) (z_1 : Int) (hz_1 : -9223372036854775808 ≤ z_1 ∧ z_1 ≤ 9223372036854775807) : Met l yX9_isMotif (wM yX9_isMotif cX9_isMotif 3 (some .boolean)) (rmD 1) (va_Pc [.ref (ad 0), .long (lI (z_1))] (wPre D K ad (yG ad K) 21 v ar al)) (vp_Si (fun r => ∃ z : Int, ((z = 0 ∧ (z_1 < 0 ∨ w_1 ≤ z_1)) ∨ (z = 1 ∧ 0 ≤ z_1 ∧ z_1 < w_1)) ∧ r = iI z)) 0 0 (fun _ => False) := by
  refine s_metP (by decide) (Nat.le_of_ble_eq_true rfl) ?_
  intro p e s m below meth c ls args Q hE hB hl kr
  have hE : CallFix p m c cX9_isMotif 3 s args tbG "TaleCourtModel" := hE
  obtain ⟨hP, hK, hN⟩ := hB
  have hl : lv_has ls 3 [(0, .ref (ad 0)), (1, .long (lI (z_1)))] := hl
  refine lv_lload_n hE.1 hE.2.1 dX9_isMotif_0 rfl (lv_at hl 1 rfl) ?_
  refine lv_lconst (v := lI (0)) hE.1 hE.2.1 dX9_isMotif_1 (by decide) ?_
  refine lv_aload_n hE.1 hE.2.1 dX9_isMotif_2 rfl (lv_at hl 0 rfl) ?_
  refine x_get (x := .ref (ad 7)) hE hK hP 0 (by decide) (yG_9 rfl) rfl hin9 17 (by decide) mw_1351 rfl dX9_isMotif_3 ?_
  refine lv_iconst (v := iI (2)) hE.1 hE.2.1 dX9_isMotif_6 (by decide) ?_
  refine x_iald (j := iI (2)) hE hK hP 7 (by decide) (yG_10 rfl) (iI_in (n := 30) (by omega)) dX9_isMotif_7 ?_
  refine x_top (y := iI (w_1)) (by rw [show (iI (2)).toNatClampNeg = 2 from by decide]; exact ew_1) ?_
  refine lv_i2l (v := lI (w_1)) hE.1 hE.2.1 dX9_isMotif_8 (iI_i2l (by omega)) ?_
  refine lv_lconst (v := lI (1)) hE.1 hE.2.1 dX9_isMotif_9 (by decide) ?_
  refine lv_lsub hE.1 hE.2.1 dX9_isMotif_10 ?_
  refine x_topl (y := lI (w_1 - 1)) ((lI_sub (w_1) (1)).trans (congrArg lI (by omega))) ?_
  refine x_sp (nn := 3) (As := [.long (lI (z_1)), .long (lI (0)), .long (lI (w_1 - 1))]) (rest := []) hE (s_X9_in l (z_1) (by omega) (0) (by omega) (w_1 - 1) (by omega)) tt_blind (fun _ _ _ => trivial) rfl mw_1494 mw_1495 mw_123 mw_1496 (by decide +kernel) ⟨by decide, by decide⟩ hl.1 rfl (Nat.le_of_ble_eq_true rfl) ⟨Nat.zero_le _, Nat.zero_le _⟩ dX9_isMotif_11 (fun r2 hr2 => ?_)
  obtain ⟨z2, hz2, rfl⟩ := hr2
  exact kr _ _ _ (nar01 (by omega)) ⟨z2, by omega, rfl⟩ dX9_isMotif_14

theorem dX9_of_0 : decode cX9_of 0 = .ok (.aload_n 0, 1) := by decide +kernel
theorem dX9_of_1 : decode cX9_of 1 = .ok (.getfield 37, 3) := by decide +kernel
theorem dX9_of_4 : decode cX9_of 4 = .ok (.bipush 9, 2) := by decide +kernel
theorem dX9_of_6 : decode cX9_of 6 = .ok (.iload_n 1, 1) := by decide +kernel
theorem dX9_of_7 : decode cX9_of 7 = .ok (.imul, 1) := by decide +kernel
theorem dX9_of_8 : decode cX9_of 8 = .ok (.iload_n 2, 1) := by decide +kernel
theorem dX9_of_9 : decode cX9_of 9 = .ok (.iadd, 1) := by decide +kernel
theorem dX9_of_10 : decode cX9_of 10 = .ok (.iaload, 1) := by decide +kernel
theorem dX9_of_11 : decode cX9_of 11 = .ok (.ireturn, 1) := by decide +kernel
set_option maxHeartbeats 4000000 in
set_option maxRecDepth 100000 in
theorem s_X9_of (l : Launch) (D : va_G) (K : Nat → ClassId) (ad : Nat → Nat) (v ar : sI) (al : sL) (hI : YI v ar) (z_1 : Int) (hz_1 : 0 ≤ z_1 ∧ z_1 ≤ 8) (z_2 : Int) (hz_2 : 0 ≤ z_2 ∧ z_2 ≤ 8) : Met l yX9_of (wM yX9_of cX9_of 3 (some .int)) (rmD 0) (va_Pc [.ref (ad 0), .int (iI (z_1)), .int (iI (z_2))] (wPre D K ad (yG ad K) 21 v ar al)) (vp_Si (fun r => ∃ z : Int, (-2147483648 ≤ z ∧ z ≤ 2147483647) ∧ r = iI z)) 0 0 (fun _ => False) := by
  refine s_metP (by decide) (Nat.le_of_ble_eq_true rfl) ?_
  intro p e s m below meth c ls args Q hE hB hl kr
  have hE : CallFix p m c cX9_of 3 s args tbG "TaleCourtModel" := hE
  obtain ⟨hP, hK, hN⟩ := hB
  have hl : lv_has ls 3 [(0, .ref (ad 0)), (1, .int (iI (z_1))), (2, .int (iI (z_2)))] := hl
  refine lv_aload_n hE.1 hE.2.1 dX9_of_0 rfl (lv_at hl 0 rfl) ?_
  refine x_get (x := .ref (ad 8)) hE hK hP 0 (by decide) (yG_9 rfl) rfl hin9 18 (by decide) mw_1352 rfl dX9_of_1 ?_
  refine lv_bipush (v := iI (9)) hE.1 hE.2.1 dX9_of_4 (by decide) ?_
  refine lv_iload_n hE.1 hE.2.1 dX9_of_6 rfl (lv_at hl 1 rfl) ?_
  refine lv_imul hE.1 hE.2.1 dX9_of_7 ?_
  refine x_top (y := iI (9 * z_1)) ((iI_mul (9) (z_1)).trans (congrArg iI (by omega))) ?_
  refine lv_iload_n hE.1 hE.2.1 dX9_of_8 rfl (lv_at hl 2 rfl) ?_
  refine lv_iadd hE.1 hE.2.1 dX9_of_9 ?_
  refine x_top (y := iI (9 * z_1 + z_2)) ((iI_add (9 * z_1) (z_2)).trans (congrArg iI (by omega))) ?_
  refine x_iald (j := iI (9 * z_1 + z_2)) hE hK hP 8 (by decide) (yG_10 rfl) (iI_in (n := 405) (by omega)) dX9_of_10 ?_
  obtain ⟨z3, hz3, ez3⟩ := iI_of (ar 8 (iI (9 * z_1 + z_2)).toNatClampNeg)
  refine x_top ez3 ?_
  exact kr _ _ _ rfl ⟨z3, by omega, rfl⟩ dX9_of_11

theorem dX9_motif_0 : decode cX9_motif 0 = .ok (.aload_n 0, 1) := by decide +kernel
theorem dX9_motif_1 : decode cX9_motif 1 = .ok (.iconst 0, 1) := by decide +kernel
theorem dX9_motif_2 : decode cX9_motif 2 = .ok (.putfield 81, 3) := by decide +kernel
theorem dX9_motif_5 : decode cX9_motif 5 = .ok (.aload_n 0, 1) := by decide +kernel
theorem dX9_motif_6 : decode cX9_motif 6 = .ok (.iload_n 1, 1) := by decide +kernel
theorem dX9_motif_7 : decode cX9_motif 7 = .ok (.i2l, 1) := by decide +kernel
theorem dX9_motif_8 : decode cX9_motif 8 = .ok (.invokevirtual 253, 3) := by decide +kernel
theorem dX9_motif_11 : decode cX9_motif 11 = .ok (.ifCond .eq 15, 3) := by decide +kernel
theorem dX9_motif_14 : decode cX9_motif 14 = .ok (.iload_n 2, 1) := by decide +kernel
theorem dX9_motif_15 : decode cX9_motif 15 = .ok (.i2l, 1) := by decide +kernel
theorem dX9_motif_16 : decode cX9_motif 16 = .ok (.lconst 0, 1) := by decide +kernel
theorem dX9_motif_17 : decode cX9_motif 17 = .ok (.ldc2_w 256, 3) := by decide +kernel
theorem dX9_motif_20 : decode cX9_motif 20 = .ok (.invokestatic 86, 3) := by decide +kernel
theorem dX9_motif_23 : decode cX9_motif 23 = .ok (.ifCond .ne 6, 3) := by decide +kernel
theorem dX9_motif_26 : decode cX9_motif 26 = .ok (.bipush (-2), 2) := by decide +kernel
theorem dX9_motif_28 : decode cX9_motif 28 = .ok (.ireturn, 1) := by decide +kernel
theorem dX9_motif_29 : decode cX9_motif 29 = .ok (.iload_n 2, 1) := by decide +kernel
theorem dX9_motif_30 : decode cX9_motif 30 = .ok (.bipush 7, 2) := by decide +kernel
theorem dX9_motif_32 : decode cX9_motif 32 = .ok (.if_icmp .ge 12, 3) := by decide +kernel
theorem dX9_motif_35 : decode cX9_motif 35 = .ok (.aload_n 0, 1) := by decide +kernel
theorem dX9_motif_36 : decode cX9_motif 36 = .ok (.iload_n 1, 1) := by decide +kernel
theorem dX9_motif_37 : decode cX9_motif 37 = .ok (.iload_n 2, 1) := by decide +kernel
theorem dX9_motif_38 : decode cX9_motif 38 = .ok (.invokevirtual 258, 3) := by decide +kernel
theorem dX9_motif_41 : decode cX9_motif 41 = .ok (.goto 13, 3) := by decide +kernel
theorem dX9_motif_44 : decode cX9_motif 44 = .ok (.aload_n 0, 1) := by decide +kernel
theorem dX9_motif_45 : decode cX9_motif 45 = .ok (.getfield 34, 3) := by decide +kernel
theorem dX9_motif_48 : decode cX9_motif 48 = .ok (.iconst 4, 1) := by decide +kernel
theorem dX9_motif_49 : decode cX9_motif 49 = .ok (.iaload, 1) := by decide +kernel
theorem dX9_motif_50 : decode cX9_motif 50 = .ok (.iload_n 1, 1) := by decide +kernel
theorem dX9_motif_51 : decode cX9_motif 51 = .ok (.ishr, 1) := by decide +kernel
theorem dX9_motif_52 : decode cX9_motif 52 = .ok (.iconst 1, 1) := by decide +kernel
theorem dX9_motif_53 : decode cX9_motif 53 = .ok (.iand, 1) := by decide +kernel
theorem dX9_motif_54 : decode cX9_motif 54 = .ok (.ireturn, 1) := by decide +kernel
set_option maxHeartbeats 4000000 in
set_option maxRecDepth 100000 in
theorem s_X9_motif (l : Launch) (D : va_G) (K : Nat → ClassId) (ad : Nat → Nat) (v ar : sI) (al : sL) (hI : YI v ar) (z_1 : Int) (hz_1 : -2147483648 ≤ z_1 ∧ z_1 ≤ 2147483647) (z_2 : Int) (hz_2 : -2147483648 ≤ z_2 ∧ z_2 ≤ 2147483647) : Met l yX9_motif (wM yX9_motif cX9_motif 3 (some .int)) (rmD 2) (va_Pc [.ref (ad 0), .int (iI (z_1)), .int (iI (z_2))] (wPre D K ad (yG ad K) 21 v ar al)) (va_Qi (fun (r : Int32) (u : sT) => (∃ z : Int, (-2147483648 ≤ z ∧ z ≤ 2147483647) ∧ r = iI z) ∧ YI u.1 u.2.1 ∧ (∀ i j : Nat, (i, j) ∉ ([(0, 0)] : List (Nat × Nat)) → u.1 i j = v i j) ∧ (∀ i : Nat, i ∉ ([] : List Nat) → u.2.1 i = ar i) ∧ (∀ i : Nat, i ∉ ([] : List Nat) → u.2.2 i = al i)) (wB D ad (yG ad K) 21) (inW ad 21)) 0 0 (inW ad 21) := by
  refine s_metI (by decide) (Nat.le_of_ble_eq_true rfl) ?_
  intro p e s m below meth c ls args Q hE hB hl kr
  have hE : CallFix p m c cX9_motif 3 s args tbG "TaleCourtModel" := hE
  obtain ⟨hP, hK, hN⟩ := hB
  have hS : va_S (inW ad 21) s.heap s.heap [] := va_S.rf
  have hl : lv_has ls 3 [(0, .ref (ad 0)), (1, .int (iI (z_1))), (2, .int (iI (z_2)))] := hl
  obtain ⟨z1, hz1, ez1⟩ := iI_of (ar 6 0)
  obtain ⟨z2, hz2, ez2⟩ := YI_h2 hI 2 (by decide)
  obtain ⟨z3, hz3, ez3⟩ := YI_h5 hI 5 (by decide)
  obtain ⟨z4, hz4, ez4⟩ := YI_h0 hI 0 (by decide)
  have ht0 := YI_t0 hI ez1 (by omega) ez2 (by omega) ez3 (by omega) ez4 (by omega)
  refine lv_aload_n hE.1 hE.2.1 dX9_motif_0 rfl (lv_at hl 0 rfl) ?_
  refine lv_iconst (v := iI (0)) hE.1 hE.2.1 dX9_motif_1 (by decide) ?_
  refine x_put (x := iI (0)) hE hK hN hP hS 0 (by decide) (yG_9 rfl) rfl hin9 tyX9 tyX9_ok nmX9 0 (by decide) mw_1334 rfl rfl rfl (Nat.le_of_ble_eq_true rfl) (yG_9 rfl) dX9_motif_2 (fun v5 H locs hv5 hP hS => ?_)
  have hI := YI_putN hI hv5 (by decide)
  refine lv_aload_n hE.1 hE.2.1 dX9_motif_5 rfl (lv_at hl 0 rfl) ?_
  refine lv_iload_n hE.1 hE.2.1 dX9_motif_6 rfl (lv_at hl 1 rfl) ?_
  refine lv_i2l (v := lI (z_1)) hE.1 hE.2.1 dX9_motif_7 (iI_i2l (by omega)) ?_
  refine x_vp (nn := 1) (As := [.long (lI (z_1))]) (rest := []) hE (s_X9_isMotif l D K ad v5 ar al hI (z2) (by omega) ez2 (z_1) (by omega)) wPre_blind (wPre_now hK hN hP) (x_recv hK hP 0 (by decide) (yG_9 rfl) rfl) rfl mw_1662 mw_1664 mw_74 mw_123 mw_1665 (by decide +kernel) ⟨by decide, by decide⟩ hl.1 rfl (Nat.le_of_ble_eq_true rfl) ⟨Nat.zero_le _, Nat.zero_le _⟩ dX9_motif_8 (fun r6 hr6 => ?_)
  obtain ⟨z6, hz6, rfl⟩ := hr6
  refine s_if_eq (a := z6) (tgt := 26) hE.1 hE.2.1 (by omega) dX9_motif_11 (by decide) (fun c7 => ?_) (fun c7 => ?_)
  · skip
    refine lv_bipush (v := iI (-2)) hE.1 hE.2.1 dX9_motif_26 (by decide) ?_
    exact kr _ v5 ar al _ _ _ _ rfl ⟨⟨-2, by omega, rfl⟩, hI, fun i j h => (up_oth hv5 (fun q => h (by rcases q with ⟨rfl, rfl⟩; decide))), fun i h => rfl, fun i h => rfl⟩ hP hS dX9_motif_28
  · skip
    refine lv_iload_n hE.1 hE.2.1 dX9_motif_14 rfl (lv_at hl 2 rfl) ?_
    refine lv_i2l (v := lI (z_2)) hE.1 hE.2.1 dX9_motif_15 (iI_i2l (by omega)) ?_
    refine lv_lconst (v := lI (0)) hE.1 hE.2.1 dX9_motif_16 (by decide) ?_
    refine lv_ldc2 (v := 7) hE.1 hE.2.1 hE.2.2.2.1 (hE.2.2.2.2 _ mw_1666) dX9_motif_17 ?_
    refine x_topl (y := lI (7)) (by decide) ?_
    refine x_sp (nn := 3) (As := [.long (lI (z_2)), .long (lI (0)), .long (lI (7))]) (rest := []) hE (s_X9_in l (z_2) (by omega) (0) (by omega) (7) (by omega)) tt_blind (fun _ _ _ => trivial) rfl mw_1494 mw_1495 mw_123 mw_1496 (by decide +kernel) ⟨by decide, by decide⟩ hl.1 rfl (Nat.le_of_ble_eq_true rfl) ⟨Nat.zero_le _, Nat.zero_le _⟩ dX9_motif_20 (fun r8 hr8 => ?_)
    obtain ⟨z8, hz8, rfl⟩ := hr8
    refine s_if_ne (a := z8) (tgt := 29) hE.1 hE.2.1 (by omega) dX9_motif_23 (by decide) (fun c9 => ?_) (fun c9 => ?_)
    · skip
      refine lv_iload_n hE.1 hE.2.1 dX9_motif_29 rfl (lv_at hl 2 rfl) ?_
      refine lv_bipush (v := iI (7)) hE.1 hE.2.1 dX9_motif_30 (by decide) ?_
      refine s_icmp_ge (a := z_2) (b := 7) (tgt := 44) hE.1 hE.2.1 (by omega) (by omega) dX9_motif_32 (by decide) (fun c10 => ?_) (fun c10 => ?_)
      · skip
        refine lv_aload_n hE.1 hE.2.1 dX9_motif_44 rfl (lv_at hl 0 rfl) ?_
        refine x_get (x := .ref (ad 7)) hE hK hP 0 (by decide) (yG_9 rfl) rfl hin9 17 (by decide) mw_1351 rfl dX9_motif_45 ?_
        refine lv_iconst (v := iI (4)) hE.1 hE.2.1 dX9_motif_48 (by decide) ?_
        refine x_iald (j := iI (4)) hE hK hP 7 (by decide) (yG_10 rfl) (iI_in (n := 30) (by omega)) dX9_motif_49 ?_
        obtain ⟨z12, hz12, ez12⟩ := iI_of (ar 7 4)
        refine x_top (y := iI (z12)) (by rw [show (iI (4)).toNatClampNeg = 4 from by decide]; exact ez12) ?_
        refine lv_iload_n hE.1 hE.2.1 dX9_motif_50 rfl (lv_at hl 1 rfl) ?_
        refine lv_ishr hE.1 hE.2.1 dX9_motif_51 ?_
        obtain ⟨z13, hz13, ez13⟩ := iI_of (iI (z12) >>> (iI (z_1) &&& 31))
        refine x_top ez13 ?_
        refine lv_iconst (v := iI (1)) hE.1 hE.2.1 dX9_motif_52 (by decide) ?_
        refine lv_iand hE.1 hE.2.1 dX9_motif_53 ?_
        obtain ⟨z14, hz14, ez14⟩ := iI_and (iI (z13)) (iI (1)) 1 (by decide)
        refine x_top ez14 ?_
        exact kr _ v5 ar al _ _ _ _ rfl ⟨⟨z14, by omega, rfl⟩, hI, fun i j h => (up_oth hv5 (fun q => h (by rcases q with ⟨rfl, rfl⟩; decide))), fun i h => rfl, fun i h => rfl⟩ hP hS dX9_motif_54
      · skip
        refine lv_aload_n hE.1 hE.2.1 dX9_motif_35 rfl (lv_at hl 0 rfl) ?_
        refine lv_iload_n hE.1 hE.2.1 dX9_motif_36 rfl (lv_at hl 1 rfl) ?_
        refine lv_iload_n hE.1 hE.2.1 dX9_motif_37 rfl (lv_at hl 2 rfl) ?_
        refine x_vp (nn := 2) (As := [.int (iI (z_1)), .int (iI (z_2))]) (rest := []) hE (s_X9_of l D K ad v5 ar al hI  (z_1) (by omega) (z_2) (by omega)) wPre_blind (wPre_now hK hN hP) (x_recv hK hP 0 (by decide) (yG_9 rfl) rfl) rfl mw_1654 mw_1656 mw_73 mw_123 mw_1657 (by decide +kernel) ⟨by decide, by decide⟩ hl.1 rfl (Nat.le_of_ble_eq_true rfl) ⟨Nat.zero_le _, Nat.zero_le _⟩ dX9_motif_38 (fun r15 hr15 => ?_)
        obtain ⟨z15, hz15, rfl⟩ := hr15
        refine lv_goto (tgt := 54) hE.1 hE.2.1 dX9_motif_41 (by decide) ?_
        exact kr _ v5 ar al _ _ _ _ rfl ⟨⟨z15, by omega, rfl⟩, hI, fun i j h => (up_oth hv5 (fun q => h (by rcases q with ⟨rfl, rfl⟩; decide))), fun i h => rfl, fun i h => rfl⟩ hP hS dX9_motif_54
    · skip
      refine lv_bipush (v := iI (-2)) hE.1 hE.2.1 dX9_motif_26 (by decide) ?_
      exact kr _ v5 ar al _ _ _ _ rfl ⟨⟨-2, by omega, rfl⟩, hI, fun i j h => (up_oth hv5 (fun q => h (by rcases q with ⟨rfl, rfl⟩; decide))), fun i h => rfl, fun i h => rfl⟩ hP hS dX9_motif_28

theorem dX9_joins_0 : decode cX9_joins 0 = .ok (.aload_n 0, 1) := by decide +kernel
theorem dX9_joins_1 : decode cX9_joins 1 = .ok (.iconst 0, 1) := by decide +kernel
theorem dX9_joins_2 : decode cX9_joins 2 = .ok (.putfield 81, 3) := by decide +kernel
theorem dX9_joins_5 : decode cX9_joins 5 = .ok (.aload_n 0, 1) := by decide +kernel
theorem dX9_joins_6 : decode cX9_joins 6 = .ok (.iload_n 1, 1) := by decide +kernel
theorem dX9_joins_7 : decode cX9_joins 7 = .ok (.i2l, 1) := by decide +kernel
theorem dX9_joins_8 : decode cX9_joins 8 = .ok (.invokevirtual 253, 3) := by decide +kernel
theorem dX9_joins_11 : decode cX9_joins 11 = .ok (.ifCond .eq 26, 3) := by decide +kernel
theorem dX9_joins_14 : decode cX9_joins 14 = .ok (.aload_n 0, 1) := by decide +kernel
theorem dX9_joins_15 : decode cX9_joins 15 = .ok (.iload_n 2, 1) := by decide +kernel
theorem dX9_joins_16 : decode cX9_joins 16 = .ok (.i2l, 1) := by decide +kernel
theorem dX9_joins_17 : decode cX9_joins 17 = .ok (.invokevirtual 253, 3) := by decide +kernel
theorem dX9_joins_20 : decode cX9_joins 20 = .ok (.ifCond .eq 17, 3) := by decide +kernel
theorem dX9_joins_23 : decode cX9_joins 23 = .ok (.aload_n 0, 1) := by decide +kernel
theorem dX9_joins_24 : decode cX9_joins 24 = .ok (.iload_n 1, 1) := by decide +kernel
theorem dX9_joins_25 : decode cX9_joins 25 = .ok (.bipush 7, 2) := by decide +kernel
theorem dX9_joins_27 : decode cX9_joins 27 = .ok (.invokevirtual 258, 3) := by decide +kernel
theorem dX9_joins_30 : decode cX9_joins 30 = .ok (.iload_n 2, 1) := by decide +kernel
theorem dX9_joins_31 : decode cX9_joins 31 = .ok (.ishr, 1) := by decide +kernel
theorem dX9_joins_32 : decode cX9_joins 32 = .ok (.iconst 1, 1) := by decide +kernel
theorem dX9_joins_33 : decode cX9_joins 33 = .ok (.iand, 1) := by decide +kernel
theorem dX9_joins_34 : decode cX9_joins 34 = .ok (.goto 5, 3) := by decide +kernel
theorem dX9_joins_37 : decode cX9_joins 37 = .ok (.bipush (-2), 2) := by decide +kernel
theorem dX9_joins_39 : decode cX9_joins 39 = .ok (.ireturn, 1) := by decide +kernel
set_option maxHeartbeats 4000000 in
set_option maxRecDepth 100000 in
theorem s_X9_joins (l : Launch) (D : va_G) (K : Nat → ClassId) (ad : Nat → Nat) (v ar : sI) (al : sL) (hI : YI v ar) (z_1 : Int) (hz_1 : -2147483648 ≤ z_1 ∧ z_1 ≤ 2147483647) (z_2 : Int) (hz_2 : -2147483648 ≤ z_2 ∧ z_2 ≤ 2147483647) : Met l yX9_joins (wM yX9_joins cX9_joins 3 (some .int)) (rmD 2) (va_Pc [.ref (ad 0), .int (iI (z_1)), .int (iI (z_2))] (wPre D K ad (yG ad K) 21 v ar al)) (va_Qi (fun (r : Int32) (u : sT) => (∃ z : Int, (-2147483648 ≤ z ∧ z ≤ 2147483647) ∧ r = iI z) ∧ YI u.1 u.2.1 ∧ (∀ i j : Nat, (i, j) ∉ ([(0, 0)] : List (Nat × Nat)) → u.1 i j = v i j) ∧ (∀ i : Nat, i ∉ ([] : List Nat) → u.2.1 i = ar i) ∧ (∀ i : Nat, i ∉ ([] : List Nat) → u.2.2 i = al i)) (wB D ad (yG ad K) 21) (inW ad 21)) 0 0 (inW ad 21) := by
  refine s_metI (by decide) (Nat.le_of_ble_eq_true rfl) ?_
  intro p e s m below meth c ls args Q hE hB hl kr
  have hE : CallFix p m c cX9_joins 3 s args tbG "TaleCourtModel" := hE
  obtain ⟨hP, hK, hN⟩ := hB
  have hS : va_S (inW ad 21) s.heap s.heap [] := va_S.rf
  have hl : lv_has ls 3 [(0, .ref (ad 0)), (1, .int (iI (z_1))), (2, .int (iI (z_2)))] := hl
  obtain ⟨z1, hz1, ez1⟩ := iI_of (ar 6 0)
  obtain ⟨z2, hz2, ez2⟩ := YI_h2 hI 2 (by decide)
  obtain ⟨z3, hz3, ez3⟩ := YI_h5 hI 5 (by decide)
  obtain ⟨z4, hz4, ez4⟩ := YI_h0 hI 0 (by decide)
  have ht0 := YI_t0 hI ez1 (by omega) ez2 (by omega) ez3 (by omega) ez4 (by omega)
  refine lv_aload_n hE.1 hE.2.1 dX9_joins_0 rfl (lv_at hl 0 rfl) ?_
  refine lv_iconst (v := iI (0)) hE.1 hE.2.1 dX9_joins_1 (by decide) ?_
  refine x_put (x := iI (0)) hE hK hN hP hS 0 (by decide) (yG_9 rfl) rfl hin9 tyX9 tyX9_ok nmX9 0 (by decide) mw_1334 rfl rfl rfl (Nat.le_of_ble_eq_true rfl) (yG_9 rfl) dX9_joins_2 (fun v5 H locs hv5 hP hS => ?_)
  have hI := YI_putN hI hv5 (by decide)
  refine lv_aload_n hE.1 hE.2.1 dX9_joins_5 rfl (lv_at hl 0 rfl) ?_
  refine lv_iload_n hE.1 hE.2.1 dX9_joins_6 rfl (lv_at hl 1 rfl) ?_
  refine lv_i2l (v := lI (z_1)) hE.1 hE.2.1 dX9_joins_7 (iI_i2l (by omega)) ?_
  refine x_vp (nn := 1) (As := [.long (lI (z_1))]) (rest := []) hE (s_X9_isMotif l D K ad v5 ar al hI (z2) (by omega) ez2 (z_1) (by omega)) wPre_blind (wPre_now hK hN hP) (x_recv hK hP 0 (by decide) (yG_9 rfl) rfl) rfl mw_1662 mw_1664 mw_74 mw_123 mw_1665 (by decide +kernel) ⟨by decide, by decide⟩ hl.1 rfl (Nat.le_of_ble_eq_true rfl) ⟨Nat.zero_le _, Nat.zero_le _⟩ dX9_joins_8 (fun r6 hr6 => ?_)
  obtain ⟨z6, hz6, rfl⟩ := hr6
  refine s_if_eq (a := z6) (tgt := 37) hE.1 hE.2.1 (by omega) dX9_joins_11 (by decide) (fun c7 => ?_) (fun c7 => ?_)
  · skip
    refine lv_bipush (v := iI (-2)) hE.1 hE.2.1 dX9_joins_37 (by decide) ?_
    exact kr _ v5 ar al _ _ _ _ rfl ⟨⟨-2, by omega, rfl⟩, hI, fun i j h => (up_oth hv5 (fun q => h (by rcases q with ⟨rfl, rfl⟩; decide))), fun i h => rfl, fun i h => rfl⟩ hP hS dX9_joins_39
  · skip
    refine lv_aload_n hE.1 hE.2.1 dX9_joins_14 rfl (lv_at hl 0 rfl) ?_
    refine lv_iload_n hE.1 hE.2.1 dX9_joins_15 rfl (lv_at hl 2 rfl) ?_
    refine lv_i2l (v := lI (z_2)) hE.1 hE.2.1 dX9_joins_16 (iI_i2l (by omega)) ?_
    refine x_vp (nn := 1) (As := [.long (lI (z_2))]) (rest := []) hE (s_X9_isMotif l D K ad v5 ar al hI (z2) (by omega) ez2 (z_2) (by omega)) wPre_blind (wPre_now hK hN hP) (x_recv hK hP 0 (by decide) (yG_9 rfl) rfl) rfl mw_1662 mw_1664 mw_74 mw_123 mw_1665 (by decide +kernel) ⟨by decide, by decide⟩ hl.1 rfl (Nat.le_of_ble_eq_true rfl) ⟨Nat.zero_le _, Nat.zero_le _⟩ dX9_joins_17 (fun r8 hr8 => ?_)
    obtain ⟨z8, hz8, rfl⟩ := hr8
    refine s_if_eq (a := z8) (tgt := 37) hE.1 hE.2.1 (by omega) dX9_joins_20 (by decide) (fun c9 => ?_) (fun c9 => ?_)
    · skip
      refine lv_bipush (v := iI (-2)) hE.1 hE.2.1 dX9_joins_37 (by decide) ?_
      exact kr _ v5 ar al _ _ _ _ rfl ⟨⟨-2, by omega, rfl⟩, hI, fun i j h => (up_oth hv5 (fun q => h (by rcases q with ⟨rfl, rfl⟩; decide))), fun i h => rfl, fun i h => rfl⟩ hP hS dX9_joins_39
    · skip
      refine lv_aload_n hE.1 hE.2.1 dX9_joins_23 rfl (lv_at hl 0 rfl) ?_
      refine lv_iload_n hE.1 hE.2.1 dX9_joins_24 rfl (lv_at hl 1 rfl) ?_
      refine lv_bipush (v := iI (7)) hE.1 hE.2.1 dX9_joins_25 (by decide) ?_
      refine x_vp (nn := 2) (As := [.int (iI (z_1)), .int (iI (7))]) (rest := []) hE (s_X9_of l D K ad v5 ar al hI  (z_1) (by omega) (7) (by omega)) wPre_blind (wPre_now hK hN hP) (x_recv hK hP 0 (by decide) (yG_9 rfl) rfl) rfl mw_1654 mw_1656 mw_73 mw_123 mw_1657 (by decide +kernel) ⟨by decide, by decide⟩ hl.1 rfl (Nat.le_of_ble_eq_true rfl) ⟨Nat.zero_le _, Nat.zero_le _⟩ dX9_joins_27 (fun r10 hr10 => ?_)
      obtain ⟨z10, hz10, rfl⟩ := hr10
      refine lv_iload_n hE.1 hE.2.1 dX9_joins_30 rfl (lv_at hl 2 rfl) ?_
      refine lv_ishr hE.1 hE.2.1 dX9_joins_31 ?_
      obtain ⟨z11, hz11, ez11⟩ := iI_of (iI (z10) >>> (iI (z_2) &&& 31))
      refine x_top ez11 ?_
      refine lv_iconst (v := iI (1)) hE.1 hE.2.1 dX9_joins_32 (by decide) ?_
      refine lv_iand hE.1 hE.2.1 dX9_joins_33 ?_
      obtain ⟨z12, hz12, ez12⟩ := iI_and (iI (z11)) (iI (1)) 1 (by decide)
      refine x_top ez12 ?_
      refine lv_goto (tgt := 39) hE.1 hE.2.1 dX9_joins_34 (by decide) ?_
      exact kr _ v5 ar al _ _ _ _ rfl ⟨⟨z12, by omega, rfl⟩, hI, fun i j h => (up_oth hv5 (fun q => h (by rcases q with ⟨rfl, rfl⟩; decide))), fun i h => rfl, fun i h => rfl⟩ hP hS dX9_joins_39

theorem dX9_clash_0 : decode cX9_clash 0 = .ok (.aload_n 0, 1) := by decide +kernel
theorem dX9_clash_1 : decode cX9_clash 1 = .ok (.iconst 0, 1) := by decide +kernel
theorem dX9_clash_2 : decode cX9_clash 2 = .ok (.putfield 81, 3) := by decide +kernel
theorem dX9_clash_5 : decode cX9_clash 5 = .ok (.aload_n 0, 1) := by decide +kernel
theorem dX9_clash_6 : decode cX9_clash 6 = .ok (.iload_n 1, 1) := by decide +kernel
theorem dX9_clash_7 : decode cX9_clash 7 = .ok (.i2l, 1) := by decide +kernel
theorem dX9_clash_8 : decode cX9_clash 8 = .ok (.invokevirtual 253, 3) := by decide +kernel
theorem dX9_clash_11 : decode cX9_clash 11 = .ok (.ifCond .eq 26, 3) := by decide +kernel
theorem dX9_clash_14 : decode cX9_clash 14 = .ok (.aload_n 0, 1) := by decide +kernel
theorem dX9_clash_15 : decode cX9_clash 15 = .ok (.iload_n 2, 1) := by decide +kernel
theorem dX9_clash_16 : decode cX9_clash 16 = .ok (.i2l, 1) := by decide +kernel
theorem dX9_clash_17 : decode cX9_clash 17 = .ok (.invokevirtual 253, 3) := by decide +kernel
theorem dX9_clash_20 : decode cX9_clash 20 = .ok (.ifCond .eq 17, 3) := by decide +kernel
theorem dX9_clash_23 : decode cX9_clash 23 = .ok (.aload_n 0, 1) := by decide +kernel
theorem dX9_clash_24 : decode cX9_clash 24 = .ok (.iload_n 1, 1) := by decide +kernel
theorem dX9_clash_25 : decode cX9_clash 25 = .ok (.bipush 8, 2) := by decide +kernel
theorem dX9_clash_27 : decode cX9_clash 27 = .ok (.invokevirtual 258, 3) := by decide +kernel
theorem dX9_clash_30 : decode cX9_clash 30 = .ok (.iload_n 2, 1) := by decide +kernel
theorem dX9_clash_31 : decode cX9_clash 31 = .ok (.ishr, 1) := by decide +kernel
theorem dX9_clash_32 : decode cX9_clash 32 = .ok (.iconst 1, 1) := by decide +kernel
theorem dX9_clash_33 : decode cX9_clash 33 = .ok (.iand, 1) := by decide +kernel
theorem dX9_clash_34 : decode cX9_clash 34 = .ok (.goto 5, 3) := by decide +kernel
theorem dX9_clash_37 : decode cX9_clash 37 = .ok (.bipush (-2), 2) := by decide +kernel
theorem dX9_clash_39 : decode cX9_clash 39 = .ok (.ireturn, 1) := by decide +kernel
set_option maxHeartbeats 4000000 in
set_option maxRecDepth 100000 in
theorem s_X9_clash (l : Launch) (D : va_G) (K : Nat → ClassId) (ad : Nat → Nat) (v ar : sI) (al : sL) (hI : YI v ar) (z_1 : Int) (hz_1 : -2147483648 ≤ z_1 ∧ z_1 ≤ 2147483647) (z_2 : Int) (hz_2 : -2147483648 ≤ z_2 ∧ z_2 ≤ 2147483647) : Met l yX9_clash (wM yX9_clash cX9_clash 3 (some .int)) (rmD 2) (va_Pc [.ref (ad 0), .int (iI (z_1)), .int (iI (z_2))] (wPre D K ad (yG ad K) 21 v ar al)) (va_Qi (fun (r : Int32) (u : sT) => (∃ z : Int, (-2147483648 ≤ z ∧ z ≤ 2147483647) ∧ r = iI z) ∧ YI u.1 u.2.1 ∧ (∀ i j : Nat, (i, j) ∉ ([(0, 0)] : List (Nat × Nat)) → u.1 i j = v i j) ∧ (∀ i : Nat, i ∉ ([] : List Nat) → u.2.1 i = ar i) ∧ (∀ i : Nat, i ∉ ([] : List Nat) → u.2.2 i = al i)) (wB D ad (yG ad K) 21) (inW ad 21)) 0 0 (inW ad 21) := by
  refine s_metI (by decide) (Nat.le_of_ble_eq_true rfl) ?_
  intro p e s m below meth c ls args Q hE hB hl kr
  have hE : CallFix p m c cX9_clash 3 s args tbG "TaleCourtModel" := hE
  obtain ⟨hP, hK, hN⟩ := hB
  have hS : va_S (inW ad 21) s.heap s.heap [] := va_S.rf
  have hl : lv_has ls 3 [(0, .ref (ad 0)), (1, .int (iI (z_1))), (2, .int (iI (z_2)))] := hl
  obtain ⟨z1, hz1, ez1⟩ := iI_of (ar 6 0)
  obtain ⟨z2, hz2, ez2⟩ := YI_h2 hI 2 (by decide)
  obtain ⟨z3, hz3, ez3⟩ := YI_h5 hI 5 (by decide)
  obtain ⟨z4, hz4, ez4⟩ := YI_h0 hI 0 (by decide)
  have ht0 := YI_t0 hI ez1 (by omega) ez2 (by omega) ez3 (by omega) ez4 (by omega)
  refine lv_aload_n hE.1 hE.2.1 dX9_clash_0 rfl (lv_at hl 0 rfl) ?_
  refine lv_iconst (v := iI (0)) hE.1 hE.2.1 dX9_clash_1 (by decide) ?_
  refine x_put (x := iI (0)) hE hK hN hP hS 0 (by decide) (yG_9 rfl) rfl hin9 tyX9 tyX9_ok nmX9 0 (by decide) mw_1334 rfl rfl rfl (Nat.le_of_ble_eq_true rfl) (yG_9 rfl) dX9_clash_2 (fun v5 H locs hv5 hP hS => ?_)
  have hI := YI_putN hI hv5 (by decide)
  refine lv_aload_n hE.1 hE.2.1 dX9_clash_5 rfl (lv_at hl 0 rfl) ?_
  refine lv_iload_n hE.1 hE.2.1 dX9_clash_6 rfl (lv_at hl 1 rfl) ?_
  refine lv_i2l (v := lI (z_1)) hE.1 hE.2.1 dX9_clash_7 (iI_i2l (by omega)) ?_
  refine x_vp (nn := 1) (As := [.long (lI (z_1))]) (rest := []) hE (s_X9_isMotif l D K ad v5 ar al hI (z2) (by omega) ez2 (z_1) (by omega)) wPre_blind (wPre_now hK hN hP) (x_recv hK hP 0 (by decide) (yG_9 rfl) rfl) rfl mw_1662 mw_1664 mw_74 mw_123 mw_1665 (by decide +kernel) ⟨by decide, by decide⟩ hl.1 rfl (Nat.le_of_ble_eq_true rfl) ⟨Nat.zero_le _, Nat.zero_le _⟩ dX9_clash_8 (fun r6 hr6 => ?_)
  obtain ⟨z6, hz6, rfl⟩ := hr6
  refine s_if_eq (a := z6) (tgt := 37) hE.1 hE.2.1 (by omega) dX9_clash_11 (by decide) (fun c7 => ?_) (fun c7 => ?_)
  · skip
    refine lv_bipush (v := iI (-2)) hE.1 hE.2.1 dX9_clash_37 (by decide) ?_
    exact kr _ v5 ar al _ _ _ _ rfl ⟨⟨-2, by omega, rfl⟩, hI, fun i j h => (up_oth hv5 (fun q => h (by rcases q with ⟨rfl, rfl⟩; decide))), fun i h => rfl, fun i h => rfl⟩ hP hS dX9_clash_39
  · skip
    refine lv_aload_n hE.1 hE.2.1 dX9_clash_14 rfl (lv_at hl 0 rfl) ?_
    refine lv_iload_n hE.1 hE.2.1 dX9_clash_15 rfl (lv_at hl 2 rfl) ?_
    refine lv_i2l (v := lI (z_2)) hE.1 hE.2.1 dX9_clash_16 (iI_i2l (by omega)) ?_
    refine x_vp (nn := 1) (As := [.long (lI (z_2))]) (rest := []) hE (s_X9_isMotif l D K ad v5 ar al hI (z2) (by omega) ez2 (z_2) (by omega)) wPre_blind (wPre_now hK hN hP) (x_recv hK hP 0 (by decide) (yG_9 rfl) rfl) rfl mw_1662 mw_1664 mw_74 mw_123 mw_1665 (by decide +kernel) ⟨by decide, by decide⟩ hl.1 rfl (Nat.le_of_ble_eq_true rfl) ⟨Nat.zero_le _, Nat.zero_le _⟩ dX9_clash_17 (fun r8 hr8 => ?_)
    obtain ⟨z8, hz8, rfl⟩ := hr8
    refine s_if_eq (a := z8) (tgt := 37) hE.1 hE.2.1 (by omega) dX9_clash_20 (by decide) (fun c9 => ?_) (fun c9 => ?_)
    · skip
      refine lv_bipush (v := iI (-2)) hE.1 hE.2.1 dX9_clash_37 (by decide) ?_
      exact kr _ v5 ar al _ _ _ _ rfl ⟨⟨-2, by omega, rfl⟩, hI, fun i j h => (up_oth hv5 (fun q => h (by rcases q with ⟨rfl, rfl⟩; decide))), fun i h => rfl, fun i h => rfl⟩ hP hS dX9_clash_39
    · skip
      refine lv_aload_n hE.1 hE.2.1 dX9_clash_23 rfl (lv_at hl 0 rfl) ?_
      refine lv_iload_n hE.1 hE.2.1 dX9_clash_24 rfl (lv_at hl 1 rfl) ?_
      refine lv_bipush (v := iI (8)) hE.1 hE.2.1 dX9_clash_25 (by decide) ?_
      refine x_vp (nn := 2) (As := [.int (iI (z_1)), .int (iI (8))]) (rest := []) hE (s_X9_of l D K ad v5 ar al hI  (z_1) (by omega) (8) (by omega)) wPre_blind (wPre_now hK hN hP) (x_recv hK hP 0 (by decide) (yG_9 rfl) rfl) rfl mw_1654 mw_1656 mw_73 mw_123 mw_1657 (by decide +kernel) ⟨by decide, by decide⟩ hl.1 rfl (Nat.le_of_ble_eq_true rfl) ⟨Nat.zero_le _, Nat.zero_le _⟩ dX9_clash_27 (fun r10 hr10 => ?_)
      obtain ⟨z10, hz10, rfl⟩ := hr10
      refine lv_iload_n hE.1 hE.2.1 dX9_clash_30 rfl (lv_at hl 2 rfl) ?_
      refine lv_ishr hE.1 hE.2.1 dX9_clash_31 ?_
      obtain ⟨z11, hz11, ez11⟩ := iI_of (iI (z10) >>> (iI (z_2) &&& 31))
      refine x_top ez11 ?_
      refine lv_iconst (v := iI (1)) hE.1 hE.2.1 dX9_clash_32 (by decide) ?_
      refine lv_iand hE.1 hE.2.1 dX9_clash_33 ?_
      obtain ⟨z12, hz12, ez12⟩ := iI_and (iI (z11)) (iI (1)) 1 (by decide)
      refine x_top ez12 ?_
      refine lv_goto (tgt := 39) hE.1 hE.2.1 dX9_clash_34 (by decide) ?_
      exact kr _ v5 ar al _ _ _ _ rfl ⟨⟨z12, by omega, rfl⟩, hI, fun i j h => (up_oth hv5 (fun q => h (by rcases q with ⟨rfl, rfl⟩; decide))), fun i h => rfl, fun i h => rfl⟩ hP hS dX9_clash_39

theorem dX9_behind_0 : decode cX9_behind 0 = .ok (.aload_n 0, 1) := by decide +kernel
theorem dX9_behind_1 : decode cX9_behind 1 = .ok (.iconst 0, 1) := by decide +kernel
theorem dX9_behind_2 : decode cX9_behind 2 = .ok (.putfield 81, 3) := by decide +kernel
theorem dX9_behind_5 : decode cX9_behind 5 = .ok (.aload_n 0, 1) := by decide +kernel
theorem dX9_behind_6 : decode cX9_behind 6 = .ok (.iload_n 1, 1) := by decide +kernel
theorem dX9_behind_7 : decode cX9_behind 7 = .ok (.i2l, 1) := by decide +kernel
theorem dX9_behind_8 : decode cX9_behind 8 = .ok (.invokevirtual 253, 3) := by decide +kernel
theorem dX9_behind_11 : decode cX9_behind 11 = .ok (.ifCond .eq 13, 3) := by decide +kernel
theorem dX9_behind_14 : decode cX9_behind 14 = .ok (.aload_n 0, 1) := by decide +kernel
theorem dX9_behind_15 : decode cX9_behind 15 = .ok (.iload_n 1, 1) := by decide +kernel
theorem dX9_behind_16 : decode cX9_behind 16 = .ok (.bipush 7, 2) := by decide +kernel
theorem dX9_behind_18 : decode cX9_behind 18 = .ok (.invokevirtual 258, 3) := by decide +kernel
theorem dX9_behind_21 : decode cX9_behind 21 = .ok (.goto 5, 3) := by decide +kernel
theorem dX9_behind_24 : decode cX9_behind 24 = .ok (.bipush (-2), 2) := by decide +kernel
theorem dX9_behind_26 : decode cX9_behind 26 = .ok (.ireturn, 1) := by decide +kernel
set_option maxHeartbeats 4000000 in
set_option maxRecDepth 100000 in
theorem s_X9_behind (l : Launch) (D : va_G) (K : Nat → ClassId) (ad : Nat → Nat) (v ar : sI) (al : sL) (hI : YI v ar) (z_1 : Int) (hz_1 : -2147483648 ≤ z_1 ∧ z_1 ≤ 2147483647) : Met l yX9_behind (wM yX9_behind cX9_behind 2 (some .int)) (rmD 2) (va_Pc [.ref (ad 0), .int (iI (z_1))] (wPre D K ad (yG ad K) 21 v ar al)) (va_Qi (fun (r : Int32) (u : sT) => (∃ z : Int, (-2147483648 ≤ z ∧ z ≤ 2147483647) ∧ r = iI z) ∧ YI u.1 u.2.1 ∧ (∀ i j : Nat, (i, j) ∉ ([(0, 0)] : List (Nat × Nat)) → u.1 i j = v i j) ∧ (∀ i : Nat, i ∉ ([] : List Nat) → u.2.1 i = ar i) ∧ (∀ i : Nat, i ∉ ([] : List Nat) → u.2.2 i = al i)) (wB D ad (yG ad K) 21) (inW ad 21)) 0 0 (inW ad 21) := by
  refine s_metI (by decide) (Nat.le_of_ble_eq_true rfl) ?_
  intro p e s m below meth c ls args Q hE hB hl kr
  have hE : CallFix p m c cX9_behind 2 s args tbG "TaleCourtModel" := hE
  obtain ⟨hP, hK, hN⟩ := hB
  have hS : va_S (inW ad 21) s.heap s.heap [] := va_S.rf
  have hl : lv_has ls 2 [(0, .ref (ad 0)), (1, .int (iI (z_1)))] := hl
  obtain ⟨z1, hz1, ez1⟩ := iI_of (ar 6 0)
  obtain ⟨z2, hz2, ez2⟩ := YI_h2 hI 2 (by decide)
  obtain ⟨z3, hz3, ez3⟩ := YI_h5 hI 5 (by decide)
  obtain ⟨z4, hz4, ez4⟩ := YI_h0 hI 0 (by decide)
  have ht0 := YI_t0 hI ez1 (by omega) ez2 (by omega) ez3 (by omega) ez4 (by omega)
  refine lv_aload_n hE.1 hE.2.1 dX9_behind_0 rfl (lv_at hl 0 rfl) ?_
  refine lv_iconst (v := iI (0)) hE.1 hE.2.1 dX9_behind_1 (by decide) ?_
  refine x_put (x := iI (0)) hE hK hN hP hS 0 (by decide) (yG_9 rfl) rfl hin9 tyX9 tyX9_ok nmX9 0 (by decide) mw_1334 rfl rfl rfl (Nat.le_of_ble_eq_true rfl) (yG_9 rfl) dX9_behind_2 (fun v5 H locs hv5 hP hS => ?_)
  have hI := YI_putN hI hv5 (by decide)
  refine lv_aload_n hE.1 hE.2.1 dX9_behind_5 rfl (lv_at hl 0 rfl) ?_
  refine lv_iload_n hE.1 hE.2.1 dX9_behind_6 rfl (lv_at hl 1 rfl) ?_
  refine lv_i2l (v := lI (z_1)) hE.1 hE.2.1 dX9_behind_7 (iI_i2l (by omega)) ?_
  refine x_vp (nn := 1) (As := [.long (lI (z_1))]) (rest := []) hE (s_X9_isMotif l D K ad v5 ar al hI (z2) (by omega) ez2 (z_1) (by omega)) wPre_blind (wPre_now hK hN hP) (x_recv hK hP 0 (by decide) (yG_9 rfl) rfl) rfl mw_1662 mw_1664 mw_74 mw_123 mw_1665 (by decide +kernel) ⟨by decide, by decide⟩ hl.1 rfl (Nat.le_of_ble_eq_true rfl) ⟨Nat.zero_le _, Nat.zero_le _⟩ dX9_behind_8 (fun r6 hr6 => ?_)
  obtain ⟨z6, hz6, rfl⟩ := hr6
  refine s_if_eq (a := z6) (tgt := 24) hE.1 hE.2.1 (by omega) dX9_behind_11 (by decide) (fun c7 => ?_) (fun c7 => ?_)
  · skip
    refine lv_bipush (v := iI (-2)) hE.1 hE.2.1 dX9_behind_24 (by decide) ?_
    exact kr _ v5 ar al _ _ _ _ rfl ⟨⟨-2, by omega, rfl⟩, hI, fun i j h => (up_oth hv5 (fun q => h (by rcases q with ⟨rfl, rfl⟩; decide))), fun i h => rfl, fun i h => rfl⟩ hP hS dX9_behind_26
  · skip
    refine lv_aload_n hE.1 hE.2.1 dX9_behind_14 rfl (lv_at hl 0 rfl) ?_
    refine lv_iload_n hE.1 hE.2.1 dX9_behind_15 rfl (lv_at hl 1 rfl) ?_
    refine lv_bipush (v := iI (7)) hE.1 hE.2.1 dX9_behind_16 (by decide) ?_
    refine x_vp (nn := 2) (As := [.int (iI (z_1)), .int (iI (7))]) (rest := []) hE (s_X9_of l D K ad v5 ar al hI  (z_1) (by omega) (7) (by omega)) wPre_blind (wPre_now hK hN hP) (x_recv hK hP 0 (by decide) (yG_9 rfl) rfl) rfl mw_1654 mw_1656 mw_73 mw_123 mw_1657 (by decide +kernel) ⟨by decide, by decide⟩ hl.1 rfl (Nat.le_of_ble_eq_true rfl) ⟨Nat.zero_le _, Nat.zero_le _⟩ dX9_behind_18 (fun r8 hr8 => ?_)
    obtain ⟨z8, hz8, rfl⟩ := hr8
    refine lv_goto (tgt := 26) hE.1 hE.2.1 dX9_behind_21 (by decide) ?_
    exact kr _ v5 ar al _ _ _ _ rfl ⟨⟨z8, by omega, rfl⟩, hI, fun i j h => (up_oth hv5 (fun q => h (by rcases q with ⟨rfl, rfl⟩; decide))), fun i h => rfl, fun i h => rfl⟩ hP hS dX9_behind_26

theorem dX9_isBit_0 : decode cX9_isBit 0 = .ok (.iload_n 0, 1) := by decide +kernel
theorem dX9_isBit_1 : decode cX9_isBit 1 = .ok (.iload_n 1, 1) := by decide +kernel
theorem dX9_isBit_2 : decode cX9_isBit 2 = .ok (.ishr, 1) := by decide +kernel
theorem dX9_isBit_3 : decode cX9_isBit 3 = .ok (.iconst 1, 1) := by decide +kernel
theorem dX9_isBit_4 : decode cX9_isBit 4 = .ok (.iand, 1) := by decide +kernel
theorem dX9_isBit_5 : decode cX9_isBit 5 = .ok (.iconst 1, 1) := by decide +kernel
theorem dX9_isBit_6 : decode cX9_isBit 6 = .ok (.if_icmp .ne 7, 3) := by decide +kernel
theorem dX9_isBit_9 : decode cX9_isBit 9 = .ok (.iconst 1, 1) := by decide +kernel
theorem dX9_isBit_10 : decode cX9_isBit 10 = .ok (.goto 4, 3) := by decide +kernel
theorem dX9_isBit_13 : decode cX9_isBit 13 = .ok (.iconst 0, 1) := by decide +kernel
theorem dX9_isBit_14 : decode cX9_isBit 14 = .ok (.ireturn, 1) := by decide +kernel
set_option maxHeartbeats 4000000 in
set_option maxRecDepth 100000 in
theorem s_X9_isBit (l : Launch) (z_1 : Int) (hz_1 : -2147483648 ≤ z_1 ∧ z_1 ≤ 2147483647) (z_2 : Int) (hz_2 : -2147483648 ≤ z_2 ∧ z_2 ≤ 2147483647) : Met l yX9_isBit (wM yX9_isBit cX9_isBit 2 (some .boolean)) (rmD 0) (va_Pc [.int (iI (z_1)), .int (iI (z_2))] (fun _ => True)) (vp_Si (fun r => ∃ z : Int, (0 ≤ z ∧ z ≤ 1) ∧ r = iI z)) 0 0 (fun _ => False) := by
  refine s_metP (by decide) (Nat.le_of_ble_eq_true rfl) ?_
  intro p e s m below meth c ls args Q hE hB hl kr
  have hE : CallFix p m c cX9_isBit 2 s args tbG "TaleCourtModel" := hE
  have hl : lv_has ls 2 [(0, .int (iI (z_1))), (1, .int (iI (z_2)))] := hl
  refine lv_iload_n hE.1 hE.2.1 dX9_isBit_0 rfl (lv_at hl 0 rfl) ?_
  refine lv_iload_n hE.1 hE.2.1 dX9_isBit_1 rfl (lv_at hl 1 rfl) ?_
  refine lv_ishr hE.1 hE.2.1 dX9_isBit_2 ?_
  obtain ⟨z1, hz1, ez1⟩ := iI_of (iI (z_1) >>> (iI (z_2) &&& 31))
  refine x_top ez1 ?_
  refine lv_iconst (v := iI (1)) hE.1 hE.2.1 dX9_isBit_3 (by decide) ?_
  refine lv_iand hE.1 hE.2.1 dX9_isBit_4 ?_
  obtain ⟨z2, hz2, ez2⟩ := iI_and (iI (z1)) (iI (1)) 1 (by decide)
  refine x_top ez2 ?_
  refine lv_iconst (v := iI (1)) hE.1 hE.2.1 dX9_isBit_5 (by decide) ?_
  refine s_icmp_ne (a := z2) (b := 1) (tgt := 13) hE.1 hE.2.1 (by omega) (by omega) dX9_isBit_6 (by decide) (fun c3 => ?_) (fun c3 => ?_)
  · skip
    refine lv_iconst (v := iI (0)) hE.1 hE.2.1 dX9_isBit_13 (by decide) ?_
    exact kr _ _ _ (nar01 (by omega)) ⟨0, by omega, rfl⟩ dX9_isBit_14
  · skip
    refine lv_iconst (v := iI (1)) hE.1 hE.2.1 dX9_isBit_9 (by decide) ?_
    refine lv_goto (tgt := 14) hE.1 hE.2.1 dX9_isBit_10 (by decide) ?_
    exact kr _ _ _ (nar01 (by omega)) ⟨1, by omega, rfl⟩ dX9_isBit_14

theorem dX9_ahead_0 : decode cX9_ahead 0 = .ok (.aload_n 0, 1) := by decide +kernel
theorem dX9_ahead_1 : decode cX9_ahead 1 = .ok (.iconst 0, 1) := by decide +kernel
theorem dX9_ahead_2 : decode cX9_ahead 2 = .ok (.putfield 81, 3) := by decide +kernel
theorem dX9_ahead_5 : decode cX9_ahead 5 = .ok (.aload_n 0, 1) := by decide +kernel
theorem dX9_ahead_6 : decode cX9_ahead 6 = .ok (.iload_n 1, 1) := by decide +kernel
theorem dX9_ahead_7 : decode cX9_ahead 7 = .ok (.i2l, 1) := by decide +kernel
theorem dX9_ahead_8 : decode cX9_ahead 8 = .ok (.invokevirtual 253, 3) := by decide +kernel
theorem dX9_ahead_11 : decode cX9_ahead 11 = .ok (.ifCond .ne 6, 3) := by decide +kernel
theorem dX9_ahead_14 : decode cX9_ahead 14 = .ok (.bipush (-2), 2) := by decide +kernel
theorem dX9_ahead_16 : decode cX9_ahead 16 = .ok (.ireturn, 1) := by decide +kernel
theorem dX9_ahead_17 : decode cX9_ahead 17 = .ok (.iconst 0, 1) := by decide +kernel
theorem dX9_ahead_18 : decode cX9_ahead 18 = .ok (.istore_n 2, 1) := by decide +kernel
theorem dX9_ahead_19 : decode cX9_ahead 19 = .ok (.iconst 0, 1) := by decide +kernel
theorem dX9_ahead_20 : decode cX9_ahead 20 = .ok (.istore_n 3, 1) := by decide +kernel
theorem dX9_ahead_21 : decode cX9_ahead 21 = .ok (.iload_n 3, 1) := by decide +kernel
theorem dX9_ahead_22 : decode cX9_ahead 22 = .ok (.aload_n 0, 1) := by decide +kernel
theorem dX9_ahead_23 : decode cX9_ahead 23 = .ok (.getfield 34, 3) := by decide +kernel
theorem dX9_ahead_26 : decode cX9_ahead 26 = .ok (.iconst 2, 1) := by decide +kernel
theorem dX9_ahead_27 : decode cX9_ahead 27 = .ok (.iaload, 1) := by decide +kernel
theorem dX9_ahead_28 : decode cX9_ahead 28 = .ok (.if_icmp .ge 33, 3) := by decide +kernel
theorem dX9_ahead_31 : decode cX9_ahead 31 = .ok (.iload_n 2, 1) := by decide +kernel
theorem dX9_ahead_32 : decode cX9_ahead 32 = .ok (.aload_n 0, 1) := by decide +kernel
theorem dX9_ahead_33 : decode cX9_ahead 33 = .ok (.iload_n 3, 1) := by decide +kernel
theorem dX9_ahead_34 : decode cX9_ahead 34 = .ok (.bipush 7, 2) := by decide +kernel
theorem dX9_ahead_36 : decode cX9_ahead 36 = .ok (.invokevirtual 258, 3) := by decide +kernel
theorem dX9_ahead_39 : decode cX9_ahead 39 = .ok (.iload_n 1, 1) := by decide +kernel
theorem dX9_ahead_40 : decode cX9_ahead 40 = .ok (.invokestatic 261, 3) := by decide +kernel
theorem dX9_ahead_43 : decode cX9_ahead 43 = .ok (.ifCond .eq 9, 3) := by decide +kernel
theorem dX9_ahead_46 : decode cX9_ahead 46 = .ok (.iconst 1, 1) := by decide +kernel
theorem dX9_ahead_47 : decode cX9_ahead 47 = .ok (.iload_n 3, 1) := by decide +kernel
theorem dX9_ahead_48 : decode cX9_ahead 48 = .ok (.ishl, 1) := by decide +kernel
theorem dX9_ahead_49 : decode cX9_ahead 49 = .ok (.goto 4, 3) := by decide +kernel
theorem dX9_ahead_52 : decode cX9_ahead 52 = .ok (.iconst 0, 1) := by decide +kernel
theorem dX9_ahead_53 : decode cX9_ahead 53 = .ok (.ior, 1) := by decide +kernel
theorem dX9_ahead_54 : decode cX9_ahead 54 = .ok (.istore_n 2, 1) := by decide +kernel
theorem dX9_ahead_55 : decode cX9_ahead 55 = .ok (.iinc 3 1, 3) := by decide +kernel
theorem dX9_ahead_58 : decode cX9_ahead 58 = .ok (.goto (-37), 3) := by decide +kernel
theorem dX9_ahead_61 : decode cX9_ahead 61 = .ok (.iload_n 2, 1) := by decide +kernel
theorem dX9_ahead_62 : decode cX9_ahead 62 = .ok (.ireturn, 1) := by decide +kernel
set_option maxHeartbeats 4000000 in
set_option maxRecDepth 100000 in
theorem s_X9_ahead (l : Launch) (D : va_G) (K : Nat → ClassId) (ad : Nat → Nat) (v ar : sI) (al : sL) (hI : YI v ar) (z_1 : Int) (hz_1 : -2147483648 ≤ z_1 ∧ z_1 ≤ 2147483647) : Met l yX9_ahead (wM yX9_ahead cX9_ahead 4 (some .int)) (rmD 2) (va_Pc [.ref (ad 0), .int (iI (z_1))] (wPre D K ad (yG ad K) 21 v ar al)) (va_Qi (fun (r : Int32) (u : sT) => (∃ z : Int, (-2147483648 ≤ z ∧ z ≤ 2147483647) ∧ r = iI z) ∧ YI u.1 u.2.1 ∧ (∀ i j : Nat, (i, j) ∉ ([(0, 0)] : List (Nat × Nat)) → u.1 i j = v i j) ∧ (∀ i : Nat, i ∉ ([] : List Nat) → u.2.1 i = ar i) ∧ (∀ i : Nat, i ∉ ([] : List Nat) → u.2.2 i = al i)) (wB D ad (yG ad K) 21) (inW ad 21)) 0 0 (inW ad 21) := by
  refine s_metI (by decide) (Nat.le_of_ble_eq_true rfl) ?_
  intro p e s m below meth c ls args Q hE hB hl kr
  have hE : CallFix p m c cX9_ahead 4 s args tbG "TaleCourtModel" := hE
  obtain ⟨hP, hK, hN⟩ := hB
  have hS : va_S (inW ad 21) s.heap s.heap [] := va_S.rf
  have hl : lv_has ls 4 [(0, .ref (ad 0)), (1, .int (iI (z_1)))] := hl
  obtain ⟨z1, hz1, ez1⟩ := iI_of (ar 6 0)
  obtain ⟨z2, hz2, ez2⟩ := YI_h2 hI 2 (by decide)
  obtain ⟨z3, hz3, ez3⟩ := YI_h5 hI 5 (by decide)
  obtain ⟨z4, hz4, ez4⟩ := YI_h0 hI 0 (by decide)
  have ht0 := YI_t0 hI ez1 (by omega) ez2 (by omega) ez3 (by omega) ez4 (by omega)
  refine lv_aload_n hE.1 hE.2.1 dX9_ahead_0 rfl (lv_at hl 0 rfl) ?_
  refine lv_iconst (v := iI (0)) hE.1 hE.2.1 dX9_ahead_1 (by decide) ?_
  refine x_put (x := iI (0)) hE hK hN hP hS 0 (by decide) (yG_9 rfl) rfl hin9 tyX9 tyX9_ok nmX9 0 (by decide) mw_1334 rfl rfl rfl (Nat.le_of_ble_eq_true rfl) (yG_9 rfl) dX9_ahead_2 (fun v5 H locs hv5 hP hS => ?_)
  have hI := YI_putN hI hv5 (by decide)
  refine lv_aload_n hE.1 hE.2.1 dX9_ahead_5 rfl (lv_at hl 0 rfl) ?_
  refine lv_iload_n hE.1 hE.2.1 dX9_ahead_6 rfl (lv_at hl 1 rfl) ?_
  refine lv_i2l (v := lI (z_1)) hE.1 hE.2.1 dX9_ahead_7 (iI_i2l (by omega)) ?_
  refine x_vp (nn := 1) (As := [.long (lI (z_1))]) (rest := []) hE (s_X9_isMotif l D K ad v5 ar al hI (z2) (by omega) ez2 (z_1) (by omega)) wPre_blind (wPre_now hK hN hP) (x_recv hK hP 0 (by decide) (yG_9 rfl) rfl) rfl mw_1662 mw_1664 mw_74 mw_123 mw_1665 (by decide +kernel) ⟨by decide, by decide⟩ hl.1 rfl (Nat.le_of_ble_eq_true rfl) ⟨Nat.zero_le _, Nat.zero_le _⟩ dX9_ahead_8 (fun r6 hr6 => ?_)
  obtain ⟨z6, hz6, rfl⟩ := hr6
  refine s_if_ne (a := z6) (tgt := 17) hE.1 hE.2.1 (by omega) dX9_ahead_11 (by decide) (fun c7 => ?_) (fun c7 => ?_)
  · skip
    refine lv_iconst (v := iI (0)) hE.1 hE.2.1 dX9_ahead_17 (by decide) ?_
    refine lv_istore_n (lv' := [(2, .int (iI (0))), (0, .ref (ad 0)), (1, .int (iI (z_1)))]) hE.1 hE.2.1 dX9_ahead_18 rfl hl (by decide) rfl (fun ls hl => ?_)
    refine lv_iconst (v := iI (0)) hE.1 hE.2.1 dX9_ahead_19 (by decide) ?_
    refine lv_istore_n (lv' := [(3, .int (iI (0))), (2, .int (iI (0))), (0, .ref (ad 0)), (1, .int (iI (z_1)))]) hE.1 hE.2.1 dX9_ahead_20 rfl hl (by decide) rfl (fun ls hl => ?_)
    have loop8 : ∀ (k8 : Nat) (y8_3 : Int) (y8_2 : Int) (vl8 : sI) (all8 : sL) (H : Heap) (locs : List Loc) (ls : Array Slot), (9 - y8_3).toNat = k8 → (0 ≤ y8_3 ∧ y8_3 ≤ 9) → (-2147483648 ≤ y8_2 ∧ y8_2 ≤ 2147483647) → YI vl8 ar → (∀ i j : Nat, (i, j) ∉ ([] : List (Nat × Nat)) → vl8 i j = v5 i j) → (∀ i : Nat, i ∉ ([] : List Nat) → all8 i = al i) → va_P D xcl (wW ad (yG ad K) 21 vl8 ar all8) H → va_S (inW ad 21) s.heap H locs → lv_has ls 4 [(3, .int (iI (y8_3))), (2, .int (iI (y8_2))), (0, .ref (ad 0)), (1, .int (iI (z_1)))] → W p l e (rmD 2) s m args below meth c H locs 0 0 Q (F0 m 21 ls []) := by
      intro k8
      induction k8 using Nat.strongRecOn with
      | _ k8 ih8 =>
        intro y8_3 y8_2  vl8 all8 H locs ls hk8 hb_y8_3 hb_y8_2 hI hfr8 hfl8 hP hS hl
        refine lv_iload_n hE.1 hE.2.1 dX9_ahead_21 rfl (lv_at hl 0 rfl) ?_
        refine lv_aload_n hE.1 hE.2.1 dX9_ahead_22 rfl (lv_at hl 2 rfl) ?_
        refine x_get (x := .ref (ad 7)) hE hK hP 0 (by decide) (yG_9 rfl) rfl hin9 17 (by decide) mw_1351 rfl dX9_ahead_23 ?_
        refine lv_iconst (v := iI (2)) hE.1 hE.2.1 dX9_ahead_26 (by decide) ?_
        refine x_iald (j := iI (2)) hE hK hP 7 (by decide) (yG_10 rfl) (iI_in (n := 30) (by omega)) dX9_ahead_27 ?_
        refine x_top (y := iI (z2)) (by rw [show (iI (2)).toNatClampNeg = 2 from by decide]; exact ez2) ?_
        refine s_icmp_ge (a := y8_3) (b := z2) (tgt := 61) hE.1 hE.2.1 (by omega) (by omega) dX9_ahead_28 (by decide) (fun c10 => ?_) (fun c10 => ?_)
        · skip
          refine lv_iload_n hE.1 hE.2.1 dX9_ahead_61 rfl (lv_at hl 1 rfl) ?_
          exact kr _ vl8 ar all8 _ _ _ _ rfl ⟨⟨y8_2, by omega, rfl⟩, hI, fun i j h => ((hfr8 i j (fun q => h (mem_sub (by decide) q))).trans (up_oth hv5 (fun q => h (by rcases q with ⟨rfl, rfl⟩; decide)))), fun i h => rfl, fun i h => (hfl8 i (fun q => h (mem_subn (by decide) q)))⟩ hP hS dX9_ahead_62
        · skip
          refine lv_iload_n hE.1 hE.2.1 dX9_ahead_31 rfl (lv_at hl 1 rfl) ?_
          refine lv_aload_n hE.1 hE.2.1 dX9_ahead_32 rfl (lv_at hl 2 rfl) ?_
          refine lv_iload_n hE.1 hE.2.1 dX9_ahead_33 rfl (lv_at hl 0 rfl) ?_
          refine lv_bipush (v := iI (7)) hE.1 hE.2.1 dX9_ahead_34 (by decide) ?_
          refine x_vp (nn := 2) (As := [.int (iI (y8_3)), .int (iI (7))]) (rest := [.int (iI (y8_2))]) hE (s_X9_of l D K ad vl8 ar all8 hI  (y8_3) (by omega) (7) (by omega)) wPre_blind (wPre_now hK hN hP) (x_recv hK hP 0 (by decide) (yG_9 rfl) rfl) rfl mw_1654 mw_1656 mw_73 mw_123 mw_1657 (by decide +kernel) ⟨by decide, by decide⟩ hl.1 rfl (Nat.le_of_ble_eq_true rfl) ⟨Nat.zero_le _, Nat.zero_le _⟩ dX9_ahead_36 (fun r11 hr11 => ?_)
          obtain ⟨z11, hz11, rfl⟩ := hr11
          refine lv_iload_n hE.1 hE.2.1 dX9_ahead_39 rfl (lv_at hl 3 rfl) ?_
          refine x_sp (nn := 2) (As := [.int (iI (z11)), .int (iI (z_1))]) (rest := [.int (iI (y8_2))]) hE (s_X9_isBit l (z11) (by omega) (z_1) (by omega)) tt_blind (fun _ _ _ => trivial) rfl mw_1683 mw_1684 mw_123 mw_1685 (by decide +kernel) ⟨by decide, by decide⟩ hl.1 rfl (Nat.le_of_ble_eq_true rfl) ⟨Nat.zero_le _, Nat.zero_le _⟩ dX9_ahead_40 (fun r12 hr12 => ?_)
          obtain ⟨z12, hz12, rfl⟩ := hr12
          refine s_if_eq (a := z12) (tgt := 52) hE.1 hE.2.1 (by omega) dX9_ahead_43 (by decide) (fun c13 => ?_) (fun c13 => ?_)
          · skip
            refine lv_iconst (v := iI (0)) hE.1 hE.2.1 dX9_ahead_52 (by decide) ?_
            refine lv_ior hE.1 hE.2.1 dX9_ahead_53 ?_
            obtain ⟨z14, hz14, ez14⟩ := iI_of (iI (y8_2) ||| iI (0))
            refine x_top ez14 ?_
            refine lv_istore_n (lv' := [(2, .int (iI (z14))), (3, .int (iI (y8_3))), (0, .ref (ad 0)), (1, .int (iI (z_1)))]) hE.1 hE.2.1 dX9_ahead_54 rfl hl (by decide) rfl (fun ls hl => ?_)
            refine lv_iinc (v := iI (y8_3 + 1)) (lv' := [(3, .int (iI (y8_3 + 1))), (2, .int (iI (z14))), (0, .ref (ad 0)), (1, .int (iI (z_1)))]) hE.1 hE.2.1 dX9_ahead_55 hl (k := 1) rfl ((iI_add (y8_3) (1)).trans (congrArg iI (by omega))) (by decide) rfl (fun ls hl => ?_)
            refine lv_goto (tgt := 21) hE.1 hE.2.1 dX9_ahead_58 (by decide) ?_
            exact ih8 _ (by omega) (y8_3 + 1) (z14)  vl8  all8 _ _ _ rfl (by omega) (by omega)  hI (fun i j h => (hfr8 i j h)) (fun i h => (hfl8 i h)) hP hS (lv_sub hl [0, 1, 2, 3] rfl)
          · skip
            refine lv_iconst (v := iI (1)) hE.1 hE.2.1 dX9_ahead_46 (by decide) ?_
            refine lv_iload_n hE.1 hE.2.1 dX9_ahead_47 rfl (lv_at hl 0 rfl) ?_
            refine lv_ishl hE.1 hE.2.1 dX9_ahead_48 ?_
            obtain ⟨z15, hz15, ez15⟩ := iI_shl8 (a := y8_3) (by omega)
            refine x_top ez15 ?_
            refine lv_goto (tgt := 53) hE.1 hE.2.1 dX9_ahead_49 (by decide) ?_
            refine lv_ior hE.1 hE.2.1 dX9_ahead_53 ?_
            obtain ⟨z16, hz16, ez16⟩ := iI_of (iI (y8_2) ||| iI (z15))
            refine x_top ez16 ?_
            refine lv_istore_n (lv' := [(2, .int (iI (z16))), (3, .int (iI (y8_3))), (0, .ref (ad 0)), (1, .int (iI (z_1)))]) hE.1 hE.2.1 dX9_ahead_54 rfl hl (by decide) rfl (fun ls hl => ?_)
            refine lv_iinc (v := iI (y8_3 + 1)) (lv' := [(3, .int (iI (y8_3 + 1))), (2, .int (iI (z16))), (0, .ref (ad 0)), (1, .int (iI (z_1)))]) hE.1 hE.2.1 dX9_ahead_55 hl (k := 1) rfl ((iI_add (y8_3) (1)).trans (congrArg iI (by omega))) (by decide) rfl (fun ls hl => ?_)
            refine lv_goto (tgt := 21) hE.1 hE.2.1 dX9_ahead_58 (by decide) ?_
            exact ih8 _ (by omega) (y8_3 + 1) (z16)  vl8  all8 _ _ _ rfl (by omega) (by omega)  hI (fun i j h => (hfr8 i j h)) (fun i h => (hfl8 i h)) hP hS (lv_sub hl [0, 1, 2, 3] rfl)
    exact loop8 _ (0) (0)  v5  al _ _ _ rfl (by omega) (by omega)  hI (fun _ _ _ => rfl) (fun _ _ => rfl) hP hS hl
  · skip
    refine lv_bipush (v := iI (-2)) hE.1 hE.2.1 dX9_ahead_14 (by decide) ?_
    exact kr _ v5 ar al _ _ _ _ rfl ⟨⟨-2, by omega, rfl⟩, hI, fun i j h => (up_oth hv5 (fun q => h (by rcases q with ⟨rfl, rfl⟩; decide))), fun i h => rfl, fun i h => rfl⟩ hP hS dX9_ahead_16

theorem dX9_comes_0 : decode cX9_comes 0 = .ok (.aload_n 0, 1) := by decide +kernel
theorem dX9_comes_1 : decode cX9_comes 1 = .ok (.iconst 0, 1) := by decide +kernel
theorem dX9_comes_2 : decode cX9_comes 2 = .ok (.putfield 81, 3) := by decide +kernel
theorem dX9_comes_5 : decode cX9_comes 5 = .ok (.aload_n 0, 1) := by decide +kernel
theorem dX9_comes_6 : decode cX9_comes 6 = .ok (.iload_n 1, 1) := by decide +kernel
theorem dX9_comes_7 : decode cX9_comes 7 = .ok (.i2l, 1) := by decide +kernel
theorem dX9_comes_8 : decode cX9_comes 8 = .ok (.invokevirtual 253, 3) := by decide +kernel
theorem dX9_comes_11 : decode cX9_comes 11 = .ok (.ifCond .ne 6, 3) := by decide +kernel
theorem dX9_comes_14 : decode cX9_comes 14 = .ok (.bipush (-2), 2) := by decide +kernel
theorem dX9_comes_16 : decode cX9_comes 16 = .ok (.ireturn, 1) := by decide +kernel
theorem dX9_comes_17 : decode cX9_comes 17 = .ok (.aload_n 0, 1) := by decide +kernel
theorem dX9_comes_18 : decode cX9_comes 18 = .ok (.iload_n 1, 1) := by decide +kernel
theorem dX9_comes_19 : decode cX9_comes 19 = .ok (.bipush 7, 2) := by decide +kernel
theorem dX9_comes_21 : decode cX9_comes 21 = .ok (.invokevirtual 258, 3) := by decide +kernel
theorem dX9_comes_24 : decode cX9_comes 24 = .ok (.istore_n 2, 1) := by decide +kernel
theorem dX9_comes_25 : decode cX9_comes 25 = .ok (.iconst 0, 1) := by decide +kernel
theorem dX9_comes_26 : decode cX9_comes 26 = .ok (.istore_n 3, 1) := by decide +kernel
theorem dX9_comes_27 : decode cX9_comes 27 = .ok (.iload_n 3, 1) := by decide +kernel
theorem dX9_comes_28 : decode cX9_comes 28 = .ok (.bipush 9, 2) := by decide +kernel
theorem dX9_comes_30 : decode cX9_comes 30 = .ok (.if_icmp .ge 53, 3) := by decide +kernel
theorem dX9_comes_33 : decode cX9_comes 33 = .ok (.iconst 0, 1) := by decide +kernel
theorem dX9_comes_34 : decode cX9_comes 34 = .ok (.istore 4, 2) := by decide +kernel
theorem dX9_comes_36 : decode cX9_comes 36 = .ok (.iload 4, 2) := by decide +kernel
theorem dX9_comes_38 : decode cX9_comes 38 = .ok (.aload_n 0, 1) := by decide +kernel
theorem dX9_comes_39 : decode cX9_comes 39 = .ok (.getfield 34, 3) := by decide +kernel
theorem dX9_comes_42 : decode cX9_comes 42 = .ok (.iconst 2, 1) := by decide +kernel
theorem dX9_comes_43 : decode cX9_comes 43 = .ok (.iaload, 1) := by decide +kernel
theorem dX9_comes_44 : decode cX9_comes 44 = .ok (.if_icmp .ge 33, 3) := by decide +kernel
theorem dX9_comes_47 : decode cX9_comes 47 = .ok (.iload_n 2, 1) := by decide +kernel
theorem dX9_comes_48 : decode cX9_comes 48 = .ok (.iload_n 2, 1) := by decide +kernel
theorem dX9_comes_49 : decode cX9_comes 49 = .ok (.iload 4, 2) := by decide +kernel
theorem dX9_comes_51 : decode cX9_comes 51 = .ok (.invokestatic 261, 3) := by decide +kernel
theorem dX9_comes_54 : decode cX9_comes 54 = .ok (.ifCond .eq 14, 3) := by decide +kernel
theorem dX9_comes_57 : decode cX9_comes 57 = .ok (.aload_n 0, 1) := by decide +kernel
theorem dX9_comes_58 : decode cX9_comes 58 = .ok (.iload 4, 2) := by decide +kernel
theorem dX9_comes_60 : decode cX9_comes 60 = .ok (.bipush 7, 2) := by decide +kernel
theorem dX9_comes_62 : decode cX9_comes 62 = .ok (.invokevirtual 258, 3) := by decide +kernel
theorem dX9_comes_65 : decode cX9_comes 65 = .ok (.goto 4, 3) := by decide +kernel
theorem dX9_comes_68 : decode cX9_comes 68 = .ok (.iconst 0, 1) := by decide +kernel
theorem dX9_comes_69 : decode cX9_comes 69 = .ok (.ior, 1) := by decide +kernel
theorem dX9_comes_70 : decode cX9_comes 70 = .ok (.istore_n 2, 1) := by decide +kernel
theorem dX9_comes_71 : decode cX9_comes 71 = .ok (.iinc 4 1, 3) := by decide +kernel
theorem dX9_comes_74 : decode cX9_comes 74 = .ok (.goto (-38), 3) := by decide +kernel
theorem dX9_comes_77 : decode cX9_comes 77 = .ok (.iinc 3 1, 3) := by decide +kernel
theorem dX9_comes_80 : decode cX9_comes 80 = .ok (.goto (-53), 3) := by decide +kernel
theorem dX9_comes_83 : decode cX9_comes 83 = .ok (.iload_n 2, 1) := by decide +kernel
theorem dX9_comes_84 : decode cX9_comes 84 = .ok (.ireturn, 1) := by decide +kernel
set_option maxHeartbeats 4000000 in
set_option maxRecDepth 100000 in
theorem s_X9_comes (l : Launch) (D : va_G) (K : Nat → ClassId) (ad : Nat → Nat) (v ar : sI) (al : sL) (hI : YI v ar) (z_1 : Int) (hz_1 : -2147483648 ≤ z_1 ∧ z_1 ≤ 2147483647) : Met l yX9_comes (wM yX9_comes cX9_comes 5 (some .int)) (rmD 2) (va_Pc [.ref (ad 0), .int (iI (z_1))] (wPre D K ad (yG ad K) 21 v ar al)) (va_Qi (fun (r : Int32) (u : sT) => (∃ z : Int, (-2147483648 ≤ z ∧ z ≤ 2147483647) ∧ r = iI z) ∧ YI u.1 u.2.1 ∧ (∀ i j : Nat, (i, j) ∉ ([(0, 0)] : List (Nat × Nat)) → u.1 i j = v i j) ∧ (∀ i : Nat, i ∉ ([] : List Nat) → u.2.1 i = ar i) ∧ (∀ i : Nat, i ∉ ([] : List Nat) → u.2.2 i = al i)) (wB D ad (yG ad K) 21) (inW ad 21)) 0 0 (inW ad 21) := by
  refine s_metI (by decide) (Nat.le_of_ble_eq_true rfl) ?_
  intro p e s m below meth c ls args Q hE hB hl kr
  have hE : CallFix p m c cX9_comes 5 s args tbG "TaleCourtModel" := hE
  obtain ⟨hP, hK, hN⟩ := hB
  have hS : va_S (inW ad 21) s.heap s.heap [] := va_S.rf
  have hl : lv_has ls 5 [(0, .ref (ad 0)), (1, .int (iI (z_1)))] := hl
  obtain ⟨z1, hz1, ez1⟩ := iI_of (ar 6 0)
  obtain ⟨z2, hz2, ez2⟩ := YI_h2 hI 2 (by decide)
  obtain ⟨z3, hz3, ez3⟩ := YI_h5 hI 5 (by decide)
  obtain ⟨z4, hz4, ez4⟩ := YI_h0 hI 0 (by decide)
  have ht0 := YI_t0 hI ez1 (by omega) ez2 (by omega) ez3 (by omega) ez4 (by omega)
  refine lv_aload_n hE.1 hE.2.1 dX9_comes_0 rfl (lv_at hl 0 rfl) ?_
  refine lv_iconst (v := iI (0)) hE.1 hE.2.1 dX9_comes_1 (by decide) ?_
  refine x_put (x := iI (0)) hE hK hN hP hS 0 (by decide) (yG_9 rfl) rfl hin9 tyX9 tyX9_ok nmX9 0 (by decide) mw_1334 rfl rfl rfl (Nat.le_of_ble_eq_true rfl) (yG_9 rfl) dX9_comes_2 (fun v5 H locs hv5 hP hS => ?_)
  have hI := YI_putN hI hv5 (by decide)
  refine lv_aload_n hE.1 hE.2.1 dX9_comes_5 rfl (lv_at hl 0 rfl) ?_
  refine lv_iload_n hE.1 hE.2.1 dX9_comes_6 rfl (lv_at hl 1 rfl) ?_
  refine lv_i2l (v := lI (z_1)) hE.1 hE.2.1 dX9_comes_7 (iI_i2l (by omega)) ?_
  refine x_vp (nn := 1) (As := [.long (lI (z_1))]) (rest := []) hE (s_X9_isMotif l D K ad v5 ar al hI (z2) (by omega) ez2 (z_1) (by omega)) wPre_blind (wPre_now hK hN hP) (x_recv hK hP 0 (by decide) (yG_9 rfl) rfl) rfl mw_1662 mw_1664 mw_74 mw_123 mw_1665 (by decide +kernel) ⟨by decide, by decide⟩ hl.1 rfl (Nat.le_of_ble_eq_true rfl) ⟨Nat.zero_le _, Nat.zero_le _⟩ dX9_comes_8 (fun r6 hr6 => ?_)
  obtain ⟨z6, hz6, rfl⟩ := hr6
  refine s_if_ne (a := z6) (tgt := 17) hE.1 hE.2.1 (by omega) dX9_comes_11 (by decide) (fun c7 => ?_) (fun c7 => ?_)
  · skip
    refine lv_aload_n hE.1 hE.2.1 dX9_comes_17 rfl (lv_at hl 0 rfl) ?_
    refine lv_iload_n hE.1 hE.2.1 dX9_comes_18 rfl (lv_at hl 1 rfl) ?_
    refine lv_bipush (v := iI (7)) hE.1 hE.2.1 dX9_comes_19 (by decide) ?_
    refine x_vp (nn := 2) (As := [.int (iI (z_1)), .int (iI (7))]) (rest := []) hE (s_X9_of l D K ad v5 ar al hI  (z_1) (by omega) (7) (by omega)) wPre_blind (wPre_now hK hN hP) (x_recv hK hP 0 (by decide) (yG_9 rfl) rfl) rfl mw_1654 mw_1656 mw_73 mw_123 mw_1657 (by decide +kernel) ⟨by decide, by decide⟩ hl.1 rfl (Nat.le_of_ble_eq_true rfl) ⟨Nat.zero_le _, Nat.zero_le _⟩ dX9_comes_21 (fun r8 hr8 => ?_)
    obtain ⟨z8, hz8, rfl⟩ := hr8
    refine lv_istore_n (lv' := [(2, .int (iI (z8))), (0, .ref (ad 0)), (1, .int (iI (z_1)))]) hE.1 hE.2.1 dX9_comes_24 rfl hl (by decide) rfl (fun ls hl => ?_)
    refine lv_iconst (v := iI (0)) hE.1 hE.2.1 dX9_comes_25 (by decide) ?_
    refine lv_istore_n (lv' := [(3, .int (iI (0))), (2, .int (iI (z8))), (0, .ref (ad 0)), (1, .int (iI (z_1)))]) hE.1 hE.2.1 dX9_comes_26 rfl hl (by decide) rfl (fun ls hl => ?_)
    have loop9 : ∀ (k9 : Nat) (y9_3 : Int) (y9_2 : Int) (vl9 : sI) (all9 : sL) (H : Heap) (locs : List Loc) (ls : Array Slot), (9 - y9_3).toNat = k9 → (0 ≤ y9_3 ∧ y9_3 ≤ 9) → (-2147483648 ≤ y9_2 ∧ y9_2 ≤ 2147483647) → YI vl9 ar → (∀ i j : Nat, (i, j) ∉ ([] : List (Nat × Nat)) → vl9 i j = v5 i j) → (∀ i : Nat, i ∉ ([] : List Nat) → all9 i = al i) → va_P D xcl (wW ad (yG ad K) 21 vl9 ar all9) H → va_S (inW ad 21) s.heap H locs → lv_has ls 5 [(3, .int (iI (y9_3))), (2, .int (iI (y9_2))), (0, .ref (ad 0)), (1, .int (iI (z_1)))] → W p l e (rmD 2) s m args below meth c H locs 0 0 Q (F0 m 27 ls []) := by
      intro k9
      induction k9 using Nat.strongRecOn with
      | _ k9 ih9 =>
        intro y9_3 y9_2  vl9 all9 H locs ls hk9 hb_y9_3 hb_y9_2 hI hfr9 hfl9 hP hS hl
        refine lv_iload_n hE.1 hE.2.1 dX9_comes_27 rfl (lv_at hl 0 rfl) ?_
        refine lv_bipush (v := iI (9)) hE.1 hE.2.1 dX9_comes_28 (by decide) ?_
        refine s_icmp_ge (a := y9_3) (b := 9) (tgt := 83) hE.1 hE.2.1 (by omega) (by omega) dX9_comes_30 (by decide) (fun c10 => ?_) (fun c10 => ?_)
        · skip
          refine lv_iload_n hE.1 hE.2.1 dX9_comes_83 rfl (lv_at hl 1 rfl) ?_
          exact kr _ vl9 ar all9 _ _ _ _ rfl ⟨⟨y9_2, by omega, rfl⟩, hI, fun i j h => ((hfr9 i j (fun q => h (mem_sub (by decide) q))).trans (up_oth hv5 (fun q => h (by rcases q with ⟨rfl, rfl⟩; decide)))), fun i h => rfl, fun i h => (hfl9 i (fun q => h (mem_subn (by decide) q)))⟩ hP hS dX9_comes_84
        · skip
          refine lv_iconst (v := iI (0)) hE.1 hE.2.1 dX9_comes_33 (by decide) ?_
          refine lv_istore (lv' := [(4, .int (iI (0))), (3, .int (iI (y9_3))), (2, .int (iI (y9_2))), (0, .ref (ad 0)), (1, .int (iI (z_1)))]) hE.1 hE.2.1 dX9_comes_34 hl (by decide) rfl (fun ls hl => ?_)
          have loop11 : ∀ (k11 : Nat) (y11_4 : Int) (y11_2 : Int) (vl11 : sI) (all11 : sL) (H : Heap) (locs : List Loc) (ls : Array Slot), (9 - y11_4).toNat = k11 → (0 ≤ y11_4 ∧ y11_4 ≤ 9) → (-2147483648 ≤ y11_2 ∧ y11_2 ≤ 2147483647) → YI vl11 ar → (∀ i j : Nat, (i, j) ∉ ([] : List (Nat × Nat)) → vl11 i j = vl9 i j) → (∀ i : Nat, i ∉ ([] : List Nat) → all11 i = all9 i) → va_P D xcl (wW ad (yG ad K) 21 vl11 ar all11) H → va_S (inW ad 21) s.heap H locs → lv_has ls 5 [(4, .int (iI (y11_4))), (3, .int (iI (y9_3))), (2, .int (iI (y11_2))), (0, .ref (ad 0)), (1, .int (iI (z_1)))] → W p l e (rmD 2) s m args below meth c H locs 0 0 Q (F0 m 36 ls []) := by
            intro k11
            induction k11 using Nat.strongRecOn with
            | _ k11 ih11 =>
              intro y11_4 y11_2  vl11 all11 H locs ls hk11 hb_y11_4 hb_y11_2 hI hfr11 hfl11 hP hS hl
              refine lv_iload hE.1 hE.2.1 dX9_comes_36 (lv_at hl 0 rfl) ?_
              refine lv_aload_n hE.1 hE.2.1 dX9_comes_38 rfl (lv_at hl 3 rfl) ?_
              refine x_get (x := .ref (ad 7)) hE hK hP 0 (by decide) (yG_9 rfl) rfl hin9 17 (by decide) mw_1351 rfl dX9_comes_39 ?_
              refine lv_iconst (v := iI (2)) hE.1 hE.2.1 dX9_comes_42 (by decide) ?_
              refine x_iald (j := iI (2)) hE hK hP 7 (by decide) (yG_10 rfl) (iI_in (n := 30) (by omega)) dX9_comes_43 ?_
              refine x_top (y := iI (z2)) (by rw [show (iI (2)).toNatClampNeg = 2 from by decide]; exact ez2) ?_
              refine s_icmp_ge (a := y11_4) (b := z2) (tgt := 77) hE.1 hE.2.1 (by omega) (by omega) dX9_comes_44 (by decide) (fun c13 => ?_) (fun c13 => ?_)
              · skip
                refine lv_iinc (v := iI (y9_3 + 1)) (lv' := [(3, .int (iI (y9_3 + 1))), (4, .int (iI (y11_4))), (2, .int (iI (y11_2))), (0, .ref (ad 0)), (1, .int (iI (z_1)))]) hE.1 hE.2.1 dX9_comes_77 hl (k := 1) rfl ((iI_add (y9_3) (1)).trans (congrArg iI (by omega))) (by decide) rfl (fun ls hl => ?_)
                refine lv_goto (tgt := 27) hE.1 hE.2.1 dX9_comes_80 (by decide) ?_
                exact ih9 _ (by omega) (y9_3 + 1) (y11_2)  vl11  all11 _ _ _ rfl (by omega) (by omega)  hI (fun i j h => ((hfr11 i j (fun q => h (mem_sub (by decide) q))).trans (hfr9 i j h))) (fun i h => ((hfl11 i (fun q => h (mem_subn (by decide) q))).trans (hfl9 i h))) hP hS (lv_sub hl [0, 2, 3, 4] rfl)
              · skip
                refine lv_iload_n hE.1 hE.2.1 dX9_comes_47 rfl (lv_at hl 2 rfl) ?_
                refine lv_iload_n hE.1 hE.2.1 dX9_comes_48 rfl (lv_at hl 2 rfl) ?_
                refine lv_iload hE.1 hE.2.1 dX9_comes_49 (lv_at hl 0 rfl) ?_
                refine x_sp (nn := 2) (As := [.int (iI (y11_2)), .int (iI (y11_4))]) (rest := [.int (iI (y11_2))]) hE (s_X9_isBit l (y11_2) (by omega) (y11_4) (by omega)) tt_blind (fun _ _ _ => trivial) rfl mw_1683 mw_1684 mw_123 mw_1685 (by decide +kernel) ⟨by decide, by decide⟩ hl.1 rfl (Nat.le_of_ble_eq_true rfl) ⟨Nat.zero_le _, Nat.zero_le _⟩ dX9_comes_51 (fun r14 hr14 => ?_)
                obtain ⟨z14, hz14, rfl⟩ := hr14
                refine s_if_eq (a := z14) (tgt := 68) hE.1 hE.2.1 (by omega) dX9_comes_54 (by decide) (fun c15 => ?_) (fun c15 => ?_)
                · skip
                  refine lv_iconst (v := iI (0)) hE.1 hE.2.1 dX9_comes_68 (by decide) ?_
                  refine lv_ior hE.1 hE.2.1 dX9_comes_69 ?_
                  obtain ⟨z16, hz16, ez16⟩ := iI_of (iI (y11_2) ||| iI (0))
                  refine x_top ez16 ?_
                  refine lv_istore_n (lv' := [(2, .int (iI (z16))), (4, .int (iI (y11_4))), (3, .int (iI (y9_3))), (0, .ref (ad 0)), (1, .int (iI (z_1)))]) hE.1 hE.2.1 dX9_comes_70 rfl hl (by decide) rfl (fun ls hl => ?_)
                  refine lv_iinc (v := iI (y11_4 + 1)) (lv' := [(4, .int (iI (y11_4 + 1))), (2, .int (iI (z16))), (3, .int (iI (y9_3))), (0, .ref (ad 0)), (1, .int (iI (z_1)))]) hE.1 hE.2.1 dX9_comes_71 hl (k := 1) rfl ((iI_add (y11_4) (1)).trans (congrArg iI (by omega))) (by decide) rfl (fun ls hl => ?_)
                  refine lv_goto (tgt := 36) hE.1 hE.2.1 dX9_comes_74 (by decide) ?_
                  exact ih11 _ (by omega) (y11_4 + 1) (z16)  vl11  all11 _ _ _ rfl (by omega) (by omega)  hI (fun i j h => (hfr11 i j h)) (fun i h => (hfl11 i h)) hP hS (lv_sub hl [0, 2, 1, 3, 4] rfl)
                · skip
                  refine lv_aload_n hE.1 hE.2.1 dX9_comes_57 rfl (lv_at hl 3 rfl) ?_
                  refine lv_iload hE.1 hE.2.1 dX9_comes_58 (lv_at hl 0 rfl) ?_
                  refine lv_bipush (v := iI (7)) hE.1 hE.2.1 dX9_comes_60 (by decide) ?_
                  refine x_vp (nn := 2) (As := [.int (iI (y11_4)), .int (iI (7))]) (rest := [.int (iI (y11_2))]) hE (s_X9_of l D K ad vl11 ar all11 hI  (y11_4) (by omega) (7) (by omega)) wPre_blind (wPre_now hK hN hP) (x_recv hK hP 0 (by decide) (yG_9 rfl) rfl) rfl mw_1654 mw_1656 mw_73 mw_123 mw_1657 (by decide +kernel) ⟨by decide, by decide⟩ hl.1 rfl (Nat.le_of_ble_eq_true rfl) ⟨Nat.zero_le _, Nat.zero_le _⟩ dX9_comes_62 (fun r17 hr17 => ?_)
                  obtain ⟨z17, hz17, rfl⟩ := hr17
                  refine lv_goto (tgt := 69) hE.1 hE.2.1 dX9_comes_65 (by decide) ?_
                  refine lv_ior hE.1 hE.2.1 dX9_comes_69 ?_
                  obtain ⟨z18, hz18, ez18⟩ := iI_of (iI (y11_2) ||| iI (z17))
                  refine x_top ez18 ?_
                  refine lv_istore_n (lv' := [(2, .int (iI (z18))), (4, .int (iI (y11_4))), (3, .int (iI (y9_3))), (0, .ref (ad 0)), (1, .int (iI (z_1)))]) hE.1 hE.2.1 dX9_comes_70 rfl hl (by decide) rfl (fun ls hl => ?_)
                  refine lv_iinc (v := iI (y11_4 + 1)) (lv' := [(4, .int (iI (y11_4 + 1))), (2, .int (iI (z18))), (3, .int (iI (y9_3))), (0, .ref (ad 0)), (1, .int (iI (z_1)))]) hE.1 hE.2.1 dX9_comes_71 hl (k := 1) rfl ((iI_add (y11_4) (1)).trans (congrArg iI (by omega))) (by decide) rfl (fun ls hl => ?_)
                  refine lv_goto (tgt := 36) hE.1 hE.2.1 dX9_comes_74 (by decide) ?_
                  exact ih11 _ (by omega) (y11_4 + 1) (z18)  vl11  all11 _ _ _ rfl (by omega) (by omega)  hI (fun i j h => (hfr11 i j h)) (fun i h => (hfl11 i h)) hP hS (lv_sub hl [0, 2, 1, 3, 4] rfl)
          exact loop11 _ (0) (y9_2)  vl9  all9 _ _ _ rfl (by omega) (by omega)  hI (fun _ _ _ => rfl) (fun _ _ => rfl) hP hS hl
    exact loop9 _ (0) (z8)  v5  al _ _ _ rfl (by omega) (by omega)  hI (fun _ _ _ => rfl) (fun _ _ => rfl) hP hS hl
  · skip
    refine lv_bipush (v := iI (-2)) hE.1 hE.2.1 dX9_comes_14 (by decide) ?_
    exact kr _ v5 ar al _ _ _ _ rfl ⟨⟨-2, by omega, rfl⟩, hI, fun i j h => (up_oth hv5 (fun q => h (by rcases q with ⟨rfl, rfl⟩; decide))), fun i h => rfl, fun i h => rfl⟩ hP hS dX9_comes_16

theorem dX9_chain_0 : decode cX9_chain 0 = .ok (.aload_n 0, 1) := by decide +kernel
theorem dX9_chain_1 : decode cX9_chain 1 = .ok (.iconst 0, 1) := by decide +kernel
theorem dX9_chain_2 : decode cX9_chain 2 = .ok (.putfield 81, 3) := by decide +kernel
theorem dX9_chain_5 : decode cX9_chain 5 = .ok (.aload_n 0, 1) := by decide +kernel
theorem dX9_chain_6 : decode cX9_chain 6 = .ok (.iload_n 1, 1) := by decide +kernel
theorem dX9_chain_7 : decode cX9_chain 7 = .ok (.i2l, 1) := by decide +kernel
theorem dX9_chain_8 : decode cX9_chain 8 = .ok (.invokevirtual 253, 3) := by decide +kernel
theorem dX9_chain_11 : decode cX9_chain 11 = .ok (.ifCond .eq 12, 3) := by decide +kernel
theorem dX9_chain_14 : decode cX9_chain 14 = .ok (.aload_n 0, 1) := by decide +kernel
theorem dX9_chain_15 : decode cX9_chain 15 = .ok (.iload_n 2, 1) := by decide +kernel
theorem dX9_chain_16 : decode cX9_chain 16 = .ok (.i2l, 1) := by decide +kernel
theorem dX9_chain_17 : decode cX9_chain 17 = .ok (.invokevirtual 253, 3) := by decide +kernel
theorem dX9_chain_20 : decode cX9_chain 20 = .ok (.ifCond .ne 6, 3) := by decide +kernel
theorem dX9_chain_23 : decode cX9_chain 23 = .ok (.bipush (-2), 2) := by decide +kernel
theorem dX9_chain_25 : decode cX9_chain 25 = .ok (.ireturn, 1) := by decide +kernel
theorem dX9_chain_26 : decode cX9_chain 26 = .ok (.iconst 1, 1) := by decide +kernel
theorem dX9_chain_27 : decode cX9_chain 27 = .ok (.iload_n 1, 1) := by decide +kernel
theorem dX9_chain_28 : decode cX9_chain 28 = .ok (.ishl, 1) := by decide +kernel
theorem dX9_chain_29 : decode cX9_chain 29 = .ok (.istore_n 3, 1) := by decide +kernel
theorem dX9_chain_30 : decode cX9_chain 30 = .ok (.iconst 1, 1) := by decide +kernel
theorem dX9_chain_31 : decode cX9_chain 31 = .ok (.istore 4, 2) := by decide +kernel
theorem dX9_chain_33 : decode cX9_chain 33 = .ok (.iload 4, 2) := by decide +kernel
theorem dX9_chain_35 : decode cX9_chain 35 = .ok (.bipush 9, 2) := by decide +kernel
theorem dX9_chain_37 : decode cX9_chain 37 = .ok (.if_icmp .gt 72, 3) := by decide +kernel
theorem dX9_chain_40 : decode cX9_chain 40 = .ok (.iload_n 3, 1) := by decide +kernel
theorem dX9_chain_41 : decode cX9_chain 41 = .ok (.iload_n 2, 1) := by decide +kernel
theorem dX9_chain_42 : decode cX9_chain 42 = .ok (.invokestatic 261, 3) := by decide +kernel
theorem dX9_chain_45 : decode cX9_chain 45 = .ok (.ifCond .eq 6, 3) := by decide +kernel
theorem dX9_chain_48 : decode cX9_chain 48 = .ok (.iload 4, 2) := by decide +kernel
theorem dX9_chain_50 : decode cX9_chain 50 = .ok (.ireturn, 1) := by decide +kernel
theorem dX9_chain_51 : decode cX9_chain 51 = .ok (.iload_n 3, 1) := by decide +kernel
theorem dX9_chain_52 : decode cX9_chain 52 = .ok (.istore 5, 2) := by decide +kernel
theorem dX9_chain_54 : decode cX9_chain 54 = .ok (.iconst 0, 1) := by decide +kernel
theorem dX9_chain_55 : decode cX9_chain 55 = .ok (.istore 6, 2) := by decide +kernel
theorem dX9_chain_57 : decode cX9_chain 57 = .ok (.iload 6, 2) := by decide +kernel
theorem dX9_chain_59 : decode cX9_chain 59 = .ok (.aload_n 0, 1) := by decide +kernel
theorem dX9_chain_60 : decode cX9_chain 60 = .ok (.getfield 34, 3) := by decide +kernel
theorem dX9_chain_63 : decode cX9_chain 63 = .ok (.iconst 2, 1) := by decide +kernel
theorem dX9_chain_64 : decode cX9_chain 64 = .ok (.iaload, 1) := by decide +kernel
theorem dX9_chain_65 : decode cX9_chain 65 = .ok (.if_icmp .ge 35, 3) := by decide +kernel
theorem dX9_chain_68 : decode cX9_chain 68 = .ok (.iload 5, 2) := by decide +kernel
theorem dX9_chain_70 : decode cX9_chain 70 = .ok (.iload_n 3, 1) := by decide +kernel
theorem dX9_chain_71 : decode cX9_chain 71 = .ok (.iload 6, 2) := by decide +kernel
theorem dX9_chain_73 : decode cX9_chain 73 = .ok (.invokestatic 261, 3) := by decide +kernel
theorem dX9_chain_76 : decode cX9_chain 76 = .ok (.ifCond .eq 14, 3) := by decide +kernel
theorem dX9_chain_79 : decode cX9_chain 79 = .ok (.aload_n 0, 1) := by decide +kernel
theorem dX9_chain_80 : decode cX9_chain 80 = .ok (.iload 6, 2) := by decide +kernel
theorem dX9_chain_82 : decode cX9_chain 82 = .ok (.bipush 7, 2) := by decide +kernel
theorem dX9_chain_84 : decode cX9_chain 84 = .ok (.invokevirtual 258, 3) := by decide +kernel
theorem dX9_chain_87 : decode cX9_chain 87 = .ok (.goto 4, 3) := by decide +kernel
theorem dX9_chain_90 : decode cX9_chain 90 = .ok (.iconst 0, 1) := by decide +kernel
theorem dX9_chain_91 : decode cX9_chain 91 = .ok (.ior, 1) := by decide +kernel
theorem dX9_chain_92 : decode cX9_chain 92 = .ok (.istore 5, 2) := by decide +kernel
theorem dX9_chain_94 : decode cX9_chain 94 = .ok (.iinc 6 1, 3) := by decide +kernel
theorem dX9_chain_97 : decode cX9_chain 97 = .ok (.goto (-40), 3) := by decide +kernel
theorem dX9_chain_100 : decode cX9_chain 100 = .ok (.iload 5, 2) := by decide +kernel
theorem dX9_chain_102 : decode cX9_chain 102 = .ok (.istore_n 3, 1) := by decide +kernel
theorem dX9_chain_103 : decode cX9_chain 103 = .ok (.iinc 4 1, 3) := by decide +kernel
theorem dX9_chain_106 : decode cX9_chain 106 = .ok (.goto (-73), 3) := by decide +kernel
theorem dX9_chain_109 : decode cX9_chain 109 = .ok (.iconst (-1), 1) := by decide +kernel
theorem dX9_chain_110 : decode cX9_chain 110 = .ok (.ireturn, 1) := by decide +kernel
set_option maxHeartbeats 4000000 in
set_option maxRecDepth 100000 in
theorem s_X9_chain (l : Launch) (D : va_G) (K : Nat → ClassId) (ad : Nat → Nat) (v ar : sI) (al : sL) (hI : YI v ar) (z_1 : Int) (hz_1 : -2147483648 ≤ z_1 ∧ z_1 ≤ 2147483647) (z_2 : Int) (hz_2 : -2147483648 ≤ z_2 ∧ z_2 ≤ 2147483647) : Met l yX9_chain (wM yX9_chain cX9_chain 7 (some .int)) (rmD 2) (va_Pc [.ref (ad 0), .int (iI (z_1)), .int (iI (z_2))] (wPre D K ad (yG ad K) 21 v ar al)) (va_Qi (fun (r : Int32) (u : sT) => (∃ z : Int, (-2147483648 ≤ z ∧ z ≤ 2147483647) ∧ r = iI z) ∧ YI u.1 u.2.1 ∧ (∀ i j : Nat, (i, j) ∉ ([(0, 0)] : List (Nat × Nat)) → u.1 i j = v i j) ∧ (∀ i : Nat, i ∉ ([] : List Nat) → u.2.1 i = ar i) ∧ (∀ i : Nat, i ∉ ([] : List Nat) → u.2.2 i = al i)) (wB D ad (yG ad K) 21) (inW ad 21)) 0 0 (inW ad 21) := by
  refine s_metI (by decide) (Nat.le_of_ble_eq_true rfl) ?_
  intro p e s m below meth c ls args Q hE hB hl kr
  have hE : CallFix p m c cX9_chain 7 s args tbG "TaleCourtModel" := hE
  obtain ⟨hP, hK, hN⟩ := hB
  have hS : va_S (inW ad 21) s.heap s.heap [] := va_S.rf
  have hl : lv_has ls 7 [(0, .ref (ad 0)), (1, .int (iI (z_1))), (2, .int (iI (z_2)))] := hl
  obtain ⟨z1, hz1, ez1⟩ := iI_of (ar 6 0)
  obtain ⟨z2, hz2, ez2⟩ := YI_h2 hI 2 (by decide)
  obtain ⟨z3, hz3, ez3⟩ := YI_h5 hI 5 (by decide)
  obtain ⟨z4, hz4, ez4⟩ := YI_h0 hI 0 (by decide)
  have ht0 := YI_t0 hI ez1 (by omega) ez2 (by omega) ez3 (by omega) ez4 (by omega)
  refine lv_aload_n hE.1 hE.2.1 dX9_chain_0 rfl (lv_at hl 0 rfl) ?_
  refine lv_iconst (v := iI (0)) hE.1 hE.2.1 dX9_chain_1 (by decide) ?_
  refine x_put (x := iI (0)) hE hK hN hP hS 0 (by decide) (yG_9 rfl) rfl hin9 tyX9 tyX9_ok nmX9 0 (by decide) mw_1334 rfl rfl rfl (Nat.le_of_ble_eq_true rfl) (yG_9 rfl) dX9_chain_2 (fun v5 H locs hv5 hP hS => ?_)
  have hI := YI_putN hI hv5 (by decide)
  refine lv_aload_n hE.1 hE.2.1 dX9_chain_5 rfl (lv_at hl 0 rfl) ?_
  refine lv_iload_n hE.1 hE.2.1 dX9_chain_6 rfl (lv_at hl 1 rfl) ?_
  refine lv_i2l (v := lI (z_1)) hE.1 hE.2.1 dX9_chain_7 (iI_i2l (by omega)) ?_
  refine x_vp (nn := 1) (As := [.long (lI (z_1))]) (rest := []) hE (s_X9_isMotif l D K ad v5 ar al hI (z2) (by omega) ez2 (z_1) (by omega)) wPre_blind (wPre_now hK hN hP) (x_recv hK hP 0 (by decide) (yG_9 rfl) rfl) rfl mw_1662 mw_1664 mw_74 mw_123 mw_1665 (by decide +kernel) ⟨by decide, by decide⟩ hl.1 rfl (Nat.le_of_ble_eq_true rfl) ⟨Nat.zero_le _, Nat.zero_le _⟩ dX9_chain_8 (fun r6 hr6 => ?_)
  obtain ⟨z6, hz6, rfl⟩ := hr6
  refine s_if_eq (a := z6) (tgt := 23) hE.1 hE.2.1 (by omega) dX9_chain_11 (by decide) (fun c7 => ?_) (fun c7 => ?_)
  · skip
    refine lv_bipush (v := iI (-2)) hE.1 hE.2.1 dX9_chain_23 (by decide) ?_
    exact kr _ v5 ar al _ _ _ _ rfl ⟨⟨-2, by omega, rfl⟩, hI, fun i j h => (up_oth hv5 (fun q => h (by rcases q with ⟨rfl, rfl⟩; decide))), fun i h => rfl, fun i h => rfl⟩ hP hS dX9_chain_25
  · skip
    refine lv_aload_n hE.1 hE.2.1 dX9_chain_14 rfl (lv_at hl 0 rfl) ?_
    refine lv_iload_n hE.1 hE.2.1 dX9_chain_15 rfl (lv_at hl 2 rfl) ?_
    refine lv_i2l (v := lI (z_2)) hE.1 hE.2.1 dX9_chain_16 (iI_i2l (by omega)) ?_
    refine x_vp (nn := 1) (As := [.long (lI (z_2))]) (rest := []) hE (s_X9_isMotif l D K ad v5 ar al hI (z2) (by omega) ez2 (z_2) (by omega)) wPre_blind (wPre_now hK hN hP) (x_recv hK hP 0 (by decide) (yG_9 rfl) rfl) rfl mw_1662 mw_1664 mw_74 mw_123 mw_1665 (by decide +kernel) ⟨by decide, by decide⟩ hl.1 rfl (Nat.le_of_ble_eq_true rfl) ⟨Nat.zero_le _, Nat.zero_le _⟩ dX9_chain_17 (fun r8 hr8 => ?_)
    obtain ⟨z8, hz8, rfl⟩ := hr8
    refine s_if_ne (a := z8) (tgt := 26) hE.1 hE.2.1 (by omega) dX9_chain_20 (by decide) (fun c9 => ?_) (fun c9 => ?_)
    · skip
      refine lv_iconst (v := iI (1)) hE.1 hE.2.1 dX9_chain_26 (by decide) ?_
      refine lv_iload_n hE.1 hE.2.1 dX9_chain_27 rfl (lv_at hl 1 rfl) ?_
      refine lv_ishl hE.1 hE.2.1 dX9_chain_28 ?_
      obtain ⟨z10, hz10, ez10⟩ := iI_shl8 (a := z_1) (by omega)
      refine x_top ez10 ?_
      refine lv_istore_n (lv' := [(3, .int (iI (z10))), (0, .ref (ad 0)), (1, .int (iI (z_1))), (2, .int (iI (z_2)))]) hE.1 hE.2.1 dX9_chain_29 rfl hl (by decide) rfl (fun ls hl => ?_)
      refine lv_iconst (v := iI (1)) hE.1 hE.2.1 dX9_chain_30 (by decide) ?_
      refine lv_istore (lv' := [(4, .int (iI (1))), (3, .int (iI (z10))), (0, .ref (ad 0)), (1, .int (iI (z_1))), (2, .int (iI (z_2)))]) hE.1 hE.2.1 dX9_chain_31 hl (by decide) rfl (fun ls hl => ?_)
      have loop11 : ∀ (k11 : Nat) (y11_4 : Int) (y11_3 : Int) (vl11 : sI) (all11 : sL) (H : Heap) (locs : List Loc) (ls : Array Slot), (10 - y11_4).toNat = k11 → (1 ≤ y11_4 ∧ y11_4 ≤ 10) → (-2147483648 ≤ y11_3 ∧ y11_3 ≤ 2147483647) → YI vl11 ar → (∀ i j : Nat, (i, j) ∉ ([] : List (Nat × Nat)) → vl11 i j = v5 i j) → (∀ i : Nat, i ∉ ([] : List Nat) → all11 i = al i) → va_P D xcl (wW ad (yG ad K) 21 vl11 ar all11) H → va_S (inW ad 21) s.heap H locs → lv_has ls 7 [(4, .int (iI (y11_4))), (3, .int (iI (y11_3))), (0, .ref (ad 0)), (1, .int (iI (z_1))), (2, .int (iI (z_2)))] → W p l e (rmD 2) s m args below meth c H locs 0 0 Q (F0 m 33 ls []) := by
        intro k11
        induction k11 using Nat.strongRecOn with
        | _ k11 ih11 =>
          intro y11_4 y11_3  vl11 all11 H locs ls hk11 hb_y11_4 hb_y11_3 hI hfr11 hfl11 hP hS hl
          refine lv_iload hE.1 hE.2.1 dX9_chain_33 (lv_at hl 0 rfl) ?_
          refine lv_bipush (v := iI (9)) hE.1 hE.2.1 dX9_chain_35 (by decide) ?_
          refine s_icmp_gt (a := y11_4) (b := 9) (tgt := 109) hE.1 hE.2.1 (by omega) (by omega) dX9_chain_37 (by decide) (fun c12 => ?_) (fun c12 => ?_)
          · skip
            refine lv_iconst (v := iI (-1)) hE.1 hE.2.1 dX9_chain_109 (by decide) ?_
            exact kr _ vl11 ar all11 _ _ _ _ rfl ⟨⟨-1, by omega, rfl⟩, hI, fun i j h => ((hfr11 i j (fun q => h (mem_sub (by decide) q))).trans (up_oth hv5 (fun q => h (by rcases q with ⟨rfl, rfl⟩; decide)))), fun i h => rfl, fun i h => (hfl11 i (fun q => h (mem_subn (by decide) q)))⟩ hP hS dX9_chain_110
          · skip
            refine lv_iload_n hE.1 hE.2.1 dX9_chain_40 rfl (lv_at hl 1 rfl) ?_
            refine lv_iload_n hE.1 hE.2.1 dX9_chain_41 rfl (lv_at hl 4 rfl) ?_
            refine x_sp (nn := 2) (As := [.int (iI (y11_3)), .int (iI (z_2))]) (rest := []) hE (s_X9_isBit l (y11_3) (by omega) (z_2) (by omega)) tt_blind (fun _ _ _ => trivial) rfl mw_1683 mw_1684 mw_123 mw_1685 (by decide +kernel) ⟨by decide, by decide⟩ hl.1 rfl (Nat.le_of_ble_eq_true rfl) ⟨Nat.zero_le _, Nat.zero_le _⟩ dX9_chain_42 (fun r13 hr13 => ?_)
            obtain ⟨z13, hz13, rfl⟩ := hr13
            refine s_if_eq (a := z13) (tgt := 51) hE.1 hE.2.1 (by omega) dX9_chain_45 (by decide) (fun c14 => ?_) (fun c14 => ?_)
            · skip
              refine lv_iload_n hE.1 hE.2.1 dX9_chain_51 rfl (lv_at hl 1 rfl) ?_
              refine lv_istore (lv' := [(5, .int (iI (y11_3))), (4, .int (iI (y11_4))), (3, .int (iI (y11_3))), (0, .ref (ad 0)), (1, .int (iI (z_1))), (2, .int (iI (z_2)))]) hE.1 hE.2.1 dX9_chain_52 hl (by decide) rfl (fun ls hl => ?_)
              refine lv_iconst (v := iI (0)) hE.1 hE.2.1 dX9_chain_54 (by decide) ?_
              refine lv_istore (lv' := [(6, .int (iI (0))), (5, .int (iI (y11_3))), (4, .int (iI (y11_4))), (3, .int (iI (y11_3))), (0, .ref (ad 0)), (1, .int (iI (z_1))), (2, .int (iI (z_2)))]) hE.1 hE.2.1 dX9_chain_55 hl (by decide) rfl (fun ls hl => ?_)
              have loop15 : ∀ (k15 : Nat) (y15_6 : Int) (y15_5 : Int) (vl15 : sI) (all15 : sL) (H : Heap) (locs : List Loc) (ls : Array Slot), (9 - y15_6).toNat = k15 → (0 ≤ y15_6 ∧ y15_6 ≤ 9) → (-2147483648 ≤ y15_5 ∧ y15_5 ≤ 2147483647) → YI vl15 ar → (∀ i j : Nat, (i, j) ∉ ([] : List (Nat × Nat)) → vl15 i j = vl11 i j) → (∀ i : Nat, i ∉ ([] : List Nat) → all15 i = all11 i) → va_P D xcl (wW ad (yG ad K) 21 vl15 ar all15) H → va_S (inW ad 21) s.heap H locs → lv_has ls 7 [(6, .int (iI (y15_6))), (5, .int (iI (y15_5))), (4, .int (iI (y11_4))), (3, .int (iI (y11_3))), (0, .ref (ad 0)), (1, .int (iI (z_1))), (2, .int (iI (z_2)))] → W p l e (rmD 2) s m args below meth c H locs 0 0 Q (F0 m 57 ls []) := by
                intro k15
                induction k15 using Nat.strongRecOn with
                | _ k15 ih15 =>
                  intro y15_6 y15_5  vl15 all15 H locs ls hk15 hb_y15_6 hb_y15_5 hI hfr15 hfl15 hP hS hl
                  refine lv_iload hE.1 hE.2.1 dX9_chain_57 (lv_at hl 0 rfl) ?_
                  refine lv_aload_n hE.1 hE.2.1 dX9_chain_59 rfl (lv_at hl 4 rfl) ?_
                  refine x_get (x := .ref (ad 7)) hE hK hP 0 (by decide) (yG_9 rfl) rfl hin9 17 (by decide) mw_1351 rfl dX9_chain_60 ?_
                  refine lv_iconst (v := iI (2)) hE.1 hE.2.1 dX9_chain_63 (by decide) ?_
                  refine x_iald (j := iI (2)) hE hK hP 7 (by decide) (yG_10 rfl) (iI_in (n := 30) (by omega)) dX9_chain_64 ?_
                  refine x_top (y := iI (z2)) (by rw [show (iI (2)).toNatClampNeg = 2 from by decide]; exact ez2) ?_
                  refine s_icmp_ge (a := y15_6) (b := z2) (tgt := 100) hE.1 hE.2.1 (by omega) (by omega) dX9_chain_65 (by decide) (fun c17 => ?_) (fun c17 => ?_)
                  · skip
                    refine lv_iload hE.1 hE.2.1 dX9_chain_100 (lv_at hl 1 rfl) ?_
                    refine lv_istore_n (lv' := [(3, .int (iI (y15_5))), (6, .int (iI (y15_6))), (5, .int (iI (y15_5))), (4, .int (iI (y11_4))), (0, .ref (ad 0)), (1, .int (iI (z_1))), (2, .int (iI (z_2)))]) hE.1 hE.2.1 dX9_chain_102 rfl hl (by decide) rfl (fun ls hl => ?_)
                    refine lv_iinc (v := iI (y11_4 + 1)) (lv' := [(4, .int (iI (y11_4 + 1))), (3, .int (iI (y15_5))), (6, .int (iI (y15_6))), (5, .int (iI (y15_5))), (0, .ref (ad 0)), (1, .int (iI (z_1))), (2, .int (iI (z_2)))]) hE.1 hE.2.1 dX9_chain_103 hl (k := 3) rfl ((iI_add (y11_4) (1)).trans (congrArg iI (by omega))) (by decide) rfl (fun ls hl => ?_)
                    refine lv_goto (tgt := 33) hE.1 hE.2.1 dX9_chain_106 (by decide) ?_
                    exact ih11 _ (by omega) (y11_4 + 1) (y15_5)  vl15  all15 _ _ _ rfl (by omega) (by omega)  hI (fun i j h => ((hfr15 i j (fun q => h (mem_sub (by decide) q))).trans (hfr11 i j h))) (fun i h => ((hfl15 i (fun q => h (mem_subn (by decide) q))).trans (hfl11 i h))) hP hS (lv_sub hl [0, 1, 4, 5, 6] rfl)
                  · skip
                    refine lv_iload hE.1 hE.2.1 dX9_chain_68 (lv_at hl 1 rfl) ?_
                    refine lv_iload_n hE.1 hE.2.1 dX9_chain_70 rfl (lv_at hl 3 rfl) ?_
                    refine lv_iload hE.1 hE.2.1 dX9_chain_71 (lv_at hl 0 rfl) ?_
                    refine x_sp (nn := 2) (As := [.int (iI (y11_3)), .int (iI (y15_6))]) (rest := [.int (iI (y15_5))]) hE (s_X9_isBit l (y11_3) (by omega) (y15_6) (by omega)) tt_blind (fun _ _ _ => trivial) rfl mw_1683 mw_1684 mw_123 mw_1685 (by decide +kernel) ⟨by decide, by decide⟩ hl.1 rfl (Nat.le_of_ble_eq_true rfl) ⟨Nat.zero_le _, Nat.zero_le _⟩ dX9_chain_73 (fun r18 hr18 => ?_)
                    obtain ⟨z18, hz18, rfl⟩ := hr18
                    refine s_if_eq (a := z18) (tgt := 90) hE.1 hE.2.1 (by omega) dX9_chain_76 (by decide) (fun c19 => ?_) (fun c19 => ?_)
                    · skip
                      refine lv_iconst (v := iI (0)) hE.1 hE.2.1 dX9_chain_90 (by decide) ?_
                      refine lv_ior hE.1 hE.2.1 dX9_chain_91 ?_
                      obtain ⟨z20, hz20, ez20⟩ := iI_of (iI (y15_5) ||| iI (0))
                      refine x_top ez20 ?_
                      refine lv_istore (lv' := [(5, .int (iI (z20))), (6, .int (iI (y15_6))), (4, .int (iI (y11_4))), (3, .int (iI (y11_3))), (0, .ref (ad 0)), (1, .int (iI (z_1))), (2, .int (iI (z_2)))]) hE.1 hE.2.1 dX9_chain_92 hl (by decide) rfl (fun ls hl => ?_)
                      refine lv_iinc (v := iI (y15_6 + 1)) (lv' := [(6, .int (iI (y15_6 + 1))), (5, .int (iI (z20))), (4, .int (iI (y11_4))), (3, .int (iI (y11_3))), (0, .ref (ad 0)), (1, .int (iI (z_1))), (2, .int (iI (z_2)))]) hE.1 hE.2.1 dX9_chain_94 hl (k := 1) rfl ((iI_add (y15_6) (1)).trans (congrArg iI (by omega))) (by decide) rfl (fun ls hl => ?_)
                      refine lv_goto (tgt := 57) hE.1 hE.2.1 dX9_chain_97 (by decide) ?_
                      exact ih15 _ (by omega) (y15_6 + 1) (z20)  vl15  all15 _ _ _ rfl (by omega) (by omega)  hI (fun i j h => (hfr15 i j h)) (fun i h => (hfl15 i h)) hP hS (lv_sub hl [0, 1, 2, 3, 4, 5, 6] rfl)
                    · skip
                      refine lv_aload_n hE.1 hE.2.1 dX9_chain_79 rfl (lv_at hl 4 rfl) ?_
                      refine lv_iload hE.1 hE.2.1 dX9_chain_80 (lv_at hl 0 rfl) ?_
                      refine lv_bipush (v := iI (7)) hE.1 hE.2.1 dX9_chain_82 (by decide) ?_
                      refine x_vp (nn := 2) (As := [.int (iI (y15_6)), .int (iI (7))]) (rest := [.int (iI (y15_5))]) hE (s_X9_of l D K ad vl15 ar all15 hI  (y15_6) (by omega) (7) (by omega)) wPre_blind (wPre_now hK hN hP) (x_recv hK hP 0 (by decide) (yG_9 rfl) rfl) rfl mw_1654 mw_1656 mw_73 mw_123 mw_1657 (by decide +kernel) ⟨by decide, by decide⟩ hl.1 rfl (Nat.le_of_ble_eq_true rfl) ⟨Nat.zero_le _, Nat.zero_le _⟩ dX9_chain_84 (fun r21 hr21 => ?_)
                      obtain ⟨z21, hz21, rfl⟩ := hr21
                      refine lv_goto (tgt := 91) hE.1 hE.2.1 dX9_chain_87 (by decide) ?_
                      refine lv_ior hE.1 hE.2.1 dX9_chain_91 ?_
                      obtain ⟨z22, hz22, ez22⟩ := iI_of (iI (y15_5) ||| iI (z21))
                      refine x_top ez22 ?_
                      refine lv_istore (lv' := [(5, .int (iI (z22))), (6, .int (iI (y15_6))), (4, .int (iI (y11_4))), (3, .int (iI (y11_3))), (0, .ref (ad 0)), (1, .int (iI (z_1))), (2, .int (iI (z_2)))]) hE.1 hE.2.1 dX9_chain_92 hl (by decide) rfl (fun ls hl => ?_)
                      refine lv_iinc (v := iI (y15_6 + 1)) (lv' := [(6, .int (iI (y15_6 + 1))), (5, .int (iI (z22))), (4, .int (iI (y11_4))), (3, .int (iI (y11_3))), (0, .ref (ad 0)), (1, .int (iI (z_1))), (2, .int (iI (z_2)))]) hE.1 hE.2.1 dX9_chain_94 hl (k := 1) rfl ((iI_add (y15_6) (1)).trans (congrArg iI (by omega))) (by decide) rfl (fun ls hl => ?_)
                      refine lv_goto (tgt := 57) hE.1 hE.2.1 dX9_chain_97 (by decide) ?_
                      exact ih15 _ (by omega) (y15_6 + 1) (z22)  vl15  all15 _ _ _ rfl (by omega) (by omega)  hI (fun i j h => (hfr15 i j h)) (fun i h => (hfl15 i h)) hP hS (lv_sub hl [0, 1, 2, 3, 4, 5, 6] rfl)
              exact loop15 _ (0) (y11_3)  vl11  all11 _ _ _ rfl (by omega) (by omega)  hI (fun _ _ _ => rfl) (fun _ _ => rfl) hP hS hl
            · skip
              refine lv_iload hE.1 hE.2.1 dX9_chain_48 (lv_at hl 0 rfl) ?_
              exact kr _ vl11 ar all11 _ _ _ _ rfl ⟨⟨y11_4, by omega, rfl⟩, hI, fun i j h => ((hfr11 i j (fun q => h (mem_sub (by decide) q))).trans (up_oth hv5 (fun q => h (by rcases q with ⟨rfl, rfl⟩; decide)))), fun i h => rfl, fun i h => (hfl11 i (fun q => h (mem_subn (by decide) q)))⟩ hP hS dX9_chain_50
      exact loop11 _ (1) (z10)  v5  al _ _ _ rfl (by omega) (by omega)  hI (fun _ _ _ => rfl) (fun _ _ => rfl) hP hS hl
    · skip
      refine lv_bipush (v := iI (-2)) hE.1 hE.2.1 dX9_chain_23 (by decide) ?_
      exact kr _ v5 ar al _ _ _ _ rfl ⟨⟨-2, by omega, rfl⟩, hI, fun i j h => (up_oth hv5 (fun q => h (by rcases q with ⟨rfl, rfl⟩; decide))), fun i h => rfl, fun i h => rfl⟩ hP hS dX9_chain_25
