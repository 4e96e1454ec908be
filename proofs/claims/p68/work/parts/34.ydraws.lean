theorem dX9_isSeed_0 : decode cX9_isSeed 0 = .ok (.aload_n 0, 1) := by decide +kernel
theorem dX9_isSeed_1 : decode cX9_isSeed 1 = .ok (.invokevirtual 301, 3) := by decide +kernel
theorem dX9_isSeed_4 : decode cX9_isSeed 4 = .ok (.ifCond .eq 19, 3) := by decide +kernel
theorem dX9_isSeed_7 : decode cX9_isSeed 7 = .ok (.iload_n 1, 1) := by decide +kernel
theorem dX9_isSeed_8 : decode cX9_isSeed 8 = .ok (.i2l, 1) := by decide +kernel
theorem dX9_isSeed_9 : decode cX9_isSeed 9 = .ok (.lconst 0, 1) := by decide +kernel
theorem dX9_isSeed_10 : decode cX9_isSeed 10 = .ok (.ldc2_w 456, 3) := by decide +kernel
theorem dX9_isSeed_13 : decode cX9_isSeed 13 = .ok (.invokestatic 86, 3) := by decide +kernel
theorem dX9_isSeed_16 : decode cX9_isSeed 16 = .ok (.ifCond .eq 7, 3) := by decide +kernel
theorem dX9_isSeed_19 : decode cX9_isSeed 19 = .ok (.iconst 1, 1) := by decide +kernel
theorem dX9_isSeed_20 : decode cX9_isSeed 20 = .ok (.goto 4, 3) := by decide +kernel
theorem dX9_isSeed_23 : decode cX9_isSeed 23 = .ok (.iconst 0, 1) := by decide +kernel
theorem dX9_isSeed_24 : decode cX9_isSeed 24 = .ok (.ireturn, 1) := by decide +kernel
set_option maxHeartbeats 4000000 in
set_option maxRecDepth 100000 in
theorem s_X9_isSeed (l : Launch) (D : va_G) (K : Nat → ClassId) (ad : Nat → Nat) (v ar : sI) (al : sL) (hI : YI v ar) (w_1 : Int) (hw_1 : -2147483648 ≤ w_1 ∧ w_1 ≤ 2147483647) (ew_1 : ar 6 0 = iI w_1) (z_1 : Int) (hz_1 : -2147483648 ≤ z_1 ∧ z_1 ≤ 2147483647) : Met l yX9_isSeed (wM yX9_isSeed cX9_isSeed 2 (some .boolean)) (rmD 1) (va_Pc [.ref (ad 0), .int (iI (z_1))] (wPre D K ad (yG ad K) 21 v ar al)) (vp_Si (fun r => ∃ z : Int, (z = 0 ∨ (z = 1 ∧ 0 ≤ z_1 ∧ z_1 ≤ 2000000000 ∧ 0 < w_1)) ∧ r = iI z)) 0 0 (fun _ => False) := by
  refine s_metP (by decide) (Nat.le_of_ble_eq_true rfl) ?_
  intro p e s m below meth c ls args Q hE hB hl kr
  have hE : CallFix p m c cX9_isSeed 2 s args tbG "TaleCourtModel" := hE
  obtain ⟨hP, hK, hN⟩ := hB
  have hl : lv_has ls 2 [(0, .ref (ad 0)), (1, .int (iI (z_1)))] := hl
  refine lv_aload_n hE.1 hE.2.1 dX9_isSeed_0 rfl (lv_at hl 0 rfl) ?_
  refine x_vp (nn := 0) (As := []) (rest := []) hE (s_X9_isCourt l D K ad v ar al hI (w_1) (by omega) ew_1 ) wPre_blind (wPre_now hK hN hP) (x_recv hK hP 0 (by decide) (yG_9 rfl) rfl) rfl mw_1718 mw_1720 mw_79 mw_123 mw_1721 (by decide +kernel) ⟨by decide, by decide⟩ hl.1 rfl (Nat.le_of_ble_eq_true rfl) ⟨Nat.zero_le _, Nat.zero_le _⟩ dX9_isSeed_1 (fun r1 hr1 => ?_)
  obtain ⟨z1, hz1, rfl⟩ := hr1
  refine s_if_eq (a := z1) (tgt := 23) hE.1 hE.2.1 (by omega) dX9_isSeed_4 (by decide) (fun c2 => ?_) (fun c2 => ?_)
  · skip
    refine lv_iconst (v := iI (0)) hE.1 hE.2.1 dX9_isSeed_23 (by decide) ?_
    exact kr _ _ _ (nar01 (by omega)) ⟨0, by omega, rfl⟩ dX9_isSeed_24
  · skip
    refine lv_iload_n hE.1 hE.2.1 dX9_isSeed_7 rfl (lv_at hl 1 rfl) ?_
    refine lv_i2l (v := lI (z_1)) hE.1 hE.2.1 dX9_isSeed_8 (iI_i2l (by omega)) ?_
    refine lv_lconst (v := lI (0)) hE.1 hE.2.1 dX9_isSeed_9 (by decide) ?_
    refine lv_ldc2 (v := 2000000000) hE.1 hE.2.1 hE.2.2.2.1 (hE.2.2.2.2 _ mw_2045) dX9_isSeed_10 ?_
    refine x_topl (y := lI (2000000000)) (by decide) ?_
    refine x_sp (nn := 3) (As := [.long (lI (z_1)), .long (lI (0)), .long (lI (2000000000))]) (rest := []) hE (s_X9_in l (z_1) (by omega) (0) (by omega) (2000000000) (by omega)) tt_blind (fun _ _ _ => trivial) rfl mw_1494 mw_1495 mw_123 mw_1496 (by decide +kernel) ⟨by decide, by decide⟩ hl.1 rfl (Nat.le_of_ble_eq_true rfl) ⟨Nat.zero_le _, Nat.zero_le _⟩ dX9_isSeed_13 (fun r3 hr3 => ?_)
    obtain ⟨z3, hz3, rfl⟩ := hr3
    refine s_if_eq (a := z3) (tgt := 23) hE.1 hE.2.1 (by omega) dX9_isSeed_16 (by decide) (fun c4 => ?_) (fun c4 => ?_)
    · skip
      refine lv_iconst (v := iI (0)) hE.1 hE.2.1 dX9_isSeed_23 (by decide) ?_
      exact kr _ _ _ (nar01 (by omega)) ⟨0, by omega, rfl⟩ dX9_isSeed_24
    · skip
      refine lv_iconst (v := iI (1)) hE.1 hE.2.1 dX9_isSeed_19 (by decide) ?_
      refine lv_goto (tgt := 24) hE.1 hE.2.1 dX9_isSeed_20 (by decide) ?_
      exact kr _ _ _ (nar01 (by omega)) ⟨1, by omega, rfl⟩ dX9_isSeed_24

set_option maxHeartbeats 4000000 in
set_option maxRecDepth 100000 in
theorem s_X9_mayNow_e (l : Launch) (D : va_G) (K : Nat → ClassId) (ad : Nat → Nat) (v ar : sI) (al : sL) (hI : YI v ar) (w_1 : Int) (hw_1 : 1 ≤ w_1 ∧ w_1 ≤ 3) (ew_1 : ar 7 0 = iI w_1) (w_2 : Int) (hw_2 : 0 ≤ w_2 ∧ w_2 ≤ 511) (ew_2 : v 0 25 = iI w_2) : Met l yX9_mayNow (wM yX9_mayNow cX9_mayNow 3 (some .int)) (rmD 3) (va_Pc [.ref (ad 0)] (wPre D K ad (yG ad K) 21 v ar al)) (vp_Si (fun r => ∃ z : Int, ((0 ≤ z ∧ z ≤ 511) ∧ dj z w_2) ∧ r = iI z)) 0 0 (fun _ => False) := by
  refine s_metP (by decide) (Nat.le_of_ble_eq_true rfl) ?_
  intro p e s m below meth c ls args Q hE hB hl kr
  have hE : CallFix p m c cX9_mayNow 3 s args tbG "TaleCourtModel" := hE
  obtain ⟨hP, hK, hN⟩ := hB
  have hl : lv_has ls 3 [(0, .ref (ad 0))] := hl
  refine lv_iconst (v := iI (0)) hE.1 hE.2.1 dX9_mayNow_0 (by decide) ?_
  refine lv_istore_n (lv' := [(1, .int (iI (0))), (0, .ref (ad 0))]) hE.1 hE.2.1 dX9_mayNow_1 rfl hl (by decide) rfl (fun ls hl => ?_)
  refine lv_iconst (v := iI (0)) hE.1 hE.2.1 dX9_mayNow_2 (by decide) ?_
  refine lv_istore_n (lv' := [(2, .int (iI (0))), (1, .int (iI (0))), (0, .ref (ad 0))]) hE.1 hE.2.1 dX9_mayNow_3 rfl hl (by decide) rfl (fun ls hl => ?_)
  have loop1 : ∀ (k1 : Nat) (y1_2 : Int) (y1_1 : Int) (ls : Array Slot), (9 - y1_2).toNat = k1 → (0 ≤ y1_2 ∧ y1_2 ≤ 9) → (0 ≤ y1_1 ∧ y1_1 ≤ 511) → (dj y1_1 w_2) → lv_has ls 3 [(2, .int (iI (y1_2))), (1, .int (iI (y1_1))), (0, .ref (ad 0))] → W p l e (rmD 3) s m args below meth c s.heap [] 0 0 Q (F0 m 4 ls []) := by
    intro k1
    induction k1 using Nat.strongRecOn with
    | _ k1 ih1 =>
      intro y1_2 y1_1 ls hk1 hb_y1_2 hb_y1_1 hb_xi1 hl
      refine lv_iload_n hE.1 hE.2.1 dX9_mayNow_4 rfl (lv_at hl 0 rfl) ?_
      refine lv_aload_n hE.1 hE.2.1 dX9_mayNow_5 rfl (lv_at hl 2 rfl) ?_
      refine x_get (x := .ref (ad 7)) hE hK hP 0 (by decide) (yG_9 rfl) rfl hin9 17 (by decide) mw_1351 rfl dX9_mayNow_6 ?_
      refine lv_iconst (v := iI (2)) hE.1 hE.2.1 dX9_mayNow_9 (by decide) ?_
      refine x_iald (j := iI (2)) hE hK hP 7 (by decide) (yG_10 rfl) (iI_in (n := 30) (by omega)) dX9_mayNow_10 ?_
      obtain ⟨z3, hz3, ez3⟩ := YI_h2 hI 2 (by decide)
      refine x_top (y := iI (z3)) (by rw [show (iI (2)).toNatClampNeg = 2 from by decide]; exact ez3) ?_
      refine s_icmp_ge (a := y1_2) (b := z3) (tgt := 38) hE.1 hE.2.1 (by omega) (by omega) dX9_mayNow_11 (by decide) (fun c4 => ?_) (fun c4 => ?_)
      · skip
        refine lv_iload_n hE.1 hE.2.1 dX9_mayNow_38 rfl (lv_at hl 1 rfl) ?_
        exact kr _ _ _ rfl ⟨y1_1, ⟨by omega, hb_xi1⟩, rfl⟩ dX9_mayNow_39
      · skip
        refine lv_iload_n hE.1 hE.2.1 dX9_mayNow_14 rfl (lv_at hl 1 rfl) ?_
        refine lv_aload_n hE.1 hE.2.1 dX9_mayNow_15 rfl (lv_at hl 2 rfl) ?_
        refine lv_iload_n hE.1 hE.2.1 dX9_mayNow_16 rfl (lv_at hl 0 rfl) ?_
        refine x_vp (nn := 1) (As := [.int (iI (y1_2))]) (rest := [.int (iI (y1_1))]) hE (s_X9_whyNot_e l D K ad v ar al hI (w_1) (by omega) ew_1 (w_2) (by omega) ew_2 (y1_2) (by omega)) wPre_blind (wPre_now hK hN hP) (x_recv hK hP 0 (by decide) (yG_9 rfl) rfl) rfl mw_1698 mw_1700 mw_75 mw_123 mw_1701 (by decide +kernel) ⟨by decide, by decide⟩ hl.1 rfl (Nat.le_of_ble_eq_true rfl) ⟨Nat.zero_le _, Nat.zero_le _⟩ dX9_mayNow_17 (fun r5 hr5 => ?_)
        obtain ⟨z5, hz5, rfl⟩ := hr5
        refine s_if_ne (a := z5) (tgt := 29) hE.1 hE.2.1 (by omega) dX9_mayNow_20 (by decide) (fun c6 => ?_) (fun c6 => ?_)
        · skip
          refine lv_iconst (v := iI (0)) hE.1 hE.2.1 dX9_mayNow_29 (by decide) ?_
          refine lv_ior hE.1 hE.2.1 dX9_mayNow_30 ?_
          refine x_top (y := iI (y1_1)) (iI_or0 (y1_1)) ?_
          refine lv_istore_n (lv' := [(1, .int (iI (y1_1))), (2, .int (iI (y1_2))), (0, .ref (ad 0))]) hE.1 hE.2.1 dX9_mayNow_31 rfl hl (by decide) rfl (fun ls hl => ?_)
          refine lv_iinc (v := iI (y1_2 + 1)) (lv' := [(2, .int (iI (y1_2 + 1))), (1, .int (iI (y1_1))), (0, .ref (ad 0))]) hE.1 hE.2.1 dX9_mayNow_32 hl (k := 1) rfl ((iI_add (y1_2) (1)).trans (congrArg iI (by omega))) (by decide) rfl (fun ls hl => ?_)
          refine lv_goto (tgt := 4) hE.1 hE.2.1 dX9_mayNow_35 (by decide) ?_
          exact ih1 _ (by omega) (y1_2 + 1) (y1_1) _ rfl (by omega) (by omega) (hb_xi1) (lv_sub hl [0, 1, 2] rfl)
        · skip
          refine lv_iconst (v := iI (1)) hE.1 hE.2.1 dX9_mayNow_23 (by decide) ?_
          refine lv_iload_n hE.1 hE.2.1 dX9_mayNow_24 rfl (lv_at hl 0 rfl) ?_
          refine lv_ishl hE.1 hE.2.1 dX9_mayNow_25 ?_
          obtain ⟨z7, hz7, ez7⟩ := iI_shl8 (a := y1_2) (by omega)
          refine x_top ez7 ?_
          refine lv_goto (tgt := 30) hE.1 hE.2.1 dX9_mayNow_26 (by decide) ?_
          refine lv_ior hE.1 hE.2.1 dX9_mayNow_30 ?_
          obtain ⟨z8, hz8, ez8⟩ := sb_of (a := y1_1) (m := y1_2) (by omega) (by omega) ez7
          refine x_top ez8 ?_
          refine lv_istore_n (lv' := [(1, .int (iI (z8))), (2, .int (iI (y1_2))), (0, .ref (ad 0))]) hE.1 hE.2.1 dX9_mayNow_31 rfl hl (by decide) rfl (fun ls hl => ?_)
          refine lv_iinc (v := iI (y1_2 + 1)) (lv' := [(2, .int (iI (y1_2 + 1))), (1, .int (iI (z8))), (0, .ref (ad 0))]) hE.1 hE.2.1 dX9_mayNow_32 hl (k := 1) rfl ((iI_add (y1_2) (1)).trans (congrArg iI (by omega))) (by decide) rfl (fun ls hl => ?_)
          refine lv_goto (tgt := 4) hE.1 hE.2.1 dX9_mayNow_35 (by decide) ?_
          exact ih1 _ (by omega) (y1_2 + 1) (z8) _ rfl (by omega) (by omega) (dj_sb hb_xi1 hz8.1 (by omega) (by omega) (by omega) (by omega)) (lv_sub hl [0, 1, 2] rfl)
  exact loop1 _ (0) (0) _ rfl (by omega) (by omega) (dj_0 _) hl

set_option maxHeartbeats 4000000 in
set_option maxRecDepth 100000 in
theorem s_X9_sizeOf_e (l : Launch) (z_1 : Int) (hz_1 : 0 ≤ z_1 ∧ z_1 ≤ 511) : Met l yX9_sizeOf (wM yX9_sizeOf cX9_sizeOf 3 (some .int)) (rmD 0) (va_Pc [.int (iI (z_1))] (fun _ => True)) (vp_Si (fun r => ∃ z : Int, (z = pc z_1 ∧ 0 ≤ z ∧ z ≤ 9) ∧ r = iI z)) 0 0 (fun _ => False) := by
  refine s_metP (by decide) (Nat.le_of_ble_eq_true rfl) ?_
  intro p e s m below meth c ls args Q hE hB hl kr
  have hE : CallFix p m c cX9_sizeOf 3 s args tbG "TaleCourtModel" := hE
  have hl : lv_has ls 3 [(0, .int (iI (z_1)))] := hl
  refine lv_iconst (v := iI (0)) hE.1 hE.2.1 dX9_sizeOf_0 (by decide) ?_
  refine lv_istore_n (lv' := [(1, .int (iI (0))), (0, .int (iI (z_1)))]) hE.1 hE.2.1 dX9_sizeOf_1 rfl hl (by decide) rfl (fun ls hl => ?_)
  refine lv_iload_n hE.1 hE.2.1 dX9_sizeOf_2 rfl (lv_at hl 1 rfl) ?_
  refine lv_istore_n (lv' := [(2, .int (iI (z_1))), (1, .int (iI (0))), (0, .int (iI (z_1)))]) hE.1 hE.2.1 dX9_sizeOf_3 rfl hl (by decide) rfl (fun ls hl => ?_)
  have loop1 : ∀ (k1 : Nat) (y1_2 : Int) (y1_1 : Int) (ls : Array Slot), (y1_2).toNat = k1 → (0 ≤ y1_2 ∧ y1_2 ≤ 511) → (0 ≤ y1_1 ∧ y1_1 ≤ 9) → (y1_1 + pc y1_2 = pc z_1) → lv_has ls 3 [(2, .int (iI (y1_2))), (1, .int (iI (y1_1))), (0, .int (iI (z_1)))] → W p l e (rmD 0) s m args below meth c s.heap [] 0 0 Q (F0 m 4 ls []) := by
    intro k1
    induction k1 using Nat.strongRecOn with
    | _ k1 ih1 =>
      intro y1_2 y1_1 ls hk1 hb_y1_2 hb_y1_1 hb_xi1 hl
      have hple1 := pc_le (y1_2)
      have hplz1 := pc_le z_1
      refine lv_iload_n hE.1 hE.2.1 dX9_sizeOf_4 rfl (lv_at hl 0 rfl) ?_
      refine s_if_eq (a := y1_2) (tgt := 20) hE.1 hE.2.1 (by omega) dX9_sizeOf_5 (by decide) (fun c2 => ?_) (fun c2 => ?_)
      · skip
        refine lv_iload_n hE.1 hE.2.1 dX9_sizeOf_20 rfl (lv_at hl 1 rfl) ?_
        exact kr _ _ _ rfl ⟨y1_1, by have h0 := pc_0 (a := y1_2) (by omega); omega, rfl⟩ dX9_sizeOf_21
      · skip
        refine lv_iinc (v := iI (y1_1 + 1)) (lv' := [(1, .int (iI (y1_1 + 1))), (2, .int (iI (y1_2))), (0, .int (iI (z_1)))]) hE.1 hE.2.1 dX9_sizeOf_8 hl (k := 1) rfl ((iI_add (y1_1) (1)).trans (congrArg iI (by omega))) (by decide) rfl (fun ls hl => ?_)
        refine lv_iload_n hE.1 hE.2.1 dX9_sizeOf_11 rfl (lv_at hl 1 rfl) ?_
        refine lv_iload_n hE.1 hE.2.1 dX9_sizeOf_12 rfl (lv_at hl 1 rfl) ?_
        refine lv_iconst (v := iI (1)) hE.1 hE.2.1 dX9_sizeOf_13 (by decide) ?_
        refine lv_isub hE.1 hE.2.1 dX9_sizeOf_14 ?_
        refine x_top (y := iI (y1_2 - 1)) ((iI_sub (y1_2) (1)).trans (congrArg iI (by omega))) ?_
        refine lv_iand hE.1 hE.2.1 dX9_sizeOf_15 ?_
        obtain ⟨z3, hz3, ez3⟩ := lb_of (a := y1_2) (by omega)
        refine x_top ez3 ?_
        refine lv_istore_n (lv' := [(2, .int (iI (z3))), (1, .int (iI (y1_1 + 1))), (0, .int (iI (z_1)))]) hE.1 hE.2.1 dX9_sizeOf_16 rfl hl (by decide) rfl (fun ls hl => ?_)
        refine lv_goto (tgt := 4) hE.1 hE.2.1 dX9_sizeOf_17 (by decide) ?_
        have hpw4 := pc_le (z3)
        exact ih1 _ (by omega) (z3) (y1_1 + 1) _ rfl (by omega) (by omega) (by omega) (lv_sub hl [0, 1, 2] rfl)
  exact loop1 _ (z_1) (0) _ rfl (by omega) (by omega) (by omega) hl

theorem dX9_draws_0 : decode cX9_draws 0 = .ok (.aload_n 0, 1) := by decide +kernel
theorem dX9_draws_1 : decode cX9_draws 1 = .ok (.invokevirtual 246, 3) := by decide +kernel
theorem dX9_draws_4 : decode cX9_draws 4 = .ok (.aload_n 0, 1) := by decide +kernel
theorem dX9_draws_5 : decode cX9_draws 5 = .ok (.aload_n 0, 1) := by decide +kernel
theorem dX9_draws_6 : decode cX9_draws 6 = .ok (.getfield 265, 3) := by decide +kernel
theorem dX9_draws_9 : decode cX9_draws 9 = .ok (.putfield 445, 3) := by decide +kernel
theorem dX9_draws_12 : decode cX9_draws 12 = .ok (.lload_n 1, 1) := by decide +kernel
theorem dX9_draws_13 : decode cX9_draws 13 = .ok (.lstore_n 3, 1) := by decide +kernel
theorem dX9_draws_14 : decode cX9_draws 14 = .ok (.aload_n 0, 1) := by decide +kernel
theorem dX9_draws_15 : decode cX9_draws 15 = .ok (.invokevirtual 307, 3) := by decide +kernel
theorem dX9_draws_18 : decode cX9_draws 18 = .ok (.istore 5, 2) := by decide +kernel
theorem dX9_draws_20 : decode cX9_draws 20 = .ok (.iload 5, 2) := by decide +kernel
theorem dX9_draws_22 : decode cX9_draws 22 = .ok (.ifCond .eq 91, 3) := by decide +kernel
theorem dX9_draws_25 : decode cX9_draws 25 = .ok (.ldc2_w 448, 3) := by decide +kernel
theorem dX9_draws_28 : decode cX9_draws 28 = .ok (.lload_n 3, 1) := by decide +kernel
theorem dX9_draws_29 : decode cX9_draws 29 = .ok (.lmul, 1) := by decide +kernel
theorem dX9_draws_30 : decode cX9_draws 30 = .ok (.ldc2_w 450, 3) := by decide +kernel
theorem dX9_draws_33 : decode cX9_draws 33 = .ok (.ladd, 1) := by decide +kernel
theorem dX9_draws_34 : decode cX9_draws 34 = .ok (.ldc2_w 452, 3) := by decide +kernel
theorem dX9_draws_37 : decode cX9_draws 37 = .ok (.lrem, 1) := by decide +kernel
theorem dX9_draws_38 : decode cX9_draws 38 = .ok (.lstore_n 3, 1) := by decide +kernel
theorem dX9_draws_39 : decode cX9_draws 39 = .ok (.lload_n 3, 1) := by decide +kernel
theorem dX9_draws_40 : decode cX9_draws 40 = .ok (.ldc2_w 454, 3) := by decide +kernel
theorem dX9_draws_43 : decode cX9_draws 43 = .ok (.ldiv, 1) := by decide +kernel
theorem dX9_draws_44 : decode cX9_draws 44 = .ok (.iload 5, 2) := by decide +kernel
theorem dX9_draws_46 : decode cX9_draws 46 = .ok (.invokestatic 433, 3) := by decide +kernel
theorem dX9_draws_49 : decode cX9_draws 49 = .ok (.i2l, 1) := by decide +kernel
theorem dX9_draws_50 : decode cX9_draws 50 = .ok (.lrem, 1) := by decide +kernel
theorem dX9_draws_51 : decode cX9_draws 51 = .ok (.l2i, 1) := by decide +kernel
theorem dX9_draws_52 : decode cX9_draws 52 = .ok (.istore 6, 2) := by decide +kernel
theorem dX9_draws_54 : decode cX9_draws 54 = .ok (.iconst 0, 1) := by decide +kernel
theorem dX9_draws_55 : decode cX9_draws 55 = .ok (.istore 7, 2) := by decide +kernel
theorem dX9_draws_57 : decode cX9_draws 57 = .ok (.iload 6, 2) := by decide +kernel
theorem dX9_draws_59 : decode cX9_draws 59 = .ok (.ifCond .gt 13, 3) := by decide +kernel
theorem dX9_draws_62 : decode cX9_draws 62 = .ok (.iload 5, 2) := by decide +kernel
theorem dX9_draws_64 : decode cX9_draws 64 = .ok (.iload 7, 2) := by decide +kernel
theorem dX9_draws_66 : decode cX9_draws 66 = .ok (.invokestatic 261, 3) := by decide +kernel
theorem dX9_draws_69 : decode cX9_draws 69 = .ok (.ifCond .ne 29, 3) := by decide +kernel
theorem dX9_draws_72 : decode cX9_draws 72 = .ok (.iload 6, 2) := by decide +kernel
theorem dX9_draws_74 : decode cX9_draws 74 = .ok (.iload 5, 2) := by decide +kernel
theorem dX9_draws_76 : decode cX9_draws 76 = .ok (.iload 7, 2) := by decide +kernel
theorem dX9_draws_78 : decode cX9_draws 78 = .ok (.invokestatic 261, 3) := by decide +kernel
theorem dX9_draws_81 : decode cX9_draws 81 = .ok (.ifCond .eq 7, 3) := by decide +kernel
theorem dX9_draws_84 : decode cX9_draws 84 = .ok (.iconst 1, 1) := by decide +kernel
theorem dX9_draws_85 : decode cX9_draws 85 = .ok (.goto 4, 3) := by decide +kernel
theorem dX9_draws_88 : decode cX9_draws 88 = .ok (.iconst 0, 1) := by decide +kernel
theorem dX9_draws_89 : decode cX9_draws 89 = .ok (.isub, 1) := by decide +kernel
theorem dX9_draws_90 : decode cX9_draws 90 = .ok (.istore 6, 2) := by decide +kernel
theorem dX9_draws_92 : decode cX9_draws 92 = .ok (.iinc 7 1, 3) := by decide +kernel
theorem dX9_draws_95 : decode cX9_draws 95 = .ok (.goto (-38), 3) := by decide +kernel
theorem dX9_draws_98 : decode cX9_draws 98 = .ok (.aload_n 0, 1) := by decide +kernel
theorem dX9_draws_99 : decode cX9_draws 99 = .ok (.iload 7, 2) := by decide +kernel
theorem dX9_draws_101 : decode cX9_draws 101 = .ok (.invokevirtual 283, 3) := by decide +kernel
theorem dX9_draws_104 : decode cX9_draws 104 = .ok (.aload_n 0, 1) := by decide +kernel
theorem dX9_draws_105 : decode cX9_draws 105 = .ok (.invokevirtual 307, 3) := by decide +kernel
theorem dX9_draws_108 : decode cX9_draws 108 = .ok (.istore 5, 2) := by decide +kernel
theorem dX9_draws_110 : decode cX9_draws 110 = .ok (.goto (-90), 3) := by decide +kernel
theorem dX9_draws_113 : decode cX9_draws 113 = .ok (.return_, 1) := by decide +kernel
set_option maxHeartbeats 4000000 in
set_option maxRecDepth 100000 in
theorem s_X9_draws_e (l : Launch) (D : va_G) (K : Nat → ClassId) (ad : Nat → Nat) (v ar : sI) (al : sL) (hI : YI v ar) (w_1 : Int) (hw_1 : 1 ≤ w_1 ∧ w_1 ≤ 3) (ew_1 : ar 7 0 = iI w_1) (z_1 : Int) (hz_1 : 0 ≤ z_1 ∧ z_1 ≤ 2000000020) : Met l yX9_draws (wM yX9_draws cX9_draws 8 none) (rmD 4) (va_Pc [.ref (ad 0), .long (lI (z_1))] (wPre D K ad (yG ad K) 21 v ar al)) (va_Qv (fun u : sT => YI u.1 u.2.1 ∧ (∀ i j : Nat, (i, j) ∉ ([(0, 24), (0, 25), (0, 26), (0, 27), (0, 49)] : List (Nat × Nat)) → u.1 i j = v i j) ∧ (∀ i : Nat, i ∉ ([12, 13, 14] : List Nat) → u.2.1 i = ar i) ∧ (∀ i : Nat, i ∉ ([] : List Nat) → u.2.2 i = al i)) (wB D ad (yG ad K) 21) (inW ad 21)) 0 0 (inW ad 21) := by
  refine s_metV (by decide) (Nat.le_of_ble_eq_true rfl) ?_
  intro p e s m below meth c ls args Q hE hB hl kr
  have hE : CallFix p m c cX9_draws 8 s args tbG "TaleCourtModel" := hE
  obtain ⟨hP, hK, hN⟩ := hB
  have hS : va_S (inW ad 21) s.heap s.heap [] := va_S.rf
  have hl : lv_has ls 8 [(0, .ref (ad 0)), (1, .long (lI (z_1)))] := hl
  obtain ⟨z1, hz1, ez1⟩ := iI_of (ar 6 0)
  obtain ⟨z2, hz2, ez2⟩ := YI_h2 hI 2 (by decide)
  obtain ⟨z3, hz3, ez3⟩ := YI_h5 hI 5 (by decide)
  have ht0 := YI_t0 hI ez1 (by omega) ez2 (by omega) ez3 (by omega) ew_1 (by omega)
  refine lv_aload_n hE.1 hE.2.1 dX9_draws_0 rfl (lv_at hl 0 rfl) ?_
  refine x_vv (nn := 0) (As := []) (rest := []) hE hK hN hP hS (s_X9_lays_e l D K ad v ar al hI (z3) (by omega) ez3 (w_1) (by omega) ew_1 ) (x_recv hK hP 0 (by decide) (yG_9 rfl) rfl) rfl mw_1638 mw_1640 mw_69 mw_123 mw_1641 (by decide +kernel) ⟨by decide, by decide⟩ hl.1 rfl (Nat.le_of_ble_eq_true rfl) ⟨Nat.zero_le _, Nat.zero_le _⟩ dX9_draws_1 (fun v4 ar4 al4 H locs hq4 hP hS => ?_)
  obtain ⟨hI, hq4, hqa4, hql4, hp4, x4_1, x4_2, x4_3, hx4, ex4_1, ex4_2, ex4_3⟩ := hq4
  have hI : YI v4 ar4 := hI
  have hp4 : LY (ar 10) (w_1) (z3) (v4 0 25).toInt (ar4 12) (ar4 14) := hp4
  have hly4 := LY_n hp4 ex4_2 (by omega)
  refine lv_aload_n hE.1 hE.2.1 dX9_draws_4 rfl (lv_at hl 0 rfl) ?_
  refine lv_aload_n hE.1 hE.2.1 dX9_draws_5 rfl (lv_at hl 0 rfl) ?_
  refine x_get (x := .int (v4 0 24)) hE hK hP 0 (by decide) (yG_9 rfl) rfl hin9 24 (by decide) mw_1358 rfl dX9_draws_6 ?_
  refine x_top (y := iI (x4_1)) ex4_1 ?_
  refine x_put (x := iI (x4_1)) hE hK hN hP hS 0 (by decide) (yG_9 rfl) rfl hin9 tyX9 tyX9_ok nmX9 49 (by decide) mw_1383 rfl rfl rfl (Nat.le_of_ble_eq_true rfl) (yG_9 rfl) dX9_draws_9 (fun v5 H locs hv5 hP hS => ?_)
  have hI := YI_putB (z := x4_1) hI hv5 0 18 (by omega) (by decide) (by omega)
  refine lv_lload_n hE.1 hE.2.1 dX9_draws_12 rfl (lv_at hl 1 rfl) ?_
  refine lv_lstore_n (lv' := [(3, .long (lI (z_1))), (0, .ref (ad 0)), (1, .long (lI (z_1)))]) hE.1 hE.2.1 dX9_draws_13 rfl hl (by decide) rfl (fun ls hl => ?_)
  refine lv_aload_n hE.1 hE.2.1 dX9_draws_14 rfl (lv_at hl 1 rfl) ?_
  have hplm6 := pc_le (x4_2)
  refine x_vp (nn := 0) (As := []) (rest := []) hE (s_X9_mayNow_e l D K ad v5 ar4 al4 hI (w_1) (by omega) ((congrFun (hqa4 7 (by decide)) 0).trans ew_1) (x4_2) (by omega) ((up_oth hv5 (by decide)).trans ex4_2) ) wPre_blind (wPre_now hK hN hP) (x_recv hK hP 0 (by decide) (yG_9 rfl) rfl) rfl mw_1750 mw_1752 mw_81 mw_123 mw_1753 (by decide +kernel) ⟨by decide, by decide⟩ hl.1 rfl (Nat.le_of_ble_eq_true rfl) ⟨Nat.zero_le _, Nat.zero_le _⟩ dX9_draws_15 (fun r7 hr7 => ?_)
  obtain ⟨z7, hz7, rfl⟩ := hr7
  refine lv_istore (lv' := [(5, .int (iI (z7))), (3, .long (lI (z_1))), (0, .ref (ad 0)), (1, .long (lI (z_1)))]) hE.1 hE.2.1 dX9_draws_18 hl (by decide) rfl (fun ls hl => ?_)
  have loop8 : ∀ (k8 : Nat) (y8_5 : Int) (y8_3 : Int) (yf8_0 : Int) (yf8_1 : Int) (yf8_2 : Int) (vl8 arl8 : sI) (all8 : sL) (H : Heap) (locs : List Loc) (ls : Array Slot), (9 - pc yf8_1).toNat = k8 → (0 ≤ y8_5 ∧ y8_5 ≤ 511) → (0 ≤ y8_3 ∧ y8_3 ≤ 2147483647) → (0 ≤ yf8_0 ∧ yf8_0 ≤ 27 ∧ 0 ≤ yf8_1 ∧ yf8_1 ≤ 511 ∧ -1 ≤ yf8_2 ∧ yf8_2 ≤ 8 ∧ (yf8_0 ≤ 18 + pc yf8_1)) → (vl8 0 24 = iI yf8_0) → (vl8 0 25 = iI yf8_1) → (vl8 0 26 = iI yf8_2) → (dj y8_5 yf8_1) → YI vl8 arl8 → (∀ i j : Nat, (i, j) ∉ ([(0, 24), (0, 25), (0, 26), (0, 27)] : List (Nat × Nat)) → vl8 i j = v5 i j) → (∀ i : Nat, i ∉ ([12, 13, 14] : List Nat) → arl8 i = ar4 i) → (∀ i : Nat, i ∉ ([] : List Nat) → all8 i = al4 i) → va_P D xcl (wW ad (yG ad K) 21 vl8 arl8 all8) H → va_S (inW ad 21) s.heap H locs → lv_has ls 8 [(5, .int (iI (y8_5))), (3, .long (lI (y8_3))), (0, .ref (ad 0)), (1, .long (lI (z_1)))] → W p l e (rmD 4) s m args below meth c H locs 0 0 Q (F0 m 20 ls []) := by
    intro k8
    induction k8 using Nat.strongRecOn with
    | _ k8 ih8 =>
      intro y8_5 y8_3 yf8_0 yf8_1 yf8_2 vl8 arl8 all8 H locs ls hk8 hb_y8_5 hb_y8_3 hyf8 eyf8_0 eyf8_1 eyf8_2 hb_xi8 hI hfr8 hfa8 hfl8 hP hS hl
      have hplb8 := pc_le (yf8_1)
      refine lv_iload hE.1 hE.2.1 dX9_draws_20 (lv_at hl 0 rfl) ?_
      refine s_if_eq (a := y8_5) (tgt := 113) hE.1 hE.2.1 (by omega) dX9_draws_22 (by decide) (fun c9 => ?_) (fun c9 => ?_)
      · skip
        exact kr vl8 arl8 all8 _ _ _ _ ⟨hI, fun i j h => ((hfr8 i j (fun q => h (mem_sub (by decide) q))).trans ((up_oth hv5 (fun q => h (by rcases q with ⟨rfl, rfl⟩; decide))).trans (hq4 i j (fun q => h (mem_sub (by decide) q))))), fun i h => ((hfa8 i (fun q => h (mem_subn (by decide) q))).trans (hqa4 i (fun q => h (mem_subn (by decide) q)))), fun i h => ((hfl8 i (fun q => h (mem_subn (by decide) q))).trans (hql4 i (fun q => h (mem_subn (by decide) q))))⟩ hP hS dX9_draws_113
      · skip
        refine lv_ldc2 (v := 1103515245) hE.1 hE.2.1 hE.2.2.2.1 (hE.2.2.2.2 _ mw_2051) dX9_draws_25 ?_
        refine x_topl (y := lI (1103515245)) (by decide) ?_
        refine lv_lload_n hE.1 hE.2.1 dX9_draws_28 rfl (lv_at hl 1 rfl) ?_
        refine lv_lmul hE.1 hE.2.1 dX9_draws_29 ?_
        refine x_topl (y := lI (1103515245 * y8_3)) ((lI_mul (1103515245) (y8_3)).trans (congrArg lI (by omega))) ?_
        refine lv_ldc2 (v := 12345) hE.1 hE.2.1 hE.2.2.2.1 (hE.2.2.2.2 _ mw_2052) dX9_draws_30 ?_
        refine x_topl (y := lI (12345)) (by decide) ?_
        refine lv_ladd hE.1 hE.2.1 dX9_draws_33 ?_
        refine x_topl (y := lI (1103515245 * y8_3 + 12345)) ((lI_add (1103515245 * y8_3) (12345)).trans (congrArg lI (by omega))) ?_
        refine lv_ldc2 (v := 2147483648) hE.1 hE.2.1 hE.2.2.2.1 (hE.2.2.2.2 _ mw_2053) dX9_draws_34 ?_
        refine x_topl (y := lI (2147483648)) (by decide) ?_
        refine lv_lrem hE.1 hE.2.1 dX9_draws_37 (lI_ne0 (by omega) (by omega)) ?_
        obtain ⟨z10, hz10, ez10⟩ := lI_rem (a := 1103515245 * y8_3 + 12345) (b := 2147483648) (by omega) (by omega)
        refine x_topl ez10 ?_
        refine lv_lstore_n (lv' := [(3, .long (lI (z10))), (5, .int (iI (y8_5))), (0, .ref (ad 0)), (1, .long (lI (z_1)))]) hE.1 hE.2.1 dX9_draws_38 rfl hl (by decide) rfl (fun ls hl => ?_)
        refine lv_lload_n hE.1 hE.2.1 dX9_draws_39 rfl (lv_at hl 0 rfl) ?_
        refine lv_ldc2 (v := 65536) hE.1 hE.2.1 hE.2.2.2.1 (hE.2.2.2.2 _ mw_2054) dX9_draws_40 ?_
        refine x_topl (y := lI (65536)) (by decide) ?_
        refine lv_ldiv hE.1 hE.2.1 dX9_draws_43 (lI_ne0 (by omega) (by omega)) ?_
        obtain ⟨z11, hz11, ez11⟩ := lI_div (a := z10) (b := 65536) (by omega) (by omega)
        refine x_topl ez11 ?_
        have hzd11 : z11 = (z10) / 65536 := hz11.2.2
        refine lv_iload hE.1 hE.2.1 dX9_draws_44 (lv_at hl 1 rfl) ?_
        have hpp12 := pc_pos (a := y8_5) (by omega)
        refine x_sp (nn := 1) (As := [.int (iI (y8_5))]) (rest := [.long (lI (z11))]) hE (s_X9_sizeOf_e l (y8_5) (by omega)) tt_blind (fun _ _ _ => trivial) rfl mw_2014 mw_2015 mw_123 mw_2016 (by decide +kernel) ⟨by decide, by decide⟩ hl.1 rfl (Nat.le_of_ble_eq_true rfl) ⟨Nat.zero_le _, Nat.zero_le _⟩ dX9_draws_46 (fun r13 hr13 => ?_)
        obtain ⟨z13, hz13, rfl⟩ := hr13
        refine lv_i2l (v := lI (z13)) hE.1 hE.2.1 dX9_draws_49 (iI_i2l (by omega)) ?_
        refine lv_lrem hE.1 hE.2.1 dX9_draws_50 (lI_ne0 (by omega) (by omega)) ?_
        obtain ⟨z14, hz14, ez14⟩ := lI_rem (a := z11) (b := z13) (by omega) (by omega)
        refine x_topl ez14 ?_
        refine lv_l2i (v := iI (z14)) hE.1 hE.2.1 dX9_draws_51 (lI_l2i _) ?_
        refine lv_istore (lv' := [(6, .int (iI (z14))), (3, .long (lI (z10))), (5, .int (iI (y8_5))), (0, .ref (ad 0)), (1, .long (lI (z_1)))]) hE.1 hE.2.1 dX9_draws_52 hl (by decide) rfl (fun ls hl => ?_)
        refine lv_iconst (v := iI (0)) hE.1 hE.2.1 dX9_draws_54 (by decide) ?_
        refine lv_istore (lv' := [(7, .int (iI (0))), (6, .int (iI (z14))), (3, .long (lI (z10))), (5, .int (iI (y8_5))), (0, .ref (ad 0)), (1, .long (lI (z_1)))]) hE.1 hE.2.1 dX9_draws_55 hl (by decide) rfl (fun ls hl => ?_)
        have loop15 : ∀ (k15 : Nat) (y15_7 : Int) (y15_6 : Int) (vl15 : sI) (all15 : sL) (H : Heap) (locs : List Loc) (ls : Array Slot), (9 - y15_7).toNat = k15 → (0 ≤ y15_7 ∧ y15_7 ≤ 8) → (0 ≤ y15_6 ∧ y15_6 ≤ 8) → (y15_6 < hc (y8_5) (y15_7)) → YI vl15 arl8 → (∀ i j : Nat, (i, j) ∉ ([] : List (Nat × Nat)) → vl15 i j = vl8 i j) → (∀ i : Nat, i ∉ ([] : List Nat) → all15 i = all8 i) → va_P D xcl (wW ad (yG ad K) 21 vl15 arl8 all15) H → va_S (inW ad 21) s.heap H locs → lv_has ls 8 [(7, .int (iI (y15_7))), (6, .int (iI (y15_6))), (3, .long (lI (z10))), (5, .int (iI (y8_5))), (0, .ref (ad 0)), (1, .long (lI (z_1)))] → W p l e (rmD 4) s m args below meth c H locs 0 0 Q (F0 m 57 ls []) := by
          intro k15
          induction k15 using Nat.strongRecOn with
          | _ k15 ih15 =>
            intro y15_7 y15_6  vl15 all15 H locs ls hk15 hb_y15_7 hb_y15_6 hb_xi15 hI hfr15 hfl15 hP hS hl
            have hst15 := hc_step (a := y8_5) (m := y15_7) (by omega) (by omega)
            refine lv_iload hE.1 hE.2.1 dX9_draws_57 (lv_at hl 1 rfl) ?_
            refine s_if_gt (a := y15_6) (tgt := 72) hE.1 hE.2.1 (by omega) dX9_draws_59 (by decide) (fun c16 => ?_) (fun c16 => ?_)
            · skip
              refine lv_iload hE.1 hE.2.1 dX9_draws_72 (lv_at hl 1 rfl) ?_
              refine lv_iload hE.1 hE.2.1 dX9_draws_74 (lv_at hl 3 rfl) ?_
              refine lv_iload hE.1 hE.2.1 dX9_draws_76 (lv_at hl 0 rfl) ?_
              refine x_sp (nn := 2) (As := [.int (iI (y8_5)), .int (iI (y15_7))]) (rest := [.int (iI (y15_6))]) hE (s_X9_isBit_e l (y8_5) (by omega) (y15_7) (by omega)) tt_blind (fun _ _ _ => trivial) rfl mw_1683 mw_1684 mw_123 mw_1685 (by decide +kernel) ⟨by decide, by decide⟩ hl.1 rfl (Nat.le_of_ble_eq_true rfl) ⟨Nat.zero_le _, Nat.zero_le _⟩ dX9_draws_78 (fun r17 hr17 => ?_)
              obtain ⟨z17, hz17, rfl⟩ := hr17
              refine s_if_eq (a := z17) (tgt := 88) hE.1 hE.2.1 (by omega) dX9_draws_81 (by decide) (fun c18 => ?_) (fun c18 => ?_)
              · skip
                refine lv_iconst (v := iI (0)) hE.1 hE.2.1 dX9_draws_88 (by decide) ?_
                refine lv_isub hE.1 hE.2.1 dX9_draws_89 ?_
                refine x_top (y := iI (y15_6)) ((iI_sub (y15_6) (0)).trans (congrArg iI (by omega))) ?_
                refine lv_istore (lv' := [(6, .int (iI (y15_6))), (7, .int (iI (y15_7))), (3, .long (lI (z10))), (5, .int (iI (y8_5))), (0, .ref (ad 0)), (1, .long (lI (z_1)))]) hE.1 hE.2.1 dX9_draws_90 hl (by decide) rfl (fun ls hl => ?_)
                refine lv_iinc (v := iI (y15_7 + 1)) (lv' := [(7, .int (iI (y15_7 + 1))), (6, .int (iI (y15_6))), (3, .long (lI (z10))), (5, .int (iI (y8_5))), (0, .ref (ad 0)), (1, .long (lI (z_1)))]) hE.1 hE.2.1 dX9_draws_92 hl (k := 1) rfl ((iI_add (y15_7) (1)).trans (congrArg iI (by omega))) (by decide) rfl (fun ls hl => ?_)
                refine lv_goto (tgt := 57) hE.1 hE.2.1 dX9_draws_95 (by decide) ?_
                exact ih15 _ (by omega) (y15_7 + 1) (y15_6)  vl15  all15 _ _ _ rfl (by omega) (by omega)  (by omega)  hI (fun i j h => (hfr15 i j h)) (fun i h => (hfl15 i h)) hP hS (lv_sub hl [0, 1, 2, 3, 4, 5] rfl)
              · skip
                refine lv_iconst (v := iI (1)) hE.1 hE.2.1 dX9_draws_84 (by decide) ?_
                refine lv_goto (tgt := 89) hE.1 hE.2.1 dX9_draws_85 (by decide) ?_
                refine lv_isub hE.1 hE.2.1 dX9_draws_89 ?_
                refine x_top (y := iI (y15_6 - 1)) ((iI_sub (y15_6) (1)).trans (congrArg iI (by omega))) ?_
                refine lv_istore (lv' := [(6, .int (iI (y15_6 - 1))), (7, .int (iI (y15_7))), (3, .long (lI (z10))), (5, .int (iI (y8_5))), (0, .ref (ad 0)), (1, .long (lI (z_1)))]) hE.1 hE.2.1 dX9_draws_90 hl (by decide) rfl (fun ls hl => ?_)
                refine lv_iinc (v := iI (y15_7 + 1)) (lv' := [(7, .int (iI (y15_7 + 1))), (6, .int (iI (y15_6 - 1))), (3, .long (lI (z10))), (5, .int (iI (y8_5))), (0, .ref (ad 0)), (1, .long (lI (z_1)))]) hE.1 hE.2.1 dX9_draws_92 hl (k := 1) rfl ((iI_add (y15_7) (1)).trans (congrArg iI (by omega))) (by decide) rfl (fun ls hl => ?_)
                refine lv_goto (tgt := 57) hE.1 hE.2.1 dX9_draws_95 (by decide) ?_
                exact ih15 _ (by omega) (y15_7 + 1) (y15_6 - 1)  vl15  all15 _ _ _ rfl (by omega) (by omega)  (by omega)  hI (fun i j h => (hfr15 i j h)) (fun i h => (hfl15 i h)) hP hS (lv_sub hl [0, 1, 2, 3, 4, 5] rfl)
            · skip
              refine lv_iload hE.1 hE.2.1 dX9_draws_62 (lv_at hl 3 rfl) ?_
              refine lv_iload hE.1 hE.2.1 dX9_draws_64 (lv_at hl 0 rfl) ?_
              refine x_sp (nn := 2) (As := [.int (iI (y8_5)), .int (iI (y15_7))]) (rest := []) hE (s_X9_isBit_e l (y8_5) (by omega) (y15_7) (by omega)) tt_blind (fun _ _ _ => trivial) rfl mw_1683 mw_1684 mw_123 mw_1685 (by decide +kernel) ⟨by decide, by decide⟩ hl.1 rfl (Nat.le_of_ble_eq_true rfl) ⟨Nat.zero_le _, Nat.zero_le _⟩ dX9_draws_66 (fun r19 hr19 => ?_)
              obtain ⟨z19, hz19, rfl⟩ := hr19
              refine s_if_ne (a := z19) (tgt := 98) hE.1 hE.2.1 (by omega) dX9_draws_69 (by decide) (fun c20 => ?_) (fun c20 => ?_)
              · skip
                refine lv_aload_n hE.1 hE.2.1 dX9_draws_98 rfl (lv_at hl 4 rfl) ?_
                refine lv_iload hE.1 hE.2.1 dX9_draws_99 (lv_at hl 0 rfl) ?_
                have hb021 := dj_get (a := y8_5) (b := yf8_1) (m := y15_7) hb_xi8 (by omega) (by omega) (by omega) (by omega)
                have hpc21 := sb_new (a := yf8_1) (m := y15_7) (by omega) (by omega) hb021
                refine x_vv (nn := 1) (As := [.int (iI (y15_7))]) (rest := []) hE hK hN hP hS (s_X9_puts_e l D K ad vl15 arl8 all15 hI (yf8_0) (by omega) ((hfr15 0 24 (by decide)).trans eyf8_0) (yf8_1) (by omega) ((hfr15 0 25 (by decide)).trans eyf8_1) (yf8_2) (by omega) ((hfr15 0 26 (by decide)).trans eyf8_2) (w_1) (by omega) ((congrFun (hfa8 7 (by decide)) 0).trans ((congrFun (hqa4 7 (by decide)) 0).trans ew_1)) (y15_7) (by omega)) (x_recv hK hP 0 (by decide) (yG_9 rfl) rfl) rfl mw_1646 mw_1648 mw_71 mw_123 mw_1649 (by decide +kernel) ⟨by decide, by decide⟩ hl.1 rfl (Nat.le_of_ble_eq_true rfl) ⟨Nat.zero_le _, Nat.zero_le _⟩ dX9_draws_101 (fun v22 ar22 al22 H locs hq22 hP hS => ?_)
                obtain ⟨hI, hq22, hqa22, hql22, hp22, x22_1, x22_2, x22_3, hx22, ex22_1, ex22_2, ex22_3⟩ := hq22
                have hI : YI v22 ar22 := hI
                have hp22 : PX (w_1) (yf8_0) (y15_7) (arl8 12) (arl8 14) (ar22 12) (ar22 14) := hp22
                have hxs22 : x22_2 = sb (yf8_1) (y15_7) := by omega
                have hpx22 : pc (x22_2) = pc (sb (yf8_1) (y15_7)) := by rw [hxs22]
                have hcx22 : cb (x22_2) (y15_7) = cb (sb (yf8_1) (y15_7)) (y15_7) := by rw [hxs22]
                refine lv_aload_n hE.1 hE.2.1 dX9_draws_104 rfl (lv_at hl 4 rfl) ?_
                have hplm23 := pc_le (x22_2)
                refine x_vp (nn := 0) (As := []) (rest := []) hE (s_X9_mayNow_e l D K ad v22 ar22 al22 hI (w_1) (by omega) ((congrFun (hqa22 7 (by decide)) 0).trans ((congrFun (hfa8 7 (by decide)) 0).trans ((congrFun (hqa4 7 (by decide)) 0).trans ew_1))) (x22_2) (by omega) ex22_2 ) wPre_blind (wPre_now hK hN hP) (x_recv hK hP 0 (by decide) (yG_9 rfl) rfl) rfl mw_1750 mw_1752 mw_81 mw_123 mw_1753 (by decide +kernel) ⟨by decide, by decide⟩ hl.1 rfl (Nat.le_of_ble_eq_true rfl) ⟨Nat.zero_le _, Nat.zero_le _⟩ dX9_draws_105 (fun r24 hr24 => ?_)
                obtain ⟨z24, hz24, rfl⟩ := hr24
                refine lv_istore (lv' := [(5, .int (iI (z24))), (7, .int (iI (y15_7))), (6, .int (iI (y15_6))), (3, .long (lI (z10))), (0, .ref (ad 0)), (1, .long (lI (z_1)))]) hE.1 hE.2.1 dX9_draws_108 hl (by decide) rfl (fun ls hl => ?_)
                refine lv_goto (tgt := 20) hE.1 hE.2.1 dX9_draws_110 (by decide) ?_
                exact ih8 _ (by omega) (z24) (z10) (x22_1) (x22_2) (x22_3) v22 ar22 al22 _ _ _ rfl (by omega) (by omega) (by omega) ex22_1 ex22_2 ex22_3 (hz24.2)  hI (fun i j h => (((hq22 i j (fun q => h (mem_sub (by decide) q))).trans (hfr15 i j (fun q => h (mem_sub (by decide) q)))).trans (hfr8 i j h))) (fun i h => ((hqa22 i (fun q => h (mem_subn (by decide) q))).trans (hfa8 i h))) (fun i h => (((hql22 i (fun q => h (mem_subn (by decide) q))).trans (hfl15 i (fun q => h (mem_subn (by decide) q)))).trans (hfl8 i h))) hP hS (lv_sub hl [0, 3, 4, 5] rfl)
              · skip
                refine lv_iload hE.1 hE.2.1 dX9_draws_72 (lv_at hl 1 rfl) ?_
                refine lv_iload hE.1 hE.2.1 dX9_draws_74 (lv_at hl 3 rfl) ?_
                refine lv_iload hE.1 hE.2.1 dX9_draws_76 (lv_at hl 0 rfl) ?_
                refine x_sp (nn := 2) (As := [.int (iI (y8_5)), .int (iI (y15_7))]) (rest := [.int (iI (y15_6))]) hE (s_X9_isBit_e l (y8_5) (by omega) (y15_7) (by omega)) tt_blind (fun _ _ _ => trivial) rfl mw_1683 mw_1684 mw_123 mw_1685 (by decide +kernel) ⟨by decide, by decide⟩ hl.1 rfl (Nat.le_of_ble_eq_true rfl) ⟨Nat.zero_le _, Nat.zero_le _⟩ dX9_draws_78 (fun r25 hr25 => ?_)
                obtain ⟨z25, hz25, rfl⟩ := hr25
                refine s_if_eq (a := z25) (tgt := 88) hE.1 hE.2.1 (by omega) dX9_draws_81 (by decide) (fun c26 => ?_) (fun c26 => ?_)
                · skip
                  refine lv_iconst (v := iI (0)) hE.1 hE.2.1 dX9_draws_88 (by decide) ?_
                  refine lv_isub hE.1 hE.2.1 dX9_draws_89 ?_
                  refine x_top (y := iI (y15_6)) ((iI_sub (y15_6) (0)).trans (congrArg iI (by omega))) ?_
                  refine lv_istore (lv' := [(6, .int (iI (y15_6))), (7, .int (iI (y15_7))), (3, .long (lI (z10))), (5, .int (iI (y8_5))), (0, .ref (ad 0)), (1, .long (lI (z_1)))]) hE.1 hE.2.1 dX9_draws_90 hl (by decide) rfl (fun ls hl => ?_)
                  refine lv_iinc (v := iI (y15_7 + 1)) (lv' := [(7, .int (iI (y15_7 + 1))), (6, .int (iI (y15_6))), (3, .long (lI (z10))), (5, .int (iI (y8_5))), (0, .ref (ad 0)), (1, .long (lI (z_1)))]) hE.1 hE.2.1 dX9_draws_92 hl (k := 1) rfl ((iI_add (y15_7) (1)).trans (congrArg iI (by omega))) (by decide) rfl (fun ls hl => ?_)
                  refine lv_goto (tgt := 57) hE.1 hE.2.1 dX9_draws_95 (by decide) ?_
                  exact ih15 _ (by omega) (y15_7 + 1) (y15_6)  vl15  all15 _ _ _ rfl (by omega) (by omega)  (by omega)  hI (fun i j h => (hfr15 i j h)) (fun i h => (hfl15 i h)) hP hS (lv_sub hl [0, 1, 2, 3, 4, 5] rfl)
                · skip
                  refine lv_iconst (v := iI (1)) hE.1 hE.2.1 dX9_draws_84 (by decide) ?_
                  refine lv_goto (tgt := 89) hE.1 hE.2.1 dX9_draws_85 (by decide) ?_
                  refine lv_isub hE.1 hE.2.1 dX9_draws_89 ?_
                  refine x_top (y := iI (y15_6 - 1)) ((iI_sub (y15_6) (1)).trans (congrArg iI (by omega))) ?_
                  refine lv_istore (lv' := [(6, .int (iI (y15_6 - 1))), (7, .int (iI (y15_7))), (3, .long (lI (z10))), (5, .int (iI (y8_5))), (0, .ref (ad 0)), (1, .long (lI (z_1)))]) hE.1 hE.2.1 dX9_draws_90 hl (by decide) rfl (fun ls hl => ?_)
                  refine lv_iinc (v := iI (y15_7 + 1)) (lv' := [(7, .int (iI (y15_7 + 1))), (6, .int (iI (y15_6 - 1))), (3, .long (lI (z10))), (5, .int (iI (y8_5))), (0, .ref (ad 0)), (1, .long (lI (z_1)))]) hE.1 hE.2.1 dX9_draws_92 hl (k := 1) rfl ((iI_add (y15_7) (1)).trans (congrArg iI (by omega))) (by decide) rfl (fun ls hl => ?_)
                  refine lv_goto (tgt := 57) hE.1 hE.2.1 dX9_draws_95 (by decide) ?_
                  exact ih15 _ (by omega) (y15_7 + 1) (y15_6 - 1)  vl15  all15 _ _ _ rfl (by omega) (by omega)  (by omega)  hI (fun i j h => (hfr15 i j h)) (fun i h => (hfl15 i h)) hP hS (lv_sub hl [0, 1, 2, 3, 4, 5] rfl)
        exact loop15 _ (0) (z14)  vl8  all8 _ _ _ rfl (by omega) (by omega)  (by have h0 := hc_0 (y8_5); omega) hI (fun _ _ _ => rfl) (fun _ _ => rfl) hP hS hl
  exact loop8 _ (z7) (z_1) (x4_1) (x4_2) (x4_3) v5 ar4 al4 _ _ _ rfl (by omega) (by omega) (by omega) ((up_oth hv5 (by decide)).trans ex4_1) ((up_oth hv5 (by decide)).trans ex4_2) ((up_oth hv5 (by decide)).trans ex4_3) (hz7.2) hI (fun _ _ _ => rfl) (fun _ _ => rfl) (fun _ _ => rfl) hP hS hl

theorem dX9_drawn_0 : decode cX9_drawn 0 = .ok (.aload_n 0, 1) := by decide +kernel
theorem dX9_drawn_1 : decode cX9_drawn 1 = .ok (.iconst 0, 1) := by decide +kernel
theorem dX9_drawn_2 : decode cX9_drawn 2 = .ok (.putfield 81, 3) := by decide +kernel
theorem dX9_drawn_5 : decode cX9_drawn 5 = .ok (.aload_n 0, 1) := by decide +kernel
theorem dX9_drawn_6 : decode cX9_drawn 6 = .ok (.iload_n 1, 1) := by decide +kernel
theorem dX9_drawn_7 : decode cX9_drawn 7 = .ok (.invokevirtual 458, 3) := by decide +kernel
theorem dX9_drawn_10 : decode cX9_drawn 10 = .ok (.ifCond .eq 15, 3) := by decide +kernel
theorem dX9_drawn_13 : decode cX9_drawn 13 = .ok (.iload_n 2, 1) := by decide +kernel
theorem dX9_drawn_14 : decode cX9_drawn 14 = .ok (.i2l, 1) := by decide +kernel
theorem dX9_drawn_15 : decode cX9_drawn 15 = .ok (.lconst 0, 1) := by decide +kernel
theorem dX9_drawn_16 : decode cX9_drawn 16 = .ok (.ldc2_w 461, 3) := by decide +kernel
theorem dX9_drawn_19 : decode cX9_drawn 19 = .ok (.invokestatic 86, 3) := by decide +kernel
theorem dX9_drawn_22 : decode cX9_drawn 22 = .ok (.ifCond .ne 6, 3) := by decide +kernel
theorem dX9_drawn_25 : decode cX9_drawn 25 = .ok (.bipush (-2), 2) := by decide +kernel
theorem dX9_drawn_27 : decode cX9_drawn 27 = .ok (.ireturn, 1) := by decide +kernel
theorem dX9_drawn_28 : decode cX9_drawn 28 = .ok (.aload_n 0, 1) := by decide +kernel
theorem dX9_drawn_29 : decode cX9_drawn 29 = .ok (.iload_n 1, 1) := by decide +kernel
theorem dX9_drawn_30 : decode cX9_drawn 30 = .ok (.i2l, 1) := by decide +kernel
theorem dX9_drawn_31 : decode cX9_drawn 31 = .ok (.invokevirtual 463, 3) := by decide +kernel
theorem dX9_drawn_34 : decode cX9_drawn 34 = .ok (.iload_n 2, 1) := by decide +kernel
theorem dX9_drawn_35 : decode cX9_drawn 35 = .ok (.ifCond .ne 15, 3) := by decide +kernel
theorem dX9_drawn_38 : decode cX9_drawn 38 = .ok (.aload_n 0, 1) := by decide +kernel
theorem dX9_drawn_39 : decode cX9_drawn 39 = .ok (.getfield 265, 3) := by decide +kernel
theorem dX9_drawn_42 : decode cX9_drawn 42 = .ok (.aload_n 0, 1) := by decide +kernel
theorem dX9_drawn_43 : decode cX9_drawn 43 = .ok (.getfield 445, 3) := by decide +kernel
theorem dX9_drawn_46 : decode cX9_drawn 46 = .ok (.isub, 1) := by decide +kernel
theorem dX9_drawn_47 : decode cX9_drawn 47 = .ok (.goto 27, 3) := by decide +kernel
theorem dX9_drawn_50 : decode cX9_drawn 50 = .ok (.iload_n 2, 1) := by decide +kernel
theorem dX9_drawn_51 : decode cX9_drawn 51 = .ok (.iconst 1, 1) := by decide +kernel
theorem dX9_drawn_52 : decode cX9_drawn 52 = .ok (.if_icmp .ne 10, 3) := by decide +kernel
theorem dX9_drawn_55 : decode cX9_drawn 55 = .ok (.aload_n 0, 1) := by decide +kernel
theorem dX9_drawn_56 : decode cX9_drawn 56 = .ok (.getfield 271, 3) := by decide +kernel
theorem dX9_drawn_59 : decode cX9_drawn 59 = .ok (.goto 15, 3) := by decide +kernel
theorem dX9_drawn_62 : decode cX9_drawn 62 = .ok (.aload_n 0, 1) := by decide +kernel
theorem dX9_drawn_63 : decode cX9_drawn 63 = .ok (.invokevirtual 310, 3) := by decide +kernel
theorem dX9_drawn_66 : decode cX9_drawn 66 = .ok (.ifCond .eq 7, 3) := by decide +kernel
theorem dX9_drawn_69 : decode cX9_drawn 69 = .ok (.iconst 1, 1) := by decide +kernel
theorem dX9_drawn_70 : decode cX9_drawn 70 = .ok (.goto 4, 3) := by decide +kernel
theorem dX9_drawn_73 : decode cX9_drawn 73 = .ok (.iconst 0, 1) := by decide +kernel
theorem dX9_drawn_74 : decode cX9_drawn 74 = .ok (.ireturn, 1) := by decide +kernel
set_option maxHeartbeats 4000000 in
set_option maxRecDepth 100000 in
theorem s_X9_drawn (l : Launch) (D : va_G) (K : Nat → ClassId) (ad : Nat → Nat) (v ar : sI) (al : sL) (hI : YI v ar) (z_1 : Int) (hz_1 : -2147483648 ≤ z_1 ∧ z_1 ≤ 2147483647) (z_2 : Int) (hz_2 : -2147483648 ≤ z_2 ∧ z_2 ≤ 2147483647) : Met l yX9_drawn (wM yX9_drawn cX9_drawn 3 (some .int)) (rmD 5) (va_Pc [.ref (ad 0), .int (iI (z_1)), .int (iI (z_2))] (wPre D K ad (yG ad K) 21 v ar al)) (va_Qi (fun (r : Int32) (u : sT) => (∃ z : Int, (-2147483648 ≤ z ∧ z ≤ 2147483647) ∧ r = iI z) ∧ YI u.1 u.2.1 ∧ (∀ i j : Nat, (i, j) ∉ ([(0, 0), (0, 24), (0, 25), (0, 26), (0, 27), (0, 49)] : List (Nat × Nat)) → u.1 i j = v i j) ∧ (∀ i : Nat, i ∉ ([12, 13, 14] : List Nat) → u.2.1 i = ar i) ∧ (∀ i : Nat, i ∉ ([] : List Nat) → u.2.2 i = al i)) (wB D ad (yG ad K) 21) (inW ad 21)) 0 0 (inW ad 21) := by
  refine s_metI (by decide) (Nat.le_of_ble_eq_true rfl) ?_
  intro p e s m below meth c ls args Q hE hB hl kr
  have hE : CallFix p m c cX9_drawn 3 s args tbG "TaleCourtModel" := hE
  obtain ⟨hP, hK, hN⟩ := hB
  have hS : va_S (inW ad 21) s.heap s.heap [] := va_S.rf
  have hl : lv_has ls 3 [(0, .ref (ad 0)), (1, .int (iI (z_1))), (2, .int (iI (z_2)))] := hl
  obtain ⟨z1, hz1, ez1⟩ := iI_of (ar 6 0)
  obtain ⟨z2, hz2, ez2⟩ := YI_h2 hI 2 (by decide)
  obtain ⟨z3, hz3, ez3⟩ := YI_h5 hI 5 (by decide)
  obtain ⟨z4, hz4, ez4⟩ := YI_h0 hI 0 (by decide)
  have ht0 := YI_t0 hI ez1 (by omega) ez2 (by omega) ez3 (by omega) ez4 (by omega)
  refine lv_aload_n hE.1 hE.2.1 dX9_drawn_0 rfl (lv_at hl 0 rfl) ?_
  refine lv_iconst (v := iI (0)) hE.1 hE.2.1 dX9_drawn_1 (by decide) ?_
  refine x_put (x := iI (0)) hE hK hN hP hS 0 (by decide) (yG_9 rfl) rfl hin9 tyX9 tyX9_ok nmX9 0 (by decide) mw_1334 rfl rfl rfl (Nat.le_of_ble_eq_true rfl) (yG_9 rfl) dX9_drawn_2 (fun v5 H locs hv5 hP hS => ?_)
  have hI := YI_putN hI hv5 (by decide)
  refine lv_aload_n hE.1 hE.2.1 dX9_drawn_5 rfl (lv_at hl 0 rfl) ?_
  refine lv_iload_n hE.1 hE.2.1 dX9_drawn_6 rfl (lv_at hl 1 rfl) ?_
  refine x_vp (nn := 1) (As := [.int (iI (z_1))]) (rest := []) hE (s_X9_isSeed l D K ad v5 ar al hI (z1) (by omega) ez1 (z_1) (by omega)) wPre_blind (wPre_now hK hN hP) (x_recv hK hP 0 (by decide) (yG_9 rfl) rfl) rfl mw_2041 mw_2043 mw_111 mw_123 mw_2044 (by decide +kernel) ⟨by decide, by decide⟩ hl.1 rfl (Nat.le_of_ble_eq_true rfl) ⟨Nat.zero_le _, Nat.zero_le _⟩ dX9_drawn_7 (fun r6 hr6 => ?_)
  obtain ⟨z6, hz6, rfl⟩ := hr6
  refine s_if_eq (a := z6) (tgt := 25) hE.1 hE.2.1 (by omega) dX9_drawn_10 (by decide) (fun c7 => ?_) (fun c7 => ?_)
  · skip
    refine lv_bipush (v := iI (-2)) hE.1 hE.2.1 dX9_drawn_25 (by decide) ?_
    exact kr _ v5 ar al _ _ _ _ rfl ⟨⟨-2, by omega, rfl⟩, hI, fun i j h => (up_oth hv5 (fun q => h (by rcases q with ⟨rfl, rfl⟩; decide))), fun i h => rfl, fun i h => rfl⟩ hP hS dX9_drawn_27
  · skip
    refine lv_iload_n hE.1 hE.2.1 dX9_drawn_13 rfl (lv_at hl 2 rfl) ?_
    refine lv_i2l (v := lI (z_2)) hE.1 hE.2.1 dX9_drawn_14 (iI_i2l (by omega)) ?_
    refine lv_lconst (v := lI (0)) hE.1 hE.2.1 dX9_drawn_15 (by decide) ?_
    refine lv_ldc2 (v := 2) hE.1 hE.2.1 hE.2.2.2.1 (hE.2.2.2.2 _ mw_2046) dX9_drawn_16 ?_
    refine x_topl (y := lI (2)) (by decide) ?_
    refine x_sp (nn := 3) (As := [.long (lI (z_2)), .long (lI (0)), .long (lI (2))]) (rest := []) hE (s_X9_in l (z_2) (by omega) (0) (by omega) (2) (by omega)) tt_blind (fun _ _ _ => trivial) rfl mw_1494 mw_1495 mw_123 mw_1496 (by decide +kernel) ⟨by decide, by decide⟩ hl.1 rfl (Nat.le_of_ble_eq_true rfl) ⟨Nat.zero_le _, Nat.zero_le _⟩ dX9_drawn_19 (fun r8 hr8 => ?_)
    obtain ⟨z8, hz8, rfl⟩ := hr8
    refine s_if_ne (a := z8) (tgt := 28) hE.1 hE.2.1 (by omega) dX9_drawn_22 (by decide) (fun c9 => ?_) (fun c9 => ?_)
    · skip
      refine lv_aload_n hE.1 hE.2.1 dX9_drawn_28 rfl (lv_at hl 0 rfl) ?_
      refine lv_iload_n hE.1 hE.2.1 dX9_drawn_29 rfl (lv_at hl 1 rfl) ?_
      refine lv_i2l (v := lI (z_1)) hE.1 hE.2.1 dX9_drawn_30 (iI_i2l (by omega)) ?_
      refine x_vv (nn := 1) (As := [.long (lI (z_1))]) (rest := []) hE hK hN hP hS (s_X9_draws_e l D K ad v5 ar al hI (z4) (by omega) ez4 (z_1) (by omega)) (x_recv hK hP 0 (by decide) (yG_9 rfl) rfl) rfl mw_2047 mw_2049 mw_112 mw_123 mw_2050 (by decide +kernel) ⟨by decide, by decide⟩ hl.1 rfl (Nat.le_of_ble_eq_true rfl) ⟨Nat.zero_le _, Nat.zero_le _⟩ dX9_drawn_31 (fun v10 ar10 al10 H locs hq10 hP hS => ?_)
      obtain ⟨hI, hq10, hqa10, hql10⟩ := hq10
      have hI : YI v10 ar10 := hI
      refine lv_iload_n hE.1 hE.2.1 dX9_drawn_34 rfl (lv_at hl 2 rfl) ?_
      refine s_if_ne (a := z_2) (tgt := 50) hE.1 hE.2.1 (by omega) dX9_drawn_35 (by decide) (fun c11 => ?_) (fun c11 => ?_)
      · skip
        refine lv_iload_n hE.1 hE.2.1 dX9_drawn_50 rfl (lv_at hl 2 rfl) ?_
        refine lv_iconst (v := iI (1)) hE.1 hE.2.1 dX9_drawn_51 (by decide) ?_
        refine s_icmp_ne (a := z_2) (b := 1) (tgt := 62) hE.1 hE.2.1 (by omega) (by omega) dX9_drawn_52 (by decide) (fun c12 => ?_) (fun c12 => ?_)
        · skip
          refine lv_aload_n hE.1 hE.2.1 dX9_drawn_62 rfl (lv_at hl 0 rfl) ?_
          obtain ⟨z13, hz13, ez13⟩ := YI_get hI 0 25 0 511 (by decide)
          refine x_vp (nn := 0) (As := []) (rest := []) hE (s_X9_isWhole_e l D K ad v10 ar10 al10 hI (z13) (by omega) ez13 ) wPre_blind (wPre_now hK hN hP) (x_recv hK hP 0 (by decide) (yG_9 rfl) rfl) rfl mw_1774 mw_1776 mw_83 mw_123 mw_1777 (by decide +kernel) ⟨by decide, by decide⟩ hl.1 rfl (Nat.le_of_ble_eq_true rfl) ⟨Nat.zero_le _, Nat.zero_le _⟩ dX9_drawn_63 (fun r14 hr14 => ?_)
          obtain ⟨z14, hz14, rfl⟩ := hr14
          refine s_if_eq (a := z14) (tgt := 73) hE.1 hE.2.1 (by omega) dX9_drawn_66 (by decide) (fun c15 => ?_) (fun c15 => ?_)
          · skip
            refine lv_iconst (v := iI (0)) hE.1 hE.2.1 dX9_drawn_73 (by decide) ?_
            exact kr _ v10 ar10 al10 _ _ _ _ rfl ⟨⟨0, by omega, rfl⟩, hI, fun i j h => ((hq10 i j (fun q => h (mem_sub (by decide) q))).trans (up_oth hv5 (fun q => h (by rcases q with ⟨rfl, rfl⟩; decide)))), fun i h => (hqa10 i (fun q => h (mem_subn (by decide) q))), fun i h => (hql10 i (fun q => h (mem_subn (by decide) q)))⟩ hP hS dX9_drawn_74
          · skip
            refine lv_iconst (v := iI (1)) hE.1 hE.2.1 dX9_drawn_69 (by decide) ?_
            refine lv_goto (tgt := 74) hE.1 hE.2.1 dX9_drawn_70 (by decide) ?_
            exact kr _ v10 ar10 al10 _ _ _ _ rfl ⟨⟨1, by omega, rfl⟩, hI, fun i j h => ((hq10 i j (fun q => h (mem_sub (by decide) q))).trans (up_oth hv5 (fun q => h (by rcases q with ⟨rfl, rfl⟩; decide)))), fun i h => (hqa10 i (fun q => h (mem_subn (by decide) q))), fun i h => (hql10 i (fun q => h (mem_subn (by decide) q)))⟩ hP hS dX9_drawn_74
        · skip
          refine lv_aload_n hE.1 hE.2.1 dX9_drawn_55 rfl (lv_at hl 0 rfl) ?_
          obtain ⟨z16, hz16, ez16⟩ := iI_of (v10 0 27)
          refine x_get (x := .int (v10 0 27)) hE hK hP 0 (by decide) (yG_9 rfl) rfl hin9 27 (by decide) mw_1361 rfl dX9_drawn_56 ?_
          refine x_top (y := iI (z16)) ez16 ?_
          refine lv_goto (tgt := 74) hE.1 hE.2.1 dX9_drawn_59 (by decide) ?_
          exact kr _ v10 ar10 al10 _ _ _ _ rfl ⟨⟨z16, by omega, rfl⟩, hI, fun i j h => ((hq10 i j (fun q => h (mem_sub (by decide) q))).trans (up_oth hv5 (fun q => h (by rcases q with ⟨rfl, rfl⟩; decide)))), fun i h => (hqa10 i (fun q => h (mem_subn (by decide) q))), fun i h => (hql10 i (fun q => h (mem_subn (by decide) q)))⟩ hP hS dX9_drawn_74
      · skip
        refine lv_aload_n hE.1 hE.2.1 dX9_drawn_38 rfl (lv_at hl 0 rfl) ?_
        obtain ⟨z17, hz17, ez17⟩ := YI_get hI 0 24 0 60 (by decide)
        refine x_get (x := .int (v10 0 24)) hE hK hP 0 (by decide) (yG_9 rfl) rfl hin9 24 (by decide) mw_1358 rfl dX9_drawn_39 ?_
        refine x_top (y := iI (z17)) ez17 ?_
        refine lv_aload_n hE.1 hE.2.1 dX9_drawn_42 rfl (lv_at hl 0 rfl) ?_
        obtain ⟨z18, hz18, ez18⟩ := YI_get hI 0 49 0 18 (by decide)
        refine x_get (x := .int (v10 0 49)) hE hK hP 0 (by decide) (yG_9 rfl) rfl hin9 49 (by decide) mw_1383 rfl dX9_drawn_43 ?_
        refine x_top (y := iI (z18)) ez18 ?_
        refine lv_isub hE.1 hE.2.1 dX9_drawn_46 ?_
        refine x_top (y := iI (z17 - z18)) ((iI_sub (z17) (z18)).trans (congrArg iI (by omega))) ?_
        refine lv_goto (tgt := 74) hE.1 hE.2.1 dX9_drawn_47 (by decide) ?_
        exact kr _ v10 ar10 al10 _ _ _ _ rfl ⟨⟨z17 - z18, by omega, rfl⟩, hI, fun i j h => ((hq10 i j (fun q => h (mem_sub (by decide) q))).trans (up_oth hv5 (fun q => h (by rcases q with ⟨rfl, rfl⟩; decide)))), fun i h => (hqa10 i (fun q => h (mem_subn (by decide) q))), fun i h => (hql10 i (fun q => h (mem_subn (by decide) q)))⟩ hP hS dX9_drawn_74
    · skip
      refine lv_bipush (v := iI (-2)) hE.1 hE.2.1 dX9_drawn_25 (by decide) ?_
      exact kr _ v5 ar al _ _ _ _ rfl ⟨⟨-2, by omega, rfl⟩, hI, fun i j h => (up_oth hv5 (fun q => h (by rcases q with ⟨rfl, rfl⟩; decide))), fun i h => rfl, fun i h => rfl⟩ hP hS dX9_drawn_27

theorem dX9_lot_0 : decode cX9_lot 0 = .ok (.aload_n 0, 1) := by decide +kernel
theorem dX9_lot_1 : decode cX9_lot 1 = .ok (.iconst 0, 1) := by decide +kernel
theorem dX9_lot_2 : decode cX9_lot 2 = .ok (.putfield 81, 3) := by decide +kernel
theorem dX9_lot_5 : decode cX9_lot 5 = .ok (.aload_n 0, 1) := by decide +kernel
theorem dX9_lot_6 : decode cX9_lot 6 = .ok (.iload_n 1, 1) := by decide +kernel
theorem dX9_lot_7 : decode cX9_lot 7 = .ok (.invokevirtual 458, 3) := by decide +kernel
theorem dX9_lot_10 : decode cX9_lot 10 = .ok (.ifCond .ne 6, 3) := by decide +kernel
theorem dX9_lot_13 : decode cX9_lot 13 = .ok (.bipush (-2), 2) := by decide +kernel
theorem dX9_lot_15 : decode cX9_lot 15 = .ok (.ireturn, 1) := by decide +kernel
theorem dX9_lot_16 : decode cX9_lot 16 = .ok (.aload_n 0, 1) := by decide +kernel
theorem dX9_lot_17 : decode cX9_lot 17 = .ok (.iload_n 1, 1) := by decide +kernel
theorem dX9_lot_18 : decode cX9_lot 18 = .ok (.i2l, 1) := by decide +kernel
theorem dX9_lot_19 : decode cX9_lot 19 = .ok (.invokevirtual 463, 3) := by decide +kernel
theorem dX9_lot_22 : decode cX9_lot 22 = .ok (.iload_n 2, 1) := by decide +kernel
theorem dX9_lot_23 : decode cX9_lot 23 = .ok (.i2l, 1) := by decide +kernel
theorem dX9_lot_24 : decode cX9_lot 24 = .ok (.lconst 0, 1) := by decide +kernel
theorem dX9_lot_25 : decode cX9_lot 25 = .ok (.aload_n 0, 1) := by decide +kernel
theorem dX9_lot_26 : decode cX9_lot 26 = .ok (.getfield 265, 3) := by decide +kernel
theorem dX9_lot_29 : decode cX9_lot 29 = .ok (.aload_n 0, 1) := by decide +kernel
theorem dX9_lot_30 : decode cX9_lot 30 = .ok (.getfield 445, 3) := by decide +kernel
theorem dX9_lot_33 : decode cX9_lot 33 = .ok (.isub, 1) := by decide +kernel
theorem dX9_lot_34 : decode cX9_lot 34 = .ok (.iconst 1, 1) := by decide +kernel
theorem dX9_lot_35 : decode cX9_lot 35 = .ok (.isub, 1) := by decide +kernel
theorem dX9_lot_36 : decode cX9_lot 36 = .ok (.i2l, 1) := by decide +kernel
theorem dX9_lot_37 : decode cX9_lot 37 = .ok (.invokestatic 86, 3) := by decide +kernel
theorem dX9_lot_40 : decode cX9_lot 40 = .ok (.ifCond .eq 17, 3) := by decide +kernel
theorem dX9_lot_43 : decode cX9_lot 43 = .ok (.aload_n 0, 1) := by decide +kernel
theorem dX9_lot_44 : decode cX9_lot 44 = .ok (.getfield 50, 3) := by decide +kernel
theorem dX9_lot_47 : decode cX9_lot 47 = .ok (.aload_n 0, 1) := by decide +kernel
theorem dX9_lot_48 : decode cX9_lot 48 = .ok (.getfield 445, 3) := by decide +kernel
theorem dX9_lot_51 : decode cX9_lot 51 = .ok (.iload_n 2, 1) := by decide +kernel
theorem dX9_lot_52 : decode cX9_lot 52 = .ok (.iadd, 1) := by decide +kernel
theorem dX9_lot_53 : decode cX9_lot 53 = .ok (.iaload, 1) := by decide +kernel
theorem dX9_lot_54 : decode cX9_lot 54 = .ok (.goto 4, 3) := by decide +kernel
theorem dX9_lot_57 : decode cX9_lot 57 = .ok (.iconst (-1), 1) := by decide +kernel
theorem dX9_lot_58 : decode cX9_lot 58 = .ok (.ireturn, 1) := by decide +kernel
set_option maxHeartbeats 4000000 in
set_option maxRecDepth 100000 in
theorem s_X9_lot (l : Launch) (D : va_G) (K : Nat → ClassId) (ad : Nat → Nat) (v ar : sI) (al : sL) (hI : YI v ar) (z_1 : Int) (hz_1 : -2147483648 ≤ z_1 ∧ z_1 ≤ 2147483647) (z_2 : Int) (hz_2 : -2147483648 ≤ z_2 ∧ z_2 ≤ 2147483647) : Met l yX9_lot (wM yX9_lot cX9_lot 3 (some .int)) (rmD 5) (va_Pc [.ref (ad 0), .int (iI (z_1)), .int (iI (z_2))] (wPre D K ad (yG ad K) 21 v ar al)) (va_Qi (fun (r : Int32) (u : sT) => (∃ z : Int, (-2147483648 ≤ z ∧ z ≤ 2147483647) ∧ r = iI z) ∧ YI u.1 u.2.1 ∧ (∀ i j : Nat, (i, j) ∉ ([(0, 0), (0, 24), (0, 25), (0, 26), (0, 27), (0, 49)] : List (Nat × Nat)) → u.1 i j = v i j) ∧ (∀ i : Nat, i ∉ ([12, 13, 14] : List Nat) → u.2.1 i = ar i) ∧ (∀ i : Nat, i ∉ ([] : List Nat) → u.2.2 i = al i)) (wB D ad (yG ad K) 21) (inW ad 21)) 0 0 (inW ad 21) := by
  refine s_metI (by decide) (Nat.le_of_ble_eq_true rfl) ?_
  intro p e s m below meth c ls args Q hE hB hl kr
  have hE : CallFix p m c cX9_lot 3 s args tbG "TaleCourtModel" := hE
  obtain ⟨hP, hK, hN⟩ := hB
  have hS : va_S (inW ad 21) s.heap s.heap [] := va_S.rf
  have hl : lv_has ls 3 [(0, .ref (ad 0)), (1, .int (iI (z_1))), (2, .int (iI (z_2)))] := hl
  obtain ⟨z1, hz1, ez1⟩ := iI_of (ar 6 0)
  obtain ⟨z2, hz2, ez2⟩ := YI_h2 hI 2 (by decide)
  obtain ⟨z3, hz3, ez3⟩ := YI_h5 hI 5 (by decide)
  obtain ⟨z4, hz4, ez4⟩ := YI_h0 hI 0 (by decide)
  have ht0 := YI_t0 hI ez1 (by omega) ez2 (by omega) ez3 (by omega) ez4 (by omega)
  refine lv_aload_n hE.1 hE.2.1 dX9_lot_0 rfl (lv_at hl 0 rfl) ?_
  refine lv_iconst (v := iI (0)) hE.1 hE.2.1 dX9_lot_1 (by decide) ?_
  refine x_put (x := iI (0)) hE hK hN hP hS 0 (by decide) (yG_9 rfl) rfl hin9 tyX9 tyX9_ok nmX9 0 (by decide) mw_1334 rfl rfl rfl (Nat.le_of_ble_eq_true rfl) (yG_9 rfl) dX9_lot_2 (fun v5 H locs hv5 hP hS => ?_)
  have hI := YI_putN hI hv5 (by decide)
  refine lv_aload_n hE.1 hE.2.1 dX9_lot_5 rfl (lv_at hl 0 rfl) ?_
  refine lv_iload_n hE.1 hE.2.1 dX9_lot_6 rfl (lv_at hl 1 rfl) ?_
  refine x_vp (nn := 1) (As := [.int (iI (z_1))]) (rest := []) hE (s_X9_isSeed l D K ad v5 ar al hI (z1) (by omega) ez1 (z_1) (by omega)) wPre_blind (wPre_now hK hN hP) (x_recv hK hP 0 (by decide) (yG_9 rfl) rfl) rfl mw_2041 mw_2043 mw_111 mw_123 mw_2044 (by decide +kernel) ⟨by decide, by decide⟩ hl.1 rfl (Nat.le_of_ble_eq_true rfl) ⟨Nat.zero_le _, Nat.zero_le _⟩ dX9_lot_7 (fun r6 hr6 => ?_)
  obtain ⟨z6, hz6, rfl⟩ := hr6
  refine s_if_ne (a := z6) (tgt := 16) hE.1 hE.2.1 (by omega) dX9_lot_10 (by decide) (fun c7 => ?_) (fun c7 => ?_)
  · skip
    refine lv_aload_n hE.1 hE.2.1 dX9_lot_16 rfl (lv_at hl 0 rfl) ?_
    refine lv_iload_n hE.1 hE.2.1 dX9_lot_17 rfl (lv_at hl 1 rfl) ?_
    refine lv_i2l (v := lI (z_1)) hE.1 hE.2.1 dX9_lot_18 (iI_i2l (by omega)) ?_
    refine x_vv (nn := 1) (As := [.long (lI (z_1))]) (rest := []) hE hK hN hP hS (s_X9_draws_e l D K ad v5 ar al hI (z4) (by omega) ez4 (z_1) (by omega)) (x_recv hK hP 0 (by decide) (yG_9 rfl) rfl) rfl mw_2047 mw_2049 mw_112 mw_123 mw_2050 (by decide +kernel) ⟨by decide, by decide⟩ hl.1 rfl (Nat.le_of_ble_eq_true rfl) ⟨Nat.zero_le _, Nat.zero_le _⟩ dX9_lot_19 (fun v8 ar8 al8 H locs hq8 hP hS => ?_)
    obtain ⟨hI, hq8, hqa8, hql8⟩ := hq8
    have hI : YI v8 ar8 := hI
    refine lv_iload_n hE.1 hE.2.1 dX9_lot_22 rfl (lv_at hl 2 rfl) ?_
    refine lv_i2l (v := lI (z_2)) hE.1 hE.2.1 dX9_lot_23 (iI_i2l (by omega)) ?_
    refine lv_lconst (v := lI (0)) hE.1 hE.2.1 dX9_lot_24 (by decide) ?_
    refine lv_aload_n hE.1 hE.2.1 dX9_lot_25 rfl (lv_at hl 0 rfl) ?_
    obtain ⟨z9, hz9, ez9⟩ := YI_get hI 0 24 0 60 (by decide)
    refine x_get (x := .int (v8 0 24)) hE hK hP 0 (by decide) (yG_9 rfl) rfl hin9 24 (by decide) mw_1358 rfl dX9_lot_26 ?_
    refine x_top (y := iI (z9)) ez9 ?_
    refine lv_aload_n hE.1 hE.2.1 dX9_lot_29 rfl (lv_at hl 0 rfl) ?_
    obtain ⟨z10, hz10, ez10⟩ := YI_get hI 0 49 0 18 (by decide)
    refine x_get (x := .int (v8 0 49)) hE hK hP 0 (by decide) (yG_9 rfl) rfl hin9 49 (by decide) mw_1383 rfl dX9_lot_30 ?_
    refine x_top (y := iI (z10)) ez10 ?_
    refine lv_isub hE.1 hE.2.1 dX9_lot_33 ?_
    refine x_top (y := iI (-z10 + z9)) ((iI_sub (z9) (z10)).trans (congrArg iI (by omega))) ?_
    refine lv_iconst (v := iI (1)) hE.1 hE.2.1 dX9_lot_34 (by decide) ?_
    refine lv_isub hE.1 hE.2.1 dX9_lot_35 ?_
    refine x_top (y := iI (-z10 + z9 - 1)) ((iI_sub (-z10 + z9) (1)).trans (congrArg iI (by omega))) ?_
    refine lv_i2l (v := lI (-z10 + z9 - 1)) hE.1 hE.2.1 dX9_lot_36 (iI_i2l (by omega)) ?_
    refine x_sp (nn := 3) (As := [.long (lI (z_2)), .long (lI (0)), .long (lI (-z10 + z9 - 1))]) (rest := []) hE (s_X9_in l (z_2) (by omega) (0) (by omega) (-z10 + z9 - 1) (by omega)) tt_blind (fun _ _ _ => trivial) rfl mw_1494 mw_1495 mw_123 mw_1496 (by decide +kernel) ⟨by decide, by decide⟩ hl.1 rfl (Nat.le_of_ble_eq_true rfl) ⟨Nat.zero_le _, Nat.zero_le _⟩ dX9_lot_37 (fun r11 hr11 => ?_)
    obtain ⟨z11, hz11, rfl⟩ := hr11
    refine s_if_eq (a := z11) (tgt := 57) hE.1 hE.2.1 (by omega) dX9_lot_40 (by decide) (fun c12 => ?_) (fun c12 => ?_)
    · skip
      refine lv_iconst (v := iI (-1)) hE.1 hE.2.1 dX9_lot_57 (by decide) ?_
      exact kr _ v8 ar8 al8 _ _ _ _ rfl ⟨⟨-1, by omega, rfl⟩, hI, fun i j h => ((hq8 i j (fun q => h (mem_sub (by decide) q))).trans (up_oth hv5 (fun q => h (by rcases q with ⟨rfl, rfl⟩; decide)))), fun i h => (hqa8 i (fun q => h (mem_subn (by decide) q))), fun i h => (hql8 i (fun q => h (mem_subn (by decide) q)))⟩ hP hS dX9_lot_58
    · skip
      refine lv_aload_n hE.1 hE.2.1 dX9_lot_43 rfl (lv_at hl 0 rfl) ?_
      refine x_get (x := .ref (ad 12)) hE hK hP 0 (by decide) (yG_9 rfl) rfl hin9 22 (by decide) mw_1356 rfl dX9_lot_44 ?_
      refine lv_aload_n hE.1 hE.2.1 dX9_lot_47 rfl (lv_at hl 0 rfl) ?_
      refine x_get (x := .int (v8 0 49)) hE hK hP 0 (by decide) (yG_9 rfl) rfl hin9 49 (by decide) mw_1383 rfl dX9_lot_48 ?_
      refine x_top (y := iI (z10)) ez10 ?_
      refine lv_iload_n hE.1 hE.2.1 dX9_lot_51 rfl (lv_at hl 2 rfl) ?_
      refine lv_iadd hE.1 hE.2.1 dX9_lot_52 ?_
      refine x_top (y := iI (z10 + z_2)) ((iI_add (z10) (z_2)).trans (congrArg iI (by omega))) ?_
      refine x_iald (j := iI (z10 + z_2)) hE hK hP 12 (by decide) (yG_10 rfl) (iI_in (n := 60) (by omega)) dX9_lot_53 ?_
      obtain ⟨z14, hz14, ez14⟩ := YI_a12 hI ((iI (z10 + z_2)).toNatClampNeg)
      refine x_top ez14 ?_
      refine lv_goto (tgt := 58) hE.1 hE.2.1 dX9_lot_54 (by decide) ?_
      exact kr _ v8 ar8 al8 _ _ _ _ rfl ⟨⟨z14, by omega, rfl⟩, hI, fun i j h => ((hq8 i j (fun q => h (mem_sub (by decide) q))).trans (up_oth hv5 (fun q => h (by rcases q with ⟨rfl, rfl⟩; decide)))), fun i h => (hqa8 i (fun q => h (mem_subn (by decide) q))), fun i h => (hql8 i (fun q => h (mem_subn (by decide) q)))⟩ hP hS dX9_lot_58
  · skip
    refine lv_bipush (v := iI (-2)) hE.1 hE.2.1 dX9_lot_13 (by decide) ?_
    exact kr _ v5 ar al _ _ _ _ rfl ⟨⟨-2, by omega, rfl⟩, hI, fun i j h => (up_oth hv5 (fun q => h (by rcases q with ⟨rfl, rfl⟩; decide))), fun i h => rfl, fun i h => rfl⟩ hP hS dX9_lot_15

theorem dX9_nights_0 : decode cX9_nights 0 = .ok (.aload_n 0, 1) := by decide +kernel
theorem dX9_nights_1 : decode cX9_nights 1 = .ok (.iconst 0, 1) := by decide +kernel
theorem dX9_nights_2 : decode cX9_nights 2 = .ok (.putfield 81, 3) := by decide +kernel
theorem dX9_nights_5 : decode cX9_nights 5 = .ok (.aload_n 0, 1) := by decide +kernel
theorem dX9_nights_6 : decode cX9_nights 6 = .ok (.iload_n 1, 1) := by decide +kernel
theorem dX9_nights_7 : decode cX9_nights 7 = .ok (.invokevirtual 458, 3) := by decide +kernel
theorem dX9_nights_10 : decode cX9_nights 10 = .ok (.ifCond .eq 15, 3) := by decide +kernel
theorem dX9_nights_13 : decode cX9_nights 13 = .ok (.iload_n 2, 1) := by decide +kernel
theorem dX9_nights_14 : decode cX9_nights 14 = .ok (.i2l, 1) := by decide +kernel
theorem dX9_nights_15 : decode cX9_nights 15 = .ok (.lconst 1, 1) := by decide +kernel
theorem dX9_nights_16 : decode cX9_nights 16 = .ok (.ldc2_w 466, 3) := by decide +kernel
theorem dX9_nights_19 : decode cX9_nights 19 = .ok (.invokestatic 86, 3) := by decide +kernel
theorem dX9_nights_22 : decode cX9_nights 22 = .ok (.ifCond .ne 6, 3) := by decide +kernel
theorem dX9_nights_25 : decode cX9_nights 25 = .ok (.bipush (-2), 2) := by decide +kernel
theorem dX9_nights_27 : decode cX9_nights 27 = .ok (.ireturn, 1) := by decide +kernel
theorem dX9_nights_28 : decode cX9_nights 28 = .ok (.iconst 0, 1) := by decide +kernel
theorem dX9_nights_29 : decode cX9_nights 29 = .ok (.istore_n 3, 1) := by decide +kernel
theorem dX9_nights_30 : decode cX9_nights 30 = .ok (.iconst 0, 1) := by decide +kernel
theorem dX9_nights_31 : decode cX9_nights 31 = .ok (.istore 4, 2) := by decide +kernel
theorem dX9_nights_33 : decode cX9_nights 33 = .ok (.iload 4, 2) := by decide +kernel
theorem dX9_nights_35 : decode cX9_nights 35 = .ok (.iload_n 2, 1) := by decide +kernel
theorem dX9_nights_36 : decode cX9_nights 36 = .ok (.if_icmp .ge 34, 3) := by decide +kernel
theorem dX9_nights_39 : decode cX9_nights 39 = .ok (.aload_n 0, 1) := by decide +kernel
theorem dX9_nights_40 : decode cX9_nights 40 = .ok (.iload_n 1, 1) := by decide +kernel
theorem dX9_nights_41 : decode cX9_nights 41 = .ok (.i2l, 1) := by decide +kernel
theorem dX9_nights_42 : decode cX9_nights 42 = .ok (.iload 4, 2) := by decide +kernel
theorem dX9_nights_44 : decode cX9_nights 44 = .ok (.i2l, 1) := by decide +kernel
theorem dX9_nights_45 : decode cX9_nights 45 = .ok (.ladd, 1) := by decide +kernel
theorem dX9_nights_46 : decode cX9_nights 46 = .ok (.invokevirtual 463, 3) := by decide +kernel
theorem dX9_nights_49 : decode cX9_nights 49 = .ok (.iload_n 3, 1) := by decide +kernel
theorem dX9_nights_50 : decode cX9_nights 50 = .ok (.aload_n 0, 1) := by decide +kernel
theorem dX9_nights_51 : decode cX9_nights 51 = .ok (.invokevirtual 310, 3) := by decide +kernel
theorem dX9_nights_54 : decode cX9_nights 54 = .ok (.ifCond .eq 7, 3) := by decide +kernel
theorem dX9_nights_57 : decode cX9_nights 57 = .ok (.iconst 1, 1) := by decide +kernel
theorem dX9_nights_58 : decode cX9_nights 58 = .ok (.goto 4, 3) := by decide +kernel
theorem dX9_nights_61 : decode cX9_nights 61 = .ok (.iconst 0, 1) := by decide +kernel
theorem dX9_nights_62 : decode cX9_nights 62 = .ok (.iadd, 1) := by decide +kernel
theorem dX9_nights_63 : decode cX9_nights 63 = .ok (.istore_n 3, 1) := by decide +kernel
theorem dX9_nights_64 : decode cX9_nights 64 = .ok (.iinc 4 1, 3) := by decide +kernel
theorem dX9_nights_67 : decode cX9_nights 67 = .ok (.goto (-34), 3) := by decide +kernel
theorem dX9_nights_70 : decode cX9_nights 70 = .ok (.iload_n 3, 1) := by decide +kernel
theorem dX9_nights_71 : decode cX9_nights 71 = .ok (.ireturn, 1) := by decide +kernel
set_option maxHeartbeats 4000000 in
set_option maxRecDepth 100000 in
theorem s_X9_nights (l : Launch) (D : va_G) (K : Nat → ClassId) (ad : Nat → Nat) (v ar : sI) (al : sL) (hI : YI v ar) (z_1 : Int) (hz_1 : -2147483648 ≤ z_1 ∧ z_1 ≤ 2147483647) (z_2 : Int) (hz_2 : -2147483648 ≤ z_2 ∧ z_2 ≤ 2147483647) : Met l yX9_nights (wM yX9_nights cX9_nights 5 (some .int)) (rmD 5) (va_Pc [.ref (ad 0), .int (iI (z_1)), .int (iI (z_2))] (wPre D K ad (yG ad K) 21 v ar al)) (va_Qi (fun (r : Int32) (u : sT) => (∃ z : Int, (-2147483648 ≤ z ∧ z ≤ 2147483647) ∧ r = iI z) ∧ YI u.1 u.2.1 ∧ (∀ i j : Nat, (i, j) ∉ ([(0, 0), (0, 24), (0, 25), (0, 26), (0, 27), (0, 49)] : List (Nat × Nat)) → u.1 i j = v i j) ∧ (∀ i : Nat, i ∉ ([12, 13, 14] : List Nat) → u.2.1 i = ar i) ∧ (∀ i : Nat, i ∉ ([] : List Nat) → u.2.2 i = al i)) (wB D ad (yG ad K) 21) (inW ad 21)) 0 0 (inW ad 21) := by
  refine s_metI (by decide) (Nat.le_of_ble_eq_true rfl) ?_
  intro p e s m below meth c ls args Q hE hB hl kr
  have hE : CallFix p m c cX9_nights 5 s args tbG "TaleCourtModel" := hE
  obtain ⟨hP, hK, hN⟩ := hB
  have hS : va_S (inW ad 21) s.heap s.heap [] := va_S.rf
  have hl : lv_has ls 5 [(0, .ref (ad 0)), (1, .int (iI (z_1))), (2, .int (iI (z_2)))] := hl
  obtain ⟨z1, hz1, ez1⟩ := iI_of (ar 6 0)
  obtain ⟨z2, hz2, ez2⟩ := YI_h2 hI 2 (by decide)
  obtain ⟨z3, hz3, ez3⟩ := YI_h5 hI 5 (by decide)
  obtain ⟨z4, hz4, ez4⟩ := YI_h0 hI 0 (by decide)
  have ht0 := YI_t0 hI ez1 (by omega) ez2 (by omega) ez3 (by omega) ez4 (by omega)
  refine lv_aload_n hE.1 hE.2.1 dX9_nights_0 rfl (lv_at hl 0 rfl) ?_
  refine lv_iconst (v := iI (0)) hE.1 hE.2.1 dX9_nights_1 (by decide) ?_
  refine x_put (x := iI (0)) hE hK hN hP hS 0 (by decide) (yG_9 rfl) rfl hin9 tyX9 tyX9_ok nmX9 0 (by decide) mw_1334 rfl rfl rfl (Nat.le_of_ble_eq_true rfl) (yG_9 rfl) dX9_nights_2 (fun v5 H locs hv5 hP hS => ?_)
  have hI := YI_putN hI hv5 (by decide)
  refine lv_aload_n hE.1 hE.2.1 dX9_nights_5 rfl (lv_at hl 0 rfl) ?_
  refine lv_iload_n hE.1 hE.2.1 dX9_nights_6 rfl (lv_at hl 1 rfl) ?_
  refine x_vp (nn := 1) (As := [.int (iI (z_1))]) (rest := []) hE (s_X9_isSeed l D K ad v5 ar al hI (z1) (by omega) ez1 (z_1) (by omega)) wPre_blind (wPre_now hK hN hP) (x_recv hK hP 0 (by decide) (yG_9 rfl) rfl) rfl mw_2041 mw_2043 mw_111 mw_123 mw_2044 (by decide +kernel) ⟨by decide, by decide⟩ hl.1 rfl (Nat.le_of_ble_eq_true rfl) ⟨Nat.zero_le _, Nat.zero_le _⟩ dX9_nights_7 (fun r6 hr6 => ?_)
  obtain ⟨z6, hz6, rfl⟩ := hr6
  refine s_if_eq (a := z6) (tgt := 25) hE.1 hE.2.1 (by omega) dX9_nights_10 (by decide) (fun c7 => ?_) (fun c7 => ?_)
  · skip
    refine lv_bipush (v := iI (-2)) hE.1 hE.2.1 dX9_nights_25 (by decide) ?_
    exact kr _ v5 ar al _ _ _ _ rfl ⟨⟨-2, by omega, rfl⟩, hI, fun i j h => (up_oth hv5 (fun q => h (by rcases q with ⟨rfl, rfl⟩; decide))), fun i h => rfl, fun i h => rfl⟩ hP hS dX9_nights_27
  · skip
    refine lv_iload_n hE.1 hE.2.1 dX9_nights_13 rfl (lv_at hl 2 rfl) ?_
    refine lv_i2l (v := lI (z_2)) hE.1 hE.2.1 dX9_nights_14 (iI_i2l (by omega)) ?_
    refine lv_lconst (v := lI (1)) hE.1 hE.2.1 dX9_nights_15 (by decide) ?_
    refine lv_ldc2 (v := 20) hE.1 hE.2.1 hE.2.2.2.1 (hE.2.2.2.2 _ mw_2063) dX9_nights_16 ?_
    refine x_topl (y := lI (20)) (by decide) ?_
    refine x_sp (nn := 3) (As := [.long (lI (z_2)), .long (lI (1)), .long (lI (20))]) (rest := []) hE (s_X9_in l (z_2) (by omega) (1) (by omega) (20) (by omega)) tt_blind (fun _ _ _ => trivial) rfl mw_1494 mw_1495 mw_123 mw_1496 (by decide +kernel) ⟨by decide, by decide⟩ hl.1 rfl (Nat.le_of_ble_eq_true rfl) ⟨Nat.zero_le _, Nat.zero_le _⟩ dX9_nights_19 (fun r8 hr8 => ?_)
    obtain ⟨z8, hz8, rfl⟩ := hr8
    refine s_if_ne (a := z8) (tgt := 28) hE.1 hE.2.1 (by omega) dX9_nights_22 (by decide) (fun c9 => ?_) (fun c9 => ?_)
    · skip
      refine lv_iconst (v := iI (0)) hE.1 hE.2.1 dX9_nights_28 (by decide) ?_
      refine lv_istore_n (lv' := [(3, .int (iI (0))), (0, .ref (ad 0)), (1, .int (iI (z_1))), (2, .int (iI (z_2)))]) hE.1 hE.2.1 dX9_nights_29 rfl hl (by decide) rfl (fun ls hl => ?_)
      refine lv_iconst (v := iI (0)) hE.1 hE.2.1 dX9_nights_30 (by decide) ?_
      refine lv_istore (lv' := [(4, .int (iI (0))), (3, .int (iI (0))), (0, .ref (ad 0)), (1, .int (iI (z_1))), (2, .int (iI (z_2)))]) hE.1 hE.2.1 dX9_nights_31 hl (by decide) rfl (fun ls hl => ?_)
      have loop10 : ∀ (k10 : Nat) (y10_4 : Int) (y10_3 : Int) (vl10 arl10 : sI) (all10 : sL) (H : Heap) (locs : List Loc) (ls : Array Slot), (20 - y10_4).toNat = k10 → (0 ≤ y10_4 ∧ y10_4 ≤ 20) → (-2147483648 ≤ y10_3 ∧ y10_3 ≤ 2147483647) → YI vl10 arl10 → (∀ i j : Nat, (i, j) ∉ ([(0, 24), (0, 25), (0, 26), (0, 27), (0, 49)] : List (Nat × Nat)) → vl10 i j = v5 i j) → (∀ i : Nat, i ∉ ([12, 13, 14] : List Nat) → arl10 i = ar i) → (∀ i : Nat, i ∉ ([] : List Nat) → all10 i = al i) → va_P D xcl (wW ad (yG ad K) 21 vl10 arl10 all10) H → va_S (inW ad 21) s.heap H locs → lv_has ls 5 [(4, .int (iI (y10_4))), (3, .int (iI (y10_3))), (0, .ref (ad 0)), (1, .int (iI (z_1))), (2, .int (iI (z_2)))] → W p l e (rmD 5) s m args below meth c H locs 0 0 Q (F0 m 33 ls []) := by
        intro k10
        induction k10 using Nat.strongRecOn with
        | _ k10 ih10 =>
          intro y10_4 y10_3  vl10 arl10 all10 H locs ls hk10 hb_y10_4 hb_y10_3 hI hfr10 hfa10 hfl10 hP hS hl
          refine lv_iload hE.1 hE.2.1 dX9_nights_33 (lv_at hl 0 rfl) ?_
          refine lv_iload_n hE.1 hE.2.1 dX9_nights_35 rfl (lv_at hl 4 rfl) ?_
          refine s_icmp_ge (a := y10_4) (b := z_2) (tgt := 70) hE.1 hE.2.1 (by omega) (by omega) dX9_nights_36 (by decide) (fun c11 => ?_) (fun c11 => ?_)
          · skip
            refine lv_iload_n hE.1 hE.2.1 dX9_nights_70 rfl (lv_at hl 1 rfl) ?_
            exact kr _ vl10 arl10 all10 _ _ _ _ rfl ⟨⟨y10_3, by omega, rfl⟩, hI, fun i j h => ((hfr10 i j (fun q => h (mem_sub (by decide) q))).trans (up_oth hv5 (fun q => h (by rcases q with ⟨rfl, rfl⟩; decide)))), fun i h => (hfa10 i (fun q => h (mem_subn (by decide) q))), fun i h => (hfl10 i (fun q => h (mem_subn (by decide) q)))⟩ hP hS dX9_nights_71
          · skip
            refine lv_aload_n hE.1 hE.2.1 dX9_nights_39 rfl (lv_at hl 2 rfl) ?_
            refine lv_iload_n hE.1 hE.2.1 dX9_nights_40 rfl (lv_at hl 3 rfl) ?_
            refine lv_i2l (v := lI (z_1)) hE.1 hE.2.1 dX9_nights_41 (iI_i2l (by omega)) ?_
            refine lv_iload hE.1 hE.2.1 dX9_nights_42 (lv_at hl 0 rfl) ?_
            refine lv_i2l (v := lI (y10_4)) hE.1 hE.2.1 dX9_nights_44 (iI_i2l (by omega)) ?_
            refine lv_ladd hE.1 hE.2.1 dX9_nights_45 ?_
            refine x_topl (y := lI (y10_4 + z_1)) ((lI_add (z_1) (y10_4)).trans (congrArg lI (by omega))) ?_
            refine x_vv (nn := 1) (As := [.long (lI (y10_4 + z_1))]) (rest := []) hE hK hN hP hS (s_X9_draws_e l D K ad vl10 arl10 all10 hI (z4) (by omega) ((congrFun (hfa10 7 (by decide)) 0).trans ez4) (y10_4 + z_1) (by omega)) (x_recv hK hP 0 (by decide) (yG_9 rfl) rfl) rfl mw_2047 mw_2049 mw_112 mw_123 mw_2050 (by decide +kernel) ⟨by decide, by decide⟩ hl.1 rfl (Nat.le_of_ble_eq_true rfl) ⟨Nat.zero_le _, Nat.zero_le _⟩ dX9_nights_46 (fun v12 ar12 al12 H locs hq12 hP hS => ?_)
            obtain ⟨hI, hq12, hqa12, hql12⟩ := hq12
            have hI : YI v12 ar12 := hI
            refine lv_iload_n hE.1 hE.2.1 dX9_nights_49 rfl (lv_at hl 1 rfl) ?_
            refine lv_aload_n hE.1 hE.2.1 dX9_nights_50 rfl (lv_at hl 2 rfl) ?_
            obtain ⟨z13, hz13, ez13⟩ := YI_get hI 0 25 0 511 (by decide)
            refine x_vp (nn := 0) (As := []) (rest := [.int (iI (y10_3))]) hE (s_X9_isWhole_e l D K ad v12 ar12 al12 hI (z13) (by omega) ez13 ) wPre_blind (wPre_now hK hN hP) (x_recv hK hP 0 (by decide) (yG_9 rfl) rfl) rfl mw_1774 mw_1776 mw_83 mw_123 mw_1777 (by decide +kernel) ⟨by decide, by decide⟩ hl.1 rfl (Nat.le_of_ble_eq_true rfl) ⟨Nat.zero_le _, Nat.zero_le _⟩ dX9_nights_51 (fun r14 hr14 => ?_)
            obtain ⟨z14, hz14, rfl⟩ := hr14
            refine s_if_eq (a := z14) (tgt := 61) hE.1 hE.2.1 (by omega) dX9_nights_54 (by decide) (fun c15 => ?_) (fun c15 => ?_)
            · skip
              refine lv_iconst (v := iI (0)) hE.1 hE.2.1 dX9_nights_61 (by decide) ?_
              refine lv_iadd hE.1 hE.2.1 dX9_nights_62 ?_
              refine x_top (y := iI (y10_3)) ((iI_add (y10_3) (0)).trans (congrArg iI (by omega))) ?_
              refine lv_istore_n (lv' := [(3, .int (iI (y10_3))), (4, .int (iI (y10_4))), (0, .ref (ad 0)), (1, .int (iI (z_1))), (2, .int (iI (z_2)))]) hE.1 hE.2.1 dX9_nights_63 rfl hl (by decide) rfl (fun ls hl => ?_)
              refine lv_iinc (v := iI (y10_4 + 1)) (lv' := [(4, .int (iI (y10_4 + 1))), (3, .int (iI (y10_3))), (0, .ref (ad 0)), (1, .int (iI (z_1))), (2, .int (iI (z_2)))]) hE.1 hE.2.1 dX9_nights_64 hl (k := 1) rfl ((iI_add (y10_4) (1)).trans (congrArg iI (by omega))) (by decide) rfl (fun ls hl => ?_)
              refine lv_goto (tgt := 33) hE.1 hE.2.1 dX9_nights_67 (by decide) ?_
              exact ih10 _ (by omega) (y10_4 + 1) (y10_3)  v12 ar12 al12 _ _ _ rfl (by omega) (by omega)  hI (fun i j h => ((hq12 i j (fun q => h (mem_sub (by decide) q))).trans (hfr10 i j h))) (fun i h => ((hqa12 i (fun q => h (mem_subn (by decide) q))).trans (hfa10 i h))) (fun i h => ((hql12 i (fun q => h (mem_subn (by decide) q))).trans (hfl10 i h))) hP hS (lv_sub hl [0, 1, 2, 3, 4] rfl)
            · skip
              refine lv_iconst (v := iI (1)) hE.1 hE.2.1 dX9_nights_57 (by decide) ?_
              refine lv_goto (tgt := 62) hE.1 hE.2.1 dX9_nights_58 (by decide) ?_
              refine lv_iadd hE.1 hE.2.1 dX9_nights_62 ?_
              obtain ⟨z16, hz16, ez16⟩ := iI_of (iI (y10_3) + iI (1))
              refine x_top ez16 ?_
              refine lv_istore_n (lv' := [(3, .int (iI (z16))), (4, .int (iI (y10_4))), (0, .ref (ad 0)), (1, .int (iI (z_1))), (2, .int (iI (z_2)))]) hE.1 hE.2.1 dX9_nights_63 rfl hl (by decide) rfl (fun ls hl => ?_)
              refine lv_iinc (v := iI (y10_4 + 1)) (lv' := [(4, .int (iI (y10_4 + 1))), (3, .int (iI (z16))), (0, .ref (ad 0)), (1, .int (iI (z_1))), (2, .int (iI (z_2)))]) hE.1 hE.2.1 dX9_nights_64 hl (k := 1) rfl ((iI_add (y10_4) (1)).trans (congrArg iI (by omega))) (by decide) rfl (fun ls hl => ?_)
              refine lv_goto (tgt := 33) hE.1 hE.2.1 dX9_nights_67 (by decide) ?_
              exact ih10 _ (by omega) (y10_4 + 1) (z16)  v12 ar12 al12 _ _ _ rfl (by omega) (by omega)  hI (fun i j h => ((hq12 i j (fun q => h (mem_sub (by decide) q))).trans (hfr10 i j h))) (fun i h => ((hqa12 i (fun q => h (mem_subn (by decide) q))).trans (hfa10 i h))) (fun i h => ((hql12 i (fun q => h (mem_subn (by decide) q))).trans (hfl10 i h))) hP hS (lv_sub hl [0, 1, 2, 3, 4] rfl)
      exact loop10 _ (0) (0)  v5 ar al _ _ _ rfl (by omega) (by omega)  hI (fun _ _ _ => rfl) (fun _ _ => rfl) (fun _ _ => rfl) hP hS hl
    · skip
      refine lv_bipush (v := iI (-2)) hE.1 hE.2.1 dX9_nights_25 (by decide) ?_
      exact kr _ v5 ar al _ _ _ _ rfl ⟨⟨-2, by omega, rfl⟩, hI, fun i j h => (up_oth hv5 (fun q => h (by rcases q with ⟨rfl, rfl⟩; decide))), fun i h => rfl, fun i h => rfl⟩ hP hS dX9_nights_27
