set_option maxHeartbeats 4000000 in
set_option maxRecDepth 100000 in
theorem s_X9_isWhole_e (l : Launch) (D : va_G) (K : Nat → ClassId) (ad : Nat → Nat) (v ar : sI) (al : sL) (hI : YI v ar) (w_1 : Int) (hw_1 : 0 ≤ w_1 ∧ w_1 ≤ 511) (ew_1 : v 0 25 = iI w_1) : Met l yX9_isWhole (wM yX9_isWhole cX9_isWhole 1 (some .boolean)) (rmD 2) (va_Pc [.ref (ad 0)] (wPre D K ad (yG ad K) 21 v ar al)) (vp_Si (fun r => ∃ z : Int, (z = 0 ∨ (z = 1 ∧ w_1 ≠ 0)) ∧ r = iI z)) 0 0 (fun _ => False) := by
  refine s_metP (by decide) (Nat.le_of_ble_eq_true rfl) ?_
  intro p e s m below meth c ls args Q hE hB hl kr
  have hE : CallFix p m c cX9_isWhole 1 s args tbG "TaleCourtModel" := hE
  obtain ⟨hP, hK, hN⟩ := hB
  have hl : lv_has ls 1 [(0, .ref (ad 0))] := hl
  refine lv_aload_n hE.1 hE.2.1 dX9_isWhole_0 rfl (lv_at hl 0 rfl) ?_
  refine x_get (x := .int (v 0 25)) hE hK hP 0 (by decide) (yG_9 rfl) rfl hin9 25 (by decide) mw_1359 rfl dX9_isWhole_1 ?_
  refine x_top (y := iI (w_1)) ew_1 ?_
  refine s_if_eq (a := w_1) (tgt := 34) hE.1 hE.2.1 (by omega) dX9_isWhole_4 (by decide) (fun c1 => ?_) (fun c1 => ?_)
  · skip
    refine lv_iconst (v := iI (0)) hE.1 hE.2.1 dX9_isWhole_34 (by decide) ?_
    exact kr _ _ _ (nar01 (by omega)) ⟨0, by omega, rfl⟩ dX9_isWhole_35
  · skip
    refine lv_aload_n hE.1 hE.2.1 dX9_isWhole_7 rfl (lv_at hl 0 rfl) ?_
    refine x_vp (nn := 0) (As := []) (rest := []) hE (s_X9_owedNow l D K ad v ar al hI  ) wPre_blind (wPre_now hK hN hP) (x_recv hK hP 0 (by decide) (yG_9 rfl) rfl) rfl mw_1762 mw_1764 mw_82 mw_123 mw_1765 (by decide +kernel) ⟨by decide, by decide⟩ hl.1 rfl (Nat.le_of_ble_eq_true rfl) ⟨Nat.zero_le _, Nat.zero_le _⟩ dX9_isWhole_8 (fun r2 hr2 => ?_)
    obtain ⟨z2, hz2, rfl⟩ := hr2
    refine s_if_ne (a := z2) (tgt := 34) hE.1 hE.2.1 (by omega) dX9_isWhole_11 (by decide) (fun c3 => ?_) (fun c3 => ?_)
    · skip
      refine lv_iconst (v := iI (0)) hE.1 hE.2.1 dX9_isWhole_34 (by decide) ?_
      exact kr _ _ _ (nar01 (by omega)) ⟨0, by omega, rfl⟩ dX9_isWhole_35
    · skip
      refine lv_aload_n hE.1 hE.2.1 dX9_isWhole_14 rfl (lv_at hl 0 rfl) ?_
      refine x_get (x := .ref (ad 7)) hE hK hP 0 (by decide) (yG_9 rfl) rfl hin9 17 (by decide) mw_1351 rfl dX9_isWhole_15 ?_
      refine lv_iconst (v := iI (4)) hE.1 hE.2.1 dX9_isWhole_18 (by decide) ?_
      refine x_iald (j := iI (4)) hE hK hP 7 (by decide) (yG_10 rfl) (iI_in (n := 30) (by omega)) dX9_isWhole_19 ?_
      obtain ⟨z5, hz5, ez5⟩ := iI_of (ar 7 4)
      refine x_top (y := iI (z5)) (by rw [show (iI (4)).toNatClampNeg = 4 from by decide]; exact ez5) ?_
      refine lv_aload_n hE.1 hE.2.1 dX9_isWhole_20 rfl (lv_at hl 0 rfl) ?_
      obtain ⟨z6, hz6, ez6⟩ := YI_get hI 0 26 (-1) 8 (by decide)
      refine x_get (x := .int (v 0 26)) hE hK hP 0 (by decide) (yG_9 rfl) rfl hin9 26 (by decide) mw_1360 rfl dX9_isWhole_21 ?_
      refine x_top (y := iI (z6)) ez6 ?_
      refine x_sp (nn := 2) (As := [.int (iI (z5)), .int (iI (z6))]) (rest := []) hE (s_X9_isBit_e l (z5) (by omega) (z6) (by omega)) tt_blind (fun _ _ _ => trivial) rfl mw_1683 mw_1684 mw_123 mw_1685 (by decide +kernel) ⟨by decide, by decide⟩ hl.1 rfl (Nat.le_of_ble_eq_true rfl) ⟨Nat.zero_le _, Nat.zero_le _⟩ dX9_isWhole_24 (fun r7 hr7 => ?_)
      obtain ⟨z7, hz7, rfl⟩ := hr7
      refine s_if_ne (a := z7) (tgt := 34) hE.1 hE.2.1 (by omega) dX9_isWhole_27 (by decide) (fun c8 => ?_) (fun c8 => ?_)
      · skip
        refine lv_iconst (v := iI (0)) hE.1 hE.2.1 dX9_isWhole_34 (by decide) ?_
        exact kr _ _ _ (nar01 (by omega)) ⟨0, by omega, rfl⟩ dX9_isWhole_35
      · skip
        refine lv_iconst (v := iI (1)) hE.1 hE.2.1 dX9_isWhole_30 (by decide) ?_
        refine lv_goto (tgt := 35) hE.1 hE.2.1 dX9_isWhole_31 (by decide) ?_
        exact kr _ _ _ (nar01 (by omega)) ⟨1, by omega, rfl⟩ dX9_isWhole_35

theorem dX9_isAhead_0 : decode cX9_isAhead 0 = .ok (.iload_n 1, 1) := by decide +kernel
theorem dX9_isAhead_1 : decode cX9_isAhead 1 = .ok (.aload_n 0, 1) := by decide +kernel
theorem dX9_isAhead_2 : decode cX9_isAhead 2 = .ok (.getfield 343, 3) := by decide +kernel
theorem dX9_isAhead_5 : decode cX9_isAhead 5 = .ok (.if_icmp .eq 17, 3) := by decide +kernel
theorem dX9_isAhead_8 : decode cX9_isAhead 8 = .ok (.iload_n 1, 1) := by decide +kernel
theorem dX9_isAhead_9 : decode cX9_isAhead 9 = .ok (.aload_n 0, 1) := by decide +kernel
theorem dX9_isAhead_10 : decode cX9_isAhead 10 = .ok (.getfield 343, 3) := by decide +kernel
theorem dX9_isAhead_13 : decode cX9_isAhead 13 = .ok (.if_icmp .ge 7, 3) := by decide +kernel
theorem dX9_isAhead_16 : decode cX9_isAhead 16 = .ok (.iconst 1, 1) := by decide +kernel
theorem dX9_isAhead_17 : decode cX9_isAhead 17 = .ok (.goto 4, 3) := by decide +kernel
theorem dX9_isAhead_20 : decode cX9_isAhead 20 = .ok (.iconst 0, 1) := by decide +kernel
theorem dX9_isAhead_21 : decode cX9_isAhead 21 = .ok (.ireturn, 1) := by decide +kernel
theorem dX9_isAhead_22 : decode cX9_isAhead 22 = .ok (.iconst 0, 1) := by decide +kernel
theorem dX9_isAhead_23 : decode cX9_isAhead 23 = .ok (.istore_n 2, 1) := by decide +kernel
theorem dX9_isAhead_24 : decode cX9_isAhead 24 = .ok (.iload_n 2, 1) := by decide +kernel
theorem dX9_isAhead_25 : decode cX9_isAhead 25 = .ok (.iload_n 1, 1) := by decide +kernel
theorem dX9_isAhead_26 : decode cX9_isAhead 26 = .ok (.if_icmp .ge 55, 3) := by decide +kernel
theorem dX9_isAhead_29 : decode cX9_isAhead 29 = .ok (.aload_n 0, 1) := by decide +kernel
theorem dX9_isAhead_30 : decode cX9_isAhead 30 = .ok (.getfield 50, 3) := by decide +kernel
theorem dX9_isAhead_33 : decode cX9_isAhead 33 = .ok (.aload_n 0, 1) := by decide +kernel
theorem dX9_isAhead_34 : decode cX9_isAhead 34 = .ok (.getfield 316, 3) := by decide +kernel
theorem dX9_isAhead_37 : decode cX9_isAhead 37 = .ok (.iload_n 2, 1) := by decide +kernel
theorem dX9_isAhead_38 : decode cX9_isAhead 38 = .ok (.iadd, 1) := by decide +kernel
theorem dX9_isAhead_39 : decode cX9_isAhead 39 = .ok (.iaload, 1) := by decide +kernel
theorem dX9_isAhead_40 : decode cX9_isAhead 40 = .ok (.aload_n 0, 1) := by decide +kernel
theorem dX9_isAhead_41 : decode cX9_isAhead 41 = .ok (.getfield 59, 3) := by decide +kernel
theorem dX9_isAhead_44 : decode cX9_isAhead 44 = .ok (.iload_n 2, 1) := by decide +kernel
theorem dX9_isAhead_45 : decode cX9_isAhead 45 = .ok (.iaload, 1) := by decide +kernel
theorem dX9_isAhead_46 : decode cX9_isAhead 46 = .ok (.if_icmp .eq 29, 3) := by decide +kernel
theorem dX9_isAhead_49 : decode cX9_isAhead 49 = .ok (.aload_n 0, 1) := by decide +kernel
theorem dX9_isAhead_50 : decode cX9_isAhead 50 = .ok (.getfield 50, 3) := by decide +kernel
theorem dX9_isAhead_53 : decode cX9_isAhead 53 = .ok (.aload_n 0, 1) := by decide +kernel
theorem dX9_isAhead_54 : decode cX9_isAhead 54 = .ok (.getfield 316, 3) := by decide +kernel
theorem dX9_isAhead_57 : decode cX9_isAhead 57 = .ok (.iload_n 2, 1) := by decide +kernel
theorem dX9_isAhead_58 : decode cX9_isAhead 58 = .ok (.iadd, 1) := by decide +kernel
theorem dX9_isAhead_59 : decode cX9_isAhead 59 = .ok (.iaload, 1) := by decide +kernel
theorem dX9_isAhead_60 : decode cX9_isAhead 60 = .ok (.aload_n 0, 1) := by decide +kernel
theorem dX9_isAhead_61 : decode cX9_isAhead 61 = .ok (.getfield 59, 3) := by decide +kernel
theorem dX9_isAhead_64 : decode cX9_isAhead 64 = .ok (.iload_n 2, 1) := by decide +kernel
theorem dX9_isAhead_65 : decode cX9_isAhead 65 = .ok (.iaload, 1) := by decide +kernel
theorem dX9_isAhead_66 : decode cX9_isAhead 66 = .ok (.if_icmp .ge 7, 3) := by decide +kernel
theorem dX9_isAhead_69 : decode cX9_isAhead 69 = .ok (.iconst 1, 1) := by decide +kernel
theorem dX9_isAhead_70 : decode cX9_isAhead 70 = .ok (.goto 4, 3) := by decide +kernel
theorem dX9_isAhead_73 : decode cX9_isAhead 73 = .ok (.iconst 0, 1) := by decide +kernel
theorem dX9_isAhead_74 : decode cX9_isAhead 74 = .ok (.ireturn, 1) := by decide +kernel
theorem dX9_isAhead_75 : decode cX9_isAhead 75 = .ok (.iinc 2 1, 3) := by decide +kernel
theorem dX9_isAhead_78 : decode cX9_isAhead 78 = .ok (.goto (-54), 3) := by decide +kernel
theorem dX9_isAhead_81 : decode cX9_isAhead 81 = .ok (.iconst 0, 1) := by decide +kernel
theorem dX9_isAhead_82 : decode cX9_isAhead 82 = .ok (.ireturn, 1) := by decide +kernel
set_option maxHeartbeats 4000000 in
set_option maxRecDepth 100000 in
theorem s_X9_isAhead_e (l : Launch) (D : va_G) (K : Nat → ClassId) (ad : Nat → Nat) (v ar : sI) (al : sL) (hI : YI v ar) (z_1 : Int) (hz_1 : 0 ≤ z_1 ∧ z_1 ≤ 9) : Met l yX9_isAhead (wM yX9_isAhead cX9_isAhead 3 (some .boolean)) (rmD 0) (va_Pc [.ref (ad 0), .int (iI (z_1))] (wPre D K ad (yG ad K) 21 v ar al)) (vp_Si (fun r => ∃ z : Int, (0 ≤ z ∧ z ≤ 1) ∧ r = iI z)) 0 0 (fun _ => False) := by
  refine s_metP (by decide) (Nat.le_of_ble_eq_true rfl) ?_
  intro p e s m below meth c ls args Q hE hB hl kr
  have hE : CallFix p m c cX9_isAhead 3 s args tbG "TaleCourtModel" := hE
  obtain ⟨hP, hK, hN⟩ := hB
  have hl : lv_has ls 3 [(0, .ref (ad 0)), (1, .int (iI (z_1)))] := hl
  refine lv_iload_n hE.1 hE.2.1 dX9_isAhead_0 rfl (lv_at hl 1 rfl) ?_
  refine lv_aload_n hE.1 hE.2.1 dX9_isAhead_1 rfl (lv_at hl 0 rfl) ?_
  obtain ⟨z1, hz1, ez1⟩ := YI_get hI 0 33 (-1) 9 (by decide)
  refine x_get (x := .int (v 0 33)) hE hK hP 0 (by decide) (yG_9 rfl) rfl hin9 33 (by decide) mw_1367 rfl dX9_isAhead_2 ?_
  refine x_top (y := iI (z1)) ez1 ?_
  refine s_icmp_eq (a := z_1) (b := z1) (tgt := 22) hE.1 hE.2.1 (by omega) (by omega) dX9_isAhead_5 (by decide) (fun c2 => ?_) (fun c2 => ?_)
  · skip
    refine lv_iconst (v := iI (0)) hE.1 hE.2.1 dX9_isAhead_22 (by decide) ?_
    refine lv_istore_n (lv' := [(2, .int (iI (0))), (0, .ref (ad 0)), (1, .int (iI (z_1)))]) hE.1 hE.2.1 dX9_isAhead_23 rfl hl (by decide) rfl (fun ls hl => ?_)
    have loop3 : ∀ (k3 : Nat) (y3_2 : Int) (ls : Array Slot), (9 - y3_2).toNat = k3 → (0 ≤ y3_2 ∧ y3_2 ≤ 9) → lv_has ls 3 [(2, .int (iI (y3_2))), (0, .ref (ad 0)), (1, .int (iI (z_1)))] → W p l e (rmD 0) s m args below meth c s.heap [] 0 0 Q (F0 m 24 ls []) := by
      intro k3
      induction k3 using Nat.strongRecOn with
      | _ k3 ih3 =>
        intro y3_2 ls hk3 hb_y3_2 hl
        refine lv_iload_n hE.1 hE.2.1 dX9_isAhead_24 rfl (lv_at hl 0 rfl) ?_
        refine lv_iload_n hE.1 hE.2.1 dX9_isAhead_25 rfl (lv_at hl 2 rfl) ?_
        refine s_icmp_ge (a := y3_2) (b := z_1) (tgt := 81) hE.1 hE.2.1 (by omega) (by omega) dX9_isAhead_26 (by decide) (fun c4 => ?_) (fun c4 => ?_)
        · skip
          refine lv_iconst (v := iI (0)) hE.1 hE.2.1 dX9_isAhead_81 (by decide) ?_
          exact kr _ _ _ (nar01 (by omega)) ⟨0, by omega, rfl⟩ dX9_isAhead_82
        · skip
          refine lv_aload_n hE.1 hE.2.1 dX9_isAhead_29 rfl (lv_at hl 1 rfl) ?_
          refine x_get (x := .ref (ad 12)) hE hK hP 0 (by decide) (yG_9 rfl) rfl hin9 22 (by decide) mw_1356 rfl dX9_isAhead_30 ?_
          refine lv_aload_n hE.1 hE.2.1 dX9_isAhead_33 rfl (lv_at hl 1 rfl) ?_
          obtain ⟨z5, hz5, ez5⟩ := YI_get hI 0 31 0 18 (by decide)
          refine x_get (x := .int (v 0 31)) hE hK hP 0 (by decide) (yG_9 rfl) rfl hin9 31 (by decide) mw_1365 rfl dX9_isAhead_34 ?_
          refine x_top (y := iI (z5)) ez5 ?_
          refine lv_iload_n hE.1 hE.2.1 dX9_isAhead_37 rfl (lv_at hl 0 rfl) ?_
          refine lv_iadd hE.1 hE.2.1 dX9_isAhead_38 ?_
          refine x_top (y := iI (y3_2 + z5)) ((iI_add (z5) (y3_2)).trans (congrArg iI (by omega))) ?_
          refine x_iald (j := iI (y3_2 + z5)) hE hK hP 12 (by decide) (yG_10 rfl) (iI_in (n := 60) (by omega)) dX9_isAhead_39 ?_
          obtain ⟨z7, hz7, ez7⟩ := YI_a12 hI ((iI (y3_2 + z5)).toNatClampNeg)
          refine x_top ez7 ?_
          refine lv_aload_n hE.1 hE.2.1 dX9_isAhead_40 rfl (lv_at hl 1 rfl) ?_
          refine x_get (x := .ref (ad 15)) hE hK hP 0 (by decide) (yG_9 rfl) rfl hin9 34 (by decide) mw_1368 rfl dX9_isAhead_41 ?_
          refine lv_iload_n hE.1 hE.2.1 dX9_isAhead_44 rfl (lv_at hl 0 rfl) ?_
          refine x_iald (j := iI (y3_2)) hE hK hP 15 (by decide) (yG_10 rfl) (iI_in (n := 9) (by omega)) dX9_isAhead_45 ?_
          obtain ⟨z9, hz9, ez9⟩ := iI_of (ar 15 (iI (y3_2)).toNatClampNeg)
          refine x_top ez9 ?_
          refine s_icmp_eq (a := z7) (b := z9) (tgt := 75) hE.1 hE.2.1 (by omega) (by omega) dX9_isAhead_46 (by decide) (fun c10 => ?_) (fun c10 => ?_)
          · skip
            refine lv_iinc (v := iI (y3_2 + 1)) (lv' := [(2, .int (iI (y3_2 + 1))), (0, .ref (ad 0)), (1, .int (iI (z_1)))]) hE.1 hE.2.1 dX9_isAhead_75 hl (k := 0) rfl ((iI_add (y3_2) (1)).trans (congrArg iI (by omega))) (by decide) rfl (fun ls hl => ?_)
            refine lv_goto (tgt := 24) hE.1 hE.2.1 dX9_isAhead_78 (by decide) ?_
            exact ih3 _ (by omega) (y3_2 + 1) _ rfl (by omega) (lv_sub hl [0, 1, 2] rfl)
          · skip
            refine lv_aload_n hE.1 hE.2.1 dX9_isAhead_49 rfl (lv_at hl 1 rfl) ?_
            refine x_get (x := .ref (ad 12)) hE hK hP 0 (by decide) (yG_9 rfl) rfl hin9 22 (by decide) mw_1356 rfl dX9_isAhead_50 ?_
            refine lv_aload_n hE.1 hE.2.1 dX9_isAhead_53 rfl (lv_at hl 1 rfl) ?_
            refine x_get (x := .int (v 0 31)) hE hK hP 0 (by decide) (yG_9 rfl) rfl hin9 31 (by decide) mw_1365 rfl dX9_isAhead_54 ?_
            refine x_top (y := iI (z5)) ez5 ?_
            refine lv_iload_n hE.1 hE.2.1 dX9_isAhead_57 rfl (lv_at hl 0 rfl) ?_
            refine lv_iadd hE.1 hE.2.1 dX9_isAhead_58 ?_
            refine x_top (y := iI (y3_2 + z5)) ((iI_add (z5) (y3_2)).trans (congrArg iI (by omega))) ?_
            refine x_iald (j := iI (y3_2 + z5)) hE hK hP 12 (by decide) (yG_10 rfl) (iI_in (n := 60) (by omega)) dX9_isAhead_59 ?_
            refine x_top ez7 ?_
            refine lv_aload_n hE.1 hE.2.1 dX9_isAhead_60 rfl (lv_at hl 1 rfl) ?_
            refine x_get (x := .ref (ad 15)) hE hK hP 0 (by decide) (yG_9 rfl) rfl hin9 34 (by decide) mw_1368 rfl dX9_isAhead_61 ?_
            refine lv_iload_n hE.1 hE.2.1 dX9_isAhead_64 rfl (lv_at hl 0 rfl) ?_
            refine x_iald (j := iI (y3_2)) hE hK hP 15 (by decide) (yG_10 rfl) (iI_in (n := 9) (by omega)) dX9_isAhead_65 ?_
            refine x_top ez9 ?_
            refine s_icmp_ge (a := z7) (b := z9) (tgt := 73) hE.1 hE.2.1 (by omega) (by omega) dX9_isAhead_66 (by decide) (fun c13 => ?_) (fun c13 => ?_)
            · skip
              refine lv_iconst (v := iI (0)) hE.1 hE.2.1 dX9_isAhead_73 (by decide) ?_
              exact kr _ _ _ (nar01 (by omega)) ⟨0, by omega, rfl⟩ dX9_isAhead_74
            · skip
              refine lv_iconst (v := iI (1)) hE.1 hE.2.1 dX9_isAhead_69 (by decide) ?_
              refine lv_goto (tgt := 74) hE.1 hE.2.1 dX9_isAhead_70 (by decide) ?_
              exact kr _ _ _ (nar01 (by omega)) ⟨1, by omega, rfl⟩ dX9_isAhead_74
    exact loop3 _ (0) _ rfl (by omega) hl
  · skip
    refine lv_iload_n hE.1 hE.2.1 dX9_isAhead_8 rfl (lv_at hl 1 rfl) ?_
    refine lv_aload_n hE.1 hE.2.1 dX9_isAhead_9 rfl (lv_at hl 0 rfl) ?_
    refine x_get (x := .int (v 0 33)) hE hK hP 0 (by decide) (yG_9 rfl) rfl hin9 33 (by decide) mw_1367 rfl dX9_isAhead_10 ?_
    refine x_top (y := iI (z1)) ez1 ?_
    refine s_icmp_ge (a := z_1) (b := z1) (tgt := 20) hE.1 hE.2.1 (by omega) (by omega) dX9_isAhead_13 (by decide) (fun c14 => ?_) (fun c14 => ?_)
    · skip
      refine lv_iconst (v := iI (0)) hE.1 hE.2.1 dX9_isAhead_20 (by decide) ?_
      exact kr _ _ _ (nar01 (by omega)) ⟨0, by omega, rfl⟩ dX9_isAhead_21
    · skip
      refine lv_iconst (v := iI (1)) hE.1 hE.2.1 dX9_isAhead_16 (by decide) ?_
      refine lv_goto (tgt := 21) hE.1 hE.2.1 dX9_isAhead_17 (by decide) ?_
      exact kr _ _ _ (nar01 (by omega)) ⟨1, by omega, rfl⟩ dX9_isAhead_21

theorem dX9_isFit_0 : decode cX9_isFit 0 = .ok (.iconst 0, 1) := by decide +kernel
theorem dX9_isFit_1 : decode cX9_isFit 1 = .ok (.istore_n 1, 1) := by decide +kernel
theorem dX9_isFit_2 : decode cX9_isFit 2 = .ok (.iload_n 1, 1) := by decide +kernel
theorem dX9_isFit_3 : decode cX9_isFit 3 = .ok (.aload_n 0, 1) := by decide +kernel
theorem dX9_isFit_4 : decode cX9_isFit 4 = .ok (.getfield 13, 3) := by decide +kernel
theorem dX9_isFit_7 : decode cX9_isFit 7 = .ok (.aload_n 0, 1) := by decide +kernel
theorem dX9_isFit_8 : decode cX9_isFit 8 = .ok (.getfield 331, 3) := by decide +kernel
theorem dX9_isFit_11 : decode cX9_isFit 11 = .ok (.iaload, 1) := by decide +kernel
theorem dX9_isFit_12 : decode cX9_isFit 12 = .ok (.if_icmp .ge 70, 3) := by decide +kernel
theorem dX9_isFit_15 : decode cX9_isFit 15 = .ok (.aload_n 0, 1) := by decide +kernel
theorem dX9_isFit_16 : decode cX9_isFit 16 = .ok (.aload_n 0, 1) := by decide +kernel
theorem dX9_isFit_17 : decode cX9_isFit 17 = .ok (.getfield 331, 3) := by decide +kernel
theorem dX9_isFit_20 : decode cX9_isFit 20 = .ok (.iload_n 1, 1) := by decide +kernel
theorem dX9_isFit_21 : decode cX9_isFit 21 = .ok (.invokevirtual 424, 3) := by decide +kernel
theorem dX9_isFit_24 : decode cX9_isFit 24 = .ok (.istore_n 2, 1) := by decide +kernel
theorem dX9_isFit_25 : decode cX9_isFit 25 = .ok (.aload_n 0, 1) := by decide +kernel
theorem dX9_isFit_26 : decode cX9_isFit 26 = .ok (.aload_n 0, 1) := by decide +kernel
theorem dX9_isFit_27 : decode cX9_isFit 27 = .ok (.getfield 331, 3) := by decide +kernel
theorem dX9_isFit_30 : decode cX9_isFit 30 = .ok (.iload_n 1, 1) := by decide +kernel
theorem dX9_isFit_31 : decode cX9_isFit 31 = .ok (.iconst 1, 1) := by decide +kernel
theorem dX9_isFit_32 : decode cX9_isFit 32 = .ok (.iadd, 1) := by decide +kernel
theorem dX9_isFit_33 : decode cX9_isFit 33 = .ok (.invokevirtual 424, 3) := by decide +kernel
theorem dX9_isFit_36 : decode cX9_isFit 36 = .ok (.istore_n 3, 1) := by decide +kernel
theorem dX9_isFit_37 : decode cX9_isFit 37 = .ok (.aload_n 0, 1) := by decide +kernel
theorem dX9_isFit_38 : decode cX9_isFit 38 = .ok (.getfield 268, 3) := by decide +kernel
theorem dX9_isFit_41 : decode cX9_isFit 41 = .ok (.iload_n 2, 1) := by decide +kernel
theorem dX9_isFit_42 : decode cX9_isFit 42 = .ok (.invokestatic 261, 3) := by decide +kernel
theorem dX9_isFit_45 : decode cX9_isFit 45 = .ok (.ifCond .eq 29, 3) := by decide +kernel
theorem dX9_isFit_48 : decode cX9_isFit 48 = .ok (.aload_n 0, 1) := by decide +kernel
theorem dX9_isFit_49 : decode cX9_isFit 49 = .ok (.getfield 268, 3) := by decide +kernel
theorem dX9_isFit_52 : decode cX9_isFit 52 = .ok (.iload_n 3, 1) := by decide +kernel
theorem dX9_isFit_53 : decode cX9_isFit 53 = .ok (.invokestatic 261, 3) := by decide +kernel
theorem dX9_isFit_56 : decode cX9_isFit 56 = .ok (.ifCond .eq 18, 3) := by decide +kernel
theorem dX9_isFit_59 : decode cX9_isFit 59 = .ok (.aload_n 0, 1) := by decide +kernel
theorem dX9_isFit_60 : decode cX9_isFit 60 = .ok (.getfield 53, 3) := by decide +kernel
theorem dX9_isFit_63 : decode cX9_isFit 63 = .ok (.iload_n 2, 1) := by decide +kernel
theorem dX9_isFit_64 : decode cX9_isFit 64 = .ok (.iaload, 1) := by decide +kernel
theorem dX9_isFit_65 : decode cX9_isFit 65 = .ok (.aload_n 0, 1) := by decide +kernel
theorem dX9_isFit_66 : decode cX9_isFit 66 = .ok (.getfield 53, 3) := by decide +kernel
theorem dX9_isFit_69 : decode cX9_isFit 69 = .ok (.iload_n 3, 1) := by decide +kernel
theorem dX9_isFit_70 : decode cX9_isFit 70 = .ok (.iaload, 1) := by decide +kernel
theorem dX9_isFit_71 : decode cX9_isFit 71 = .ok (.if_icmp .le 5, 3) := by decide +kernel
theorem dX9_isFit_74 : decode cX9_isFit 74 = .ok (.iconst 0, 1) := by decide +kernel
theorem dX9_isFit_75 : decode cX9_isFit 75 = .ok (.ireturn, 1) := by decide +kernel
theorem dX9_isFit_76 : decode cX9_isFit 76 = .ok (.iinc 1 2, 3) := by decide +kernel
theorem dX9_isFit_79 : decode cX9_isFit 79 = .ok (.goto (-77), 3) := by decide +kernel
theorem dX9_isFit_82 : decode cX9_isFit 82 = .ok (.iconst 1, 1) := by decide +kernel
theorem dX9_isFit_83 : decode cX9_isFit 83 = .ok (.ireturn, 1) := by decide +kernel
set_option maxHeartbeats 4000000 in
set_option maxRecDepth 100000 in
theorem s_X9_isFit_e (l : Launch) (D : va_G) (K : Nat → ClassId) (ad : Nat → Nat) (v ar : sI) (al : sL) (hI : YI v ar) (w_1 : Int) (hw_1 : 0 ≤ w_1 ∧ w_1 ≤ 3) (ew_1 : v 0 41 = iI w_1) (w_2 : Int) (hw_2 : 0 ≤ w_2 ∧ w_2 ≤ 511) (ew_2 : v 0 25 = iI w_2) (hms : MSv w_1 (ar 2) (al 3)) (hev : rm (ar 2 (iI w_1).toNatClampNeg).toInt 2 = 0) : Met l yX9_isFit (wM yX9_isFit cX9_isFit 4 (some .boolean)) (rmD 1) (va_Pc [.ref (ad 0)] (wPre D K ad (yG ad K) 21 v ar al)) (vp_Si (fun r => ∃ z : Int, (0 ≤ z ∧ z ≤ 1) ∧ r = iI z)) 0 0 (fun _ => False) := by
  refine s_metP (by decide) (Nat.le_of_ble_eq_true rfl) ?_
  intro p e s m below meth c ls args Q hE hB hl kr
  have hE : CallFix p m c cX9_isFit 4 s args tbG "TaleCourtModel" := hE
  obtain ⟨hP, hK, hN⟩ := hB
  have hl : lv_has ls 4 [(0, .ref (ad 0))] := hl
  refine lv_iconst (v := iI (0)) hE.1 hE.2.1 dX9_isFit_0 (by decide) ?_
  refine lv_istore_n (lv' := [(1, .int (iI (0))), (0, .ref (ad 0))]) hE.1 hE.2.1 dX9_isFit_1 rfl hl (by decide) rfl (fun ls hl => ?_)
  have loop1 : ∀ (k1 : Nat) (y1_1 : Int) (ls : Array Slot), (60 - y1_1).toNat = k1 → (0 ≤ y1_1 ∧ y1_1 ≤ 62 ∧ y1_1 % 2 = 0) → lv_has ls 4 [(1, .int (iI (y1_1))), (0, .ref (ad 0))] → W p l e (rmD 1) s m args below meth c s.heap [] 0 0 Q (F0 m 2 ls []) := by
    intro k1
    induction k1 using Nat.strongRecOn with
    | _ k1 ih1 =>
      intro y1_1 ls hk1 hb_y1_1 hl
      refine lv_iload_n hE.1 hE.2.1 dX9_isFit_2 rfl (lv_at hl 0 rfl) ?_
      refine lv_aload_n hE.1 hE.2.1 dX9_isFit_3 rfl (lv_at hl 1 rfl) ?_
      refine x_get (x := .ref (ad 2)) hE hK hP 0 (by decide) (yG_9 rfl) rfl hin9 2 (by decide) mw_1336 rfl dX9_isFit_4 ?_
      refine lv_aload_n hE.1 hE.2.1 dX9_isFit_7 rfl (lv_at hl 1 rfl) ?_
      refine x_get (x := .int (v 0 41)) hE hK hP 0 (by decide) (yG_9 rfl) rfl hin9 41 (by decide) mw_1375 rfl dX9_isFit_8 ?_
      refine x_top (y := iI (w_1)) ew_1 ?_
      refine x_iald (j := iI (w_1)) hE hK hP 2 (by decide) (yG_10 rfl) (iI_in (n := 4) (by omega)) dX9_isFit_11 ?_
      obtain ⟨z3, hz3, ez3⟩ := YI_a2 hI ((iI (w_1)).toNatClampNeg)
      refine x_top ez3 ?_
      refine s_icmp_ge (a := y1_1) (b := z3) (tgt := 82) hE.1 hE.2.1 (by omega) (by omega) dX9_isFit_12 (by decide) (fun c4 => ?_) (fun c4 => ?_)
      · skip
        refine lv_iconst (v := iI (1)) hE.1 hE.2.1 dX9_isFit_82 (by decide) ?_
        exact kr _ _ _ (nar01 (by omega)) ⟨1, by omega, rfl⟩ dX9_isFit_83
      · skip
        refine lv_aload_n hE.1 hE.2.1 dX9_isFit_15 rfl (lv_at hl 1 rfl) ?_
        refine lv_aload_n hE.1 hE.2.1 dX9_isFit_16 rfl (lv_at hl 1 rfl) ?_
        refine x_get (x := .int (v 0 41)) hE hK hP 0 (by decide) (yG_9 rfl) rfl hin9 41 (by decide) mw_1375 rfl dX9_isFit_17 ?_
        refine x_top (y := iI (w_1)) ew_1 ?_
        refine lv_iload_n hE.1 hE.2.1 dX9_isFit_20 rfl (lv_at hl 0 rfl) ?_
        have hev2 : z3 % 2 = 0 := rm_2 hev ez3 (by omega)
        obtain ⟨g5, hg5, eg5⟩ := MSv_get (k := 60 * (w_1) + (y1_1)) (y := y1_1) hms ez3 (by omega) (by omega) rfl
        refine x_vp (nn := 2) (As := [.int (iI (w_1)), .int (iI (y1_1))]) (rest := []) hE (s_X9_cellOf_e l D K ad v ar al hI  (w_1) (by omega) (y1_1) (by omega) (g5) (by omega) eg5) wPre_blind (wPre_now hK hN hP) (x_recv hK hP 0 (by decide) (yG_9 rfl) rfl) rfl mw_1814 mw_1816 mw_89 mw_123 mw_1817 (by decide +kernel) ⟨by decide, by decide⟩ hl.1 rfl (Nat.le_of_ble_eq_true rfl) ⟨Nat.zero_le _, Nat.zero_le _⟩ dX9_isFit_21 (fun r6 hr6 => ?_)
        obtain ⟨z6, hz6, rfl⟩ := hr6
        refine lv_istore_n (lv' := [(2, .int (iI (z6))), (1, .int (iI (y1_1))), (0, .ref (ad 0))]) hE.1 hE.2.1 dX9_isFit_24 rfl hl (by decide) rfl (fun ls hl => ?_)
        refine lv_aload_n hE.1 hE.2.1 dX9_isFit_25 rfl (lv_at hl 2 rfl) ?_
        refine lv_aload_n hE.1 hE.2.1 dX9_isFit_26 rfl (lv_at hl 2 rfl) ?_
        refine x_get (x := .int (v 0 41)) hE hK hP 0 (by decide) (yG_9 rfl) rfl hin9 41 (by decide) mw_1375 rfl dX9_isFit_27 ?_
        refine x_top (y := iI (w_1)) ew_1 ?_
        refine lv_iload_n hE.1 hE.2.1 dX9_isFit_30 rfl (lv_at hl 1 rfl) ?_
        refine lv_iconst (v := iI (1)) hE.1 hE.2.1 dX9_isFit_31 (by decide) ?_
        refine lv_iadd hE.1 hE.2.1 dX9_isFit_32 ?_
        refine x_top (y := iI (y1_1 + 1)) ((iI_add (y1_1) (1)).trans (congrArg iI (by omega))) ?_
        obtain ⟨g7, hg7, eg7⟩ := MSv_get (k := 60 * (w_1) + (y1_1 + 1)) (y := y1_1 + 1) hms ez3 (by omega) (by omega) rfl
        refine x_vp (nn := 2) (As := [.int (iI (w_1)), .int (iI (y1_1 + 1))]) (rest := []) hE (s_X9_cellOf_e l D K ad v ar al hI  (w_1) (by omega) (y1_1 + 1) (by omega) (g7) (by omega) eg7) wPre_blind (wPre_now hK hN hP) (x_recv hK hP 0 (by decide) (yG_9 rfl) rfl) rfl mw_1814 mw_1816 mw_89 mw_123 mw_1817 (by decide +kernel) ⟨by decide, by decide⟩ hl.1 rfl (Nat.le_of_ble_eq_true rfl) ⟨Nat.zero_le _, Nat.zero_le _⟩ dX9_isFit_33 (fun r8 hr8 => ?_)
        obtain ⟨z8, hz8, rfl⟩ := hr8
        refine lv_istore_n (lv' := [(3, .int (iI (z8))), (2, .int (iI (z6))), (1, .int (iI (y1_1))), (0, .ref (ad 0))]) hE.1 hE.2.1 dX9_isFit_36 rfl hl (by decide) rfl (fun ls hl => ?_)
        refine lv_aload_n hE.1 hE.2.1 dX9_isFit_37 rfl (lv_at hl 3 rfl) ?_
        refine x_get (x := .int (v 0 25)) hE hK hP 0 (by decide) (yG_9 rfl) rfl hin9 25 (by decide) mw_1359 rfl dX9_isFit_38 ?_
        refine x_top (y := iI (w_2)) ew_2 ?_
        refine lv_iload_n hE.1 hE.2.1 dX9_isFit_41 rfl (lv_at hl 1 rfl) ?_
        refine x_sp (nn := 2) (As := [.int (iI (w_2)), .int (iI (z6))]) (rest := []) hE (s_X9_isBit_e l (w_2) (by omega) (z6) (by omega)) tt_blind (fun _ _ _ => trivial) rfl mw_1683 mw_1684 mw_123 mw_1685 (by decide +kernel) ⟨by decide, by decide⟩ hl.1 rfl (Nat.le_of_ble_eq_true rfl) ⟨Nat.zero_le _, Nat.zero_le _⟩ dX9_isFit_42 (fun r9 hr9 => ?_)
        obtain ⟨z9, hz9, rfl⟩ := hr9
        refine s_if_eq (a := z9) (tgt := 74) hE.1 hE.2.1 (by omega) dX9_isFit_45 (by decide) (fun c10 => ?_) (fun c10 => ?_)
        · skip
          refine lv_iconst (v := iI (0)) hE.1 hE.2.1 dX9_isFit_74 (by decide) ?_
          exact kr _ _ _ (nar01 (by omega)) ⟨0, by omega, rfl⟩ dX9_isFit_75
        · skip
          refine lv_aload_n hE.1 hE.2.1 dX9_isFit_48 rfl (lv_at hl 3 rfl) ?_
          refine x_get (x := .int (v 0 25)) hE hK hP 0 (by decide) (yG_9 rfl) rfl hin9 25 (by decide) mw_1359 rfl dX9_isFit_49 ?_
          refine x_top (y := iI (w_2)) ew_2 ?_
          refine lv_iload_n hE.1 hE.2.1 dX9_isFit_52 rfl (lv_at hl 0 rfl) ?_
          refine x_sp (nn := 2) (As := [.int (iI (w_2)), .int (iI (z8))]) (rest := []) hE (s_X9_isBit_e l (w_2) (by omega) (z8) (by omega)) tt_blind (fun _ _ _ => trivial) rfl mw_1683 mw_1684 mw_123 mw_1685 (by decide +kernel) ⟨by decide, by decide⟩ hl.1 rfl (Nat.le_of_ble_eq_true rfl) ⟨Nat.zero_le _, Nat.zero_le _⟩ dX9_isFit_53 (fun r11 hr11 => ?_)
          obtain ⟨z11, hz11, rfl⟩ := hr11
          refine s_if_eq (a := z11) (tgt := 74) hE.1 hE.2.1 (by omega) dX9_isFit_56 (by decide) (fun c12 => ?_) (fun c12 => ?_)
          · skip
            refine lv_iconst (v := iI (0)) hE.1 hE.2.1 dX9_isFit_74 (by decide) ?_
            exact kr _ _ _ (nar01 (by omega)) ⟨0, by omega, rfl⟩ dX9_isFit_75
          · skip
            refine lv_aload_n hE.1 hE.2.1 dX9_isFit_59 rfl (lv_at hl 3 rfl) ?_
            refine x_get (x := .ref (ad 13)) hE hK hP 0 (by decide) (yG_9 rfl) rfl hin9 23 (by decide) mw_1357 rfl dX9_isFit_60 ?_
            refine lv_iload_n hE.1 hE.2.1 dX9_isFit_63 rfl (lv_at hl 1 rfl) ?_
            refine x_iald (j := iI (z6)) hE hK hP 13 (by decide) (yG_10 rfl) (iI_in (n := 9) (by omega)) dX9_isFit_64 ?_
            obtain ⟨z14, hz14, ez14⟩ := iI_of (ar 13 (iI (z6)).toNatClampNeg)
            refine x_top ez14 ?_
            refine lv_aload_n hE.1 hE.2.1 dX9_isFit_65 rfl (lv_at hl 3 rfl) ?_
            refine x_get (x := .ref (ad 13)) hE hK hP 0 (by decide) (yG_9 rfl) rfl hin9 23 (by decide) mw_1357 rfl dX9_isFit_66 ?_
            refine lv_iload_n hE.1 hE.2.1 dX9_isFit_69 rfl (lv_at hl 0 rfl) ?_
            refine x_iald (j := iI (z8)) hE hK hP 13 (by decide) (yG_10 rfl) (iI_in (n := 9) (by omega)) dX9_isFit_70 ?_
            obtain ⟨z16, hz16, ez16⟩ := iI_of (ar 13 (iI (z8)).toNatClampNeg)
            refine x_top ez16 ?_
            refine s_icmp_le (a := z14) (b := z16) (tgt := 76) hE.1 hE.2.1 (by omega) (by omega) dX9_isFit_71 (by decide) (fun c17 => ?_) (fun c17 => ?_)
            · skip
              refine lv_iinc (v := iI (y1_1 + 2)) (lv' := [(1, .int (iI (y1_1 + 2))), (3, .int (iI (z8))), (2, .int (iI (z6))), (0, .ref (ad 0))]) hE.1 hE.2.1 dX9_isFit_76 hl (k := 2) rfl ((iI_add (y1_1) (2)).trans (congrArg iI (by omega))) (by decide) rfl (fun ls hl => ?_)
              refine lv_goto (tgt := 2) hE.1 hE.2.1 dX9_isFit_79 (by decide) ?_
              exact ih1 _ (by omega) (y1_1 + 2) _ rfl (by omega) (lv_sub hl [0, 3] rfl)
            · skip
              refine lv_iconst (v := iI (0)) hE.1 hE.2.1 dX9_isFit_74 (by decide) ?_
              exact kr _ _ _ (nar01 (by omega)) ⟨0, by omega, rfl⟩ dX9_isFit_75
  exact loop1 _ (0) _ rfl (by omega) hl

theorem dX9_meets_0 : decode cX9_meets 0 = .ok (.aload_n 0, 1) := by decide +kernel
theorem dX9_meets_1 : decode cX9_meets 1 = .ok (.getfield 265, 3) := by decide +kernel
theorem dX9_meets_4 : decode cX9_meets 4 = .ok (.aload_n 0, 1) := by decide +kernel
theorem dX9_meets_5 : decode cX9_meets 5 = .ok (.getfield 316, 3) := by decide +kernel
theorem dX9_meets_8 : decode cX9_meets 8 = .ok (.isub, 1) := by decide +kernel
theorem dX9_meets_9 : decode cX9_meets 9 = .ok (.istore_n 1, 1) := by decide +kernel
theorem dX9_meets_10 : decode cX9_meets 10 = .ok (.aload_n 0, 1) := by decide +kernel
theorem dX9_meets_11 : decode cX9_meets 11 = .ok (.getfield 62, 3) := by decide +kernel
theorem dX9_meets_14 : decode cX9_meets 14 = .ok (.iload_n 1, 1) := by decide +kernel
theorem dX9_meets_15 : decode cX9_meets 15 = .ok (.dup2, 1) := by decide +kernel
theorem dX9_meets_16 : decode cX9_meets 16 = .ok (.iaload, 1) := by decide +kernel
theorem dX9_meets_17 : decode cX9_meets 17 = .ok (.iconst 1, 1) := by decide +kernel
theorem dX9_meets_18 : decode cX9_meets 18 = .ok (.iadd, 1) := by decide +kernel
theorem dX9_meets_19 : decode cX9_meets 19 = .ok (.iastore, 1) := by decide +kernel
theorem dX9_meets_20 : decode cX9_meets 20 = .ok (.aload_n 0, 1) := by decide +kernel
theorem dX9_meets_21 : decode cX9_meets 21 = .ok (.invokevirtual 310, 3) := by decide +kernel
theorem dX9_meets_24 : decode cX9_meets 24 = .ok (.istore_n 2, 1) := by decide +kernel
theorem dX9_meets_25 : decode cX9_meets 25 = .ok (.iload_n 2, 1) := by decide +kernel
theorem dX9_meets_26 : decode cX9_meets 26 = .ok (.ifCond .eq 81, 3) := by decide +kernel
theorem dX9_meets_29 : decode cX9_meets 29 = .ok (.aload_n 0, 1) := by decide +kernel
theorem dX9_meets_30 : decode cX9_meets 30 = .ok (.dup, 1) := by decide +kernel
theorem dX9_meets_31 : decode cX9_meets 31 = .ok (.getfield 319, 3) := by decide +kernel
theorem dX9_meets_34 : decode cX9_meets 34 = .ok (.iconst 1, 1) := by decide +kernel
theorem dX9_meets_35 : decode cX9_meets 35 = .ok (.iadd, 1) := by decide +kernel
theorem dX9_meets_36 : decode cX9_meets 36 = .ok (.putfield 319, 3) := by decide +kernel
theorem dX9_meets_39 : decode cX9_meets 39 = .ok (.aload_n 0, 1) := by decide +kernel
theorem dX9_meets_40 : decode cX9_meets 40 = .ok (.getfield 65, 3) := by decide +kernel
theorem dX9_meets_43 : decode cX9_meets 43 = .ok (.aload_n 0, 1) := by decide +kernel
theorem dX9_meets_44 : decode cX9_meets 44 = .ok (.getfield 277, 3) := by decide +kernel
theorem dX9_meets_47 : decode cX9_meets 47 = .ok (.dup2, 1) := by decide +kernel
theorem dX9_meets_48 : decode cX9_meets 48 = .ok (.iaload, 1) := by decide +kernel
theorem dX9_meets_49 : decode cX9_meets 49 = .ok (.iconst 1, 1) := by decide +kernel
theorem dX9_meets_50 : decode cX9_meets 50 = .ok (.iadd, 1) := by decide +kernel
theorem dX9_meets_51 : decode cX9_meets 51 = .ok (.iastore, 1) := by decide +kernel
theorem dX9_meets_52 : decode cX9_meets 52 = .ok (.aload_n 0, 1) := by decide +kernel
theorem dX9_meets_53 : decode cX9_meets 53 = .ok (.dup, 1) := by decide +kernel
theorem dX9_meets_54 : decode cX9_meets 54 = .ok (.getfield 322, 3) := by decide +kernel
theorem dX9_meets_57 : decode cX9_meets 57 = .ok (.aload_n 0, 1) := by decide +kernel
theorem dX9_meets_58 : decode cX9_meets 58 = .ok (.getfield 268, 3) := by decide +kernel
theorem dX9_meets_61 : decode cX9_meets 61 = .ok (.iand, 1) := by decide +kernel
theorem dX9_meets_62 : decode cX9_meets 62 = .ok (.putfield 322, 3) := by decide +kernel
theorem dX9_meets_65 : decode cX9_meets 65 = .ok (.aload_n 0, 1) := by decide +kernel
theorem dX9_meets_66 : decode cX9_meets 66 = .ok (.dup, 1) := by decide +kernel
theorem dX9_meets_67 : decode cX9_meets 67 = .ok (.getfield 325, 3) := by decide +kernel
theorem dX9_meets_70 : decode cX9_meets 70 = .ok (.aload_n 0, 1) := by decide +kernel
theorem dX9_meets_71 : decode cX9_meets 71 = .ok (.getfield 268, 3) := by decide +kernel
theorem dX9_meets_74 : decode cX9_meets 74 = .ok (.ior, 1) := by decide +kernel
theorem dX9_meets_75 : decode cX9_meets 75 = .ok (.putfield 325, 3) := by decide +kernel
theorem dX9_meets_78 : decode cX9_meets 78 = .ok (.aload_n 0, 1) := by decide +kernel
theorem dX9_meets_79 : decode cX9_meets 79 = .ok (.dup, 1) := by decide +kernel
theorem dX9_meets_80 : decode cX9_meets 80 = .ok (.getfield 328, 3) := by decide +kernel
theorem dX9_meets_83 : decode cX9_meets 83 = .ok (.aload_n 0, 1) := by decide +kernel
theorem dX9_meets_84 : decode cX9_meets 84 = .ok (.getfield 331, 3) := by decide +kernel
theorem dX9_meets_87 : decode cX9_meets 87 = .ok (.iconst (-1), 1) := by decide +kernel
theorem dX9_meets_88 : decode cX9_meets 88 = .ok (.if_icmp .eq 14, 3) := by decide +kernel
theorem dX9_meets_91 : decode cX9_meets 91 = .ok (.aload_n 0, 1) := by decide +kernel
theorem dX9_meets_92 : decode cX9_meets 92 = .ok (.invokevirtual 334, 3) := by decide +kernel
theorem dX9_meets_95 : decode cX9_meets 95 = .ok (.ifCond .eq 7, 3) := by decide +kernel
theorem dX9_meets_98 : decode cX9_meets 98 = .ok (.iconst 1, 1) := by decide +kernel
theorem dX9_meets_99 : decode cX9_meets 99 = .ok (.goto 4, 3) := by decide +kernel
theorem dX9_meets_102 : decode cX9_meets 102 = .ok (.iconst 0, 1) := by decide +kernel
theorem dX9_meets_103 : decode cX9_meets 103 = .ok (.iadd, 1) := by decide +kernel
theorem dX9_meets_104 : decode cX9_meets 104 = .ok (.putfield 328, 3) := by decide +kernel
theorem dX9_meets_107 : decode cX9_meets 107 = .ok (.aload_n 0, 1) := by decide +kernel
theorem dX9_meets_108 : decode cX9_meets 108 = .ok (.getfield 337, 3) := by decide +kernel
theorem dX9_meets_111 : decode cX9_meets 111 = .ok (.ifCond .eq 7, 3) := by decide +kernel
theorem dX9_meets_114 : decode cX9_meets 114 = .ok (.iload_n 2, 1) := by decide +kernel
theorem dX9_meets_115 : decode cX9_meets 115 = .ok (.ifCond .eq 22, 3) := by decide +kernel
theorem dX9_meets_118 : decode cX9_meets 118 = .ok (.aload_n 0, 1) := by decide +kernel
theorem dX9_meets_119 : decode cX9_meets 119 = .ok (.getfield 337, 3) := by decide +kernel
theorem dX9_meets_122 : decode cX9_meets 122 = .ok (.iconst 3, 1) := by decide +kernel
theorem dX9_meets_123 : decode cX9_meets 123 = .ok (.if_icmp .ne 15, 3) := by decide +kernel
theorem dX9_meets_126 : decode cX9_meets 126 = .ok (.aload_n 0, 1) := by decide +kernel
theorem dX9_meets_127 : decode cX9_meets 127 = .ok (.getfield 271, 3) := by decide +kernel
theorem dX9_meets_130 : decode cX9_meets 130 = .ok (.aload_n 0, 1) := by decide +kernel
theorem dX9_meets_131 : decode cX9_meets 131 = .ok (.getfield 340, 3) := by decide +kernel
theorem dX9_meets_134 : decode cX9_meets 134 = .ok (.if_icmp .ge 4, 3) := by decide +kernel
theorem dX9_meets_137 : decode cX9_meets 137 = .ok (.return_, 1) := by decide +kernel
theorem dX9_meets_138 : decode cX9_meets 138 = .ok (.aload_n 0, 1) := by decide +kernel
theorem dX9_meets_139 : decode cX9_meets 139 = .ok (.getfield 337, 3) := by decide +kernel
theorem dX9_meets_142 : decode cX9_meets 142 = .ok (.iconst 2, 1) := by decide +kernel
theorem dX9_meets_143 : decode cX9_meets 143 = .ok (.if_icmp .ne 10, 3) := by decide +kernel
theorem dX9_meets_146 : decode cX9_meets 146 = .ok (.aload_n 0, 1) := by decide +kernel
theorem dX9_meets_147 : decode cX9_meets 147 = .ok (.getfield 271, 3) := by decide +kernel
theorem dX9_meets_150 : decode cX9_meets 150 = .ok (.goto 17, 3) := by decide +kernel
theorem dX9_meets_153 : decode cX9_meets 153 = .ok (.aload_n 0, 1) := by decide +kernel
theorem dX9_meets_154 : decode cX9_meets 154 = .ok (.getfield 337, 3) := by decide +kernel
theorem dX9_meets_157 : decode cX9_meets 157 = .ok (.iconst 3, 1) := by decide +kernel
theorem dX9_meets_158 : decode cX9_meets 158 = .ok (.if_icmp .ne 8, 3) := by decide +kernel
theorem dX9_meets_161 : decode cX9_meets 161 = .ok (.iload_n 1, 1) := by decide +kernel
theorem dX9_meets_162 : decode cX9_meets 162 = .ok (.ineg, 1) := by decide +kernel
theorem dX9_meets_163 : decode cX9_meets 163 = .ok (.goto 4, 3) := by decide +kernel
theorem dX9_meets_166 : decode cX9_meets 166 = .ok (.iload_n 1, 1) := by decide +kernel
theorem dX9_meets_167 : decode cX9_meets 167 = .ok (.istore_n 3, 1) := by decide +kernel
theorem dX9_meets_168 : decode cX9_meets 168 = .ok (.aload_n 0, 1) := by decide +kernel
theorem dX9_meets_169 : decode cX9_meets 169 = .ok (.getfield 343, 3) := by decide +kernel
theorem dX9_meets_172 : decode cX9_meets 172 = .ok (.iconst (-1), 1) := by decide +kernel
theorem dX9_meets_173 : decode cX9_meets 173 = .ok (.if_icmp .eq 28, 3) := by decide +kernel
theorem dX9_meets_176 : decode cX9_meets 176 = .ok (.iload_n 3, 1) := by decide +kernel
theorem dX9_meets_177 : decode cX9_meets 177 = .ok (.aload_n 0, 1) := by decide +kernel
theorem dX9_meets_178 : decode cX9_meets 178 = .ok (.getfield 346, 3) := by decide +kernel
theorem dX9_meets_181 : decode cX9_meets 181 = .ok (.if_icmp .lt 19, 3) := by decide +kernel
theorem dX9_meets_184 : decode cX9_meets 184 = .ok (.iload_n 3, 1) := by decide +kernel
theorem dX9_meets_185 : decode cX9_meets 185 = .ok (.aload_n 0, 1) := by decide +kernel
theorem dX9_meets_186 : decode cX9_meets 186 = .ok (.getfield 346, 3) := by decide +kernel
theorem dX9_meets_189 : decode cX9_meets 189 = .ok (.if_icmp .ne 12, 3) := by decide +kernel
theorem dX9_meets_192 : decode cX9_meets 192 = .ok (.aload_n 0, 1) := by decide +kernel
theorem dX9_meets_193 : decode cX9_meets 193 = .ok (.iload_n 1, 1) := by decide +kernel
theorem dX9_meets_194 : decode cX9_meets 194 = .ok (.invokevirtual 349, 3) := by decide +kernel
theorem dX9_meets_197 : decode cX9_meets 197 = .ok (.ifCond .ne 4, 3) := by decide +kernel
theorem dX9_meets_200 : decode cX9_meets 200 = .ok (.return_, 1) := by decide +kernel
theorem dX9_meets_201 : decode cX9_meets 201 = .ok (.aload_n 0, 1) := by decide +kernel
theorem dX9_meets_202 : decode cX9_meets 202 = .ok (.iload_n 3, 1) := by decide +kernel
theorem dX9_meets_203 : decode cX9_meets 203 = .ok (.putfield 346, 3) := by decide +kernel
theorem dX9_meets_206 : decode cX9_meets 206 = .ok (.aload_n 0, 1) := by decide +kernel
theorem dX9_meets_207 : decode cX9_meets 207 = .ok (.iload_n 1, 1) := by decide +kernel
theorem dX9_meets_208 : decode cX9_meets 208 = .ok (.putfield 343, 3) := by decide +kernel
theorem dX9_meets_211 : decode cX9_meets 211 = .ok (.iconst 0, 1) := by decide +kernel
theorem dX9_meets_212 : decode cX9_meets 212 = .ok (.istore 4, 2) := by decide +kernel
theorem dX9_meets_214 : decode cX9_meets 214 = .ok (.iload 4, 2) := by decide +kernel
theorem dX9_meets_216 : decode cX9_meets 216 = .ok (.iload_n 1, 1) := by decide +kernel
theorem dX9_meets_217 : decode cX9_meets 217 = .ok (.if_icmp .ge 28, 3) := by decide +kernel
theorem dX9_meets_220 : decode cX9_meets 220 = .ok (.aload_n 0, 1) := by decide +kernel
theorem dX9_meets_221 : decode cX9_meets 221 = .ok (.getfield 59, 3) := by decide +kernel
theorem dX9_meets_224 : decode cX9_meets 224 = .ok (.iload 4, 2) := by decide +kernel
theorem dX9_meets_226 : decode cX9_meets 226 = .ok (.aload_n 0, 1) := by decide +kernel
theorem dX9_meets_227 : decode cX9_meets 227 = .ok (.getfield 50, 3) := by decide +kernel
theorem dX9_meets_230 : decode cX9_meets 230 = .ok (.aload_n 0, 1) := by decide +kernel
theorem dX9_meets_231 : decode cX9_meets 231 = .ok (.getfield 316, 3) := by decide +kernel
theorem dX9_meets_234 : decode cX9_meets 234 = .ok (.iload 4, 2) := by decide +kernel
theorem dX9_meets_236 : decode cX9_meets 236 = .ok (.iadd, 1) := by decide +kernel
theorem dX9_meets_237 : decode cX9_meets 237 = .ok (.iaload, 1) := by decide +kernel
theorem dX9_meets_238 : decode cX9_meets 238 = .ok (.iastore, 1) := by decide +kernel
theorem dX9_meets_239 : decode cX9_meets 239 = .ok (.iinc 4 1, 3) := by decide +kernel
theorem dX9_meets_242 : decode cX9_meets 242 = .ok (.goto (-28), 3) := by decide +kernel
theorem dX9_meets_245 : decode cX9_meets 245 = .ok (.return_, 1) := by decide +kernel
set_option maxHeartbeats 4000000 in
set_option maxRecDepth 100000 in
theorem s_X9_meets_e (l : Launch) (D : va_G) (K : Nat → ClassId) (ad : Nat → Nat) (v ar : sI) (al : sL) (hI : YI v ar) (w_1 : Int) (hw_1 : 0 ≤ w_1 ∧ w_1 ≤ 60) (ew_1 : v 0 24 = iI w_1) (w_2 : Int) (hw_2 : 0 ≤ w_2 ∧ w_2 ≤ 511) (ew_2 : v 0 25 = iI w_2) (w_3 : Int) (hw_3 : -1 ≤ w_3 ∧ w_3 ≤ 8) (ew_3 : v 0 26 = iI w_3) (w_4 : Int) (hw_4 : 0 ≤ w_4 ∧ w_4 ≤ 18) (ew_4 : v 0 31 = iI w_4) (w_5 : Int) (hw_5 : -1 ≤ w_5 ∧ w_5 ≤ 3) (ew_5 : v 0 41 = iI w_5) (hyp : (w_2 = 0 ∨ 0 ≤ w_3) ∧ w_4 ≤ w_1 ∧ w_1 - w_4 ≤ 9) (hft : FTv w_5 (ar 2) (al 3)) : Met l yX9_meets (wM yX9_meets cX9_meets 5 none) (rmD 3) (va_Pc [.ref (ad 0)] (wPre D K ad (yG ad K) 21 v ar al)) (va_Qv (fun u : sT => YI u.1 u.2.1 ∧ (∀ i j : Nat, (i, j) ∉ ([(0, 32), (0, 33), (0, 37), (0, 38), (0, 39), (0, 40)] : List (Nat × Nat)) → u.1 i j = v i j) ∧ (∀ i : Nat, i ∉ ([15, 16, 17] : List Nat) → u.2.1 i = ar i) ∧ (∀ i : Nat, i ∉ ([] : List Nat) → u.2.2 i = al i)) (wB D ad (yG ad K) 21) (inW ad 21)) 0 0 (inW ad 21) := by
  refine s_metV (by decide) (Nat.le_of_ble_eq_true rfl) ?_
  intro p e s m below meth c ls args Q hE hB hl kr
  have hE : CallFix p m c cX9_meets 5 s args tbG "TaleCourtModel" := hE
  obtain ⟨hP, hK, hN⟩ := hB
  have hS : va_S (inW ad 21) s.heap s.heap [] := va_S.rf
  have hl : lv_has ls 5 [(0, .ref (ad 0))] := hl
  refine lv_aload_n hE.1 hE.2.1 dX9_meets_0 rfl (lv_at hl 0 rfl) ?_
  refine x_get (x := .int (v 0 24)) hE hK hP 0 (by decide) (yG_9 rfl) rfl hin9 24 (by decide) mw_1358 rfl dX9_meets_1 ?_
  refine x_top (y := iI (w_1)) ew_1 ?_
  refine lv_aload_n hE.1 hE.2.1 dX9_meets_4 rfl (lv_at hl 0 rfl) ?_
  refine x_get (x := .int (v 0 31)) hE hK hP 0 (by decide) (yG_9 rfl) rfl hin9 31 (by decide) mw_1365 rfl dX9_meets_5 ?_
  refine x_top (y := iI (w_4)) ew_4 ?_
  refine lv_isub hE.1 hE.2.1 dX9_meets_8 ?_
  refine x_top (y := iI (w_1 - w_4)) ((iI_sub (w_1) (w_4)).trans (congrArg iI (by omega))) ?_
  refine lv_istore_n (lv' := [(1, .int (iI (w_1 - w_4))), (0, .ref (ad 0))]) hE.1 hE.2.1 dX9_meets_9 rfl hl (by decide) rfl (fun ls hl => ?_)
  refine lv_aload_n hE.1 hE.2.1 dX9_meets_10 rfl (lv_at hl 1 rfl) ?_
  refine x_get (x := .ref (ad 16)) hE hK hP 0 (by decide) (yG_9 rfl) rfl hin9 35 (by decide) mw_1369 rfl dX9_meets_11 ?_
  refine lv_iload_n hE.1 hE.2.1 dX9_meets_14 rfl (lv_at hl 0 rfl) ?_
  refine lv_dup2_11 hE.1 hE.2.1 dX9_meets_15 rfl rfl ?_
  refine x_iald (j := iI (w_1 - w_4)) hE hK hP 16 (by decide) (yG_10 rfl) (iI_in (n := 10) (by omega)) dX9_meets_16 ?_
  obtain ⟨z2, hz2, ez2⟩ := iI_of (ar 16 (iI (w_1 - w_4)).toNatClampNeg)
  refine x_top ez2 ?_
  refine lv_iconst (v := iI (1)) hE.1 hE.2.1 dX9_meets_17 (by decide) ?_
  refine lv_iadd hE.1 hE.2.1 dX9_meets_18 ?_
  obtain ⟨z3, hz3, ez3⟩ := iI_of (iI (z2) + iI (1))
  refine x_top ez3 ?_
  refine x_iast (j := iI (w_1 - w_4)) hE hK hN hP hS 16 (by decide) (fun _ => yG_10 rfl) (iI_in (n := 10) (by omega)) dX9_meets_19 (fun ar4 H locs ha4 hP hS => ?_)
  have hI := YI_ast hI ha4 (by decide)
  refine lv_aload_n hE.1 hE.2.1 dX9_meets_20 rfl (lv_at hl 1 rfl) ?_
  refine x_vp (nn := 0) (As := []) (rest := []) hE (s_X9_isWhole_e l D K ad v ar4 al hI (w_2) (by omega) ew_2 ) wPre_blind (wPre_now hK hN hP) (x_recv hK hP 0 (by decide) (yG_9 rfl) rfl) rfl mw_1774 mw_1776 mw_83 mw_123 mw_1777 (by decide +kernel) ⟨by decide, by decide⟩ hl.1 rfl (Nat.le_of_ble_eq_true rfl) ⟨Nat.zero_le _, Nat.zero_le _⟩ dX9_meets_21 (fun r5 hr5 => ?_)
  obtain ⟨z5, hz5, rfl⟩ := hr5
  refine lv_istore_n (lv' := [(2, .int (iI (z5))), (1, .int (iI (w_1 - w_4))), (0, .ref (ad 0))]) hE.1 hE.2.1 dX9_meets_24 rfl hl (by decide) rfl (fun ls hl => ?_)
  refine lv_iload_n hE.1 hE.2.1 dX9_meets_25 rfl (lv_at hl 0 rfl) ?_
  refine s_if_eq (a := z5) (tgt := 107) hE.1 hE.2.1 (by omega) dX9_meets_26 (by decide) (fun c6 => ?_) (fun c6 => ?_)
  · skip
    refine lv_aload_n hE.1 hE.2.1 dX9_meets_107 rfl (lv_at hl 2 rfl) ?_
    obtain ⟨z7, hz7, ez7⟩ := iI_of (v 0 29)
    refine x_get (x := .int (v 0 29)) hE hK hP 0 (by decide) (yG_9 rfl) rfl hin9 29 (by decide) mw_1363 rfl dX9_meets_108 ?_
    refine x_top (y := iI (z7)) ez7 ?_
    refine s_if_eq (a := z7) (tgt := 118) hE.1 hE.2.1 (by omega) dX9_meets_111 (by decide) (fun c8 => ?_) (fun c8 => ?_)
    · skip
      refine lv_aload_n hE.1 hE.2.1 dX9_meets_118 rfl (lv_at hl 2 rfl) ?_
      refine x_get (x := .int (v 0 29)) hE hK hP 0 (by decide) (yG_9 rfl) rfl hin9 29 (by decide) mw_1363 rfl dX9_meets_119 ?_
      refine x_top (y := iI (z7)) ez7 ?_
      refine lv_iconst (v := iI (3)) hE.1 hE.2.1 dX9_meets_122 (by decide) ?_
      refine s_icmp_ne (a := z7) (b := 3) (tgt := 138) hE.1 hE.2.1 (by omega) (by omega) dX9_meets_123 (by decide) (fun _ => ?_) (fun c9 => False.elim (by omega))
      refine lv_aload_n hE.1 hE.2.1 dX9_meets_138 rfl (lv_at hl 2 rfl) ?_
      refine x_get (x := .int (v 0 29)) hE hK hP 0 (by decide) (yG_9 rfl) rfl hin9 29 (by decide) mw_1363 rfl dX9_meets_139 ?_
      refine x_top (y := iI (z7)) ez7 ?_
      refine lv_iconst (v := iI (2)) hE.1 hE.2.1 dX9_meets_142 (by decide) ?_
      refine s_icmp_ne (a := z7) (b := 2) (tgt := 153) hE.1 hE.2.1 (by omega) (by omega) dX9_meets_143 (by decide) (fun _ => ?_) (fun c10 => False.elim (by omega))
      refine lv_aload_n hE.1 hE.2.1 dX9_meets_153 rfl (lv_at hl 2 rfl) ?_
      refine x_get (x := .int (v 0 29)) hE hK hP 0 (by decide) (yG_9 rfl) rfl hin9 29 (by decide) mw_1363 rfl dX9_meets_154 ?_
      refine x_top (y := iI (z7)) ez7 ?_
      refine lv_iconst (v := iI (3)) hE.1 hE.2.1 dX9_meets_157 (by decide) ?_
      refine s_icmp_ne (a := z7) (b := 3) (tgt := 166) hE.1 hE.2.1 (by omega) (by omega) dX9_meets_158 (by decide) (fun _ => ?_) (fun c11 => False.elim (by omega))
      refine lv_iload_n hE.1 hE.2.1 dX9_meets_166 rfl (lv_at hl 1 rfl) ?_
      refine lv_istore_n (lv' := [(3, .int (iI (w_1 - w_4))), (2, .int (iI (z5))), (1, .int (iI (w_1 - w_4))), (0, .ref (ad 0))]) hE.1 hE.2.1 dX9_meets_167 rfl hl (by decide) rfl (fun ls hl => ?_)
      refine lv_aload_n hE.1 hE.2.1 dX9_meets_168 rfl (lv_at hl 3 rfl) ?_
      obtain ⟨z12, hz12, ez12⟩ := YI_get hI 0 33 (-1) 9 (by decide)
      refine x_get (x := .int (v 0 33)) hE hK hP 0 (by decide) (yG_9 rfl) rfl hin9 33 (by decide) mw_1367 rfl dX9_meets_169 ?_
      refine x_top (y := iI (z12)) ez12 ?_
      refine lv_iconst (v := iI (-1)) hE.1 hE.2.1 dX9_meets_172 (by decide) ?_
      refine s_icmp_eq (a := z12) (b := -1) (tgt := 201) hE.1 hE.2.1 (by omega) (by omega) dX9_meets_173 (by decide) (fun c13 => ?_) (fun c13 => ?_)
      · skip
        refine lv_aload_n hE.1 hE.2.1 dX9_meets_201 rfl (lv_at hl 3 rfl) ?_
        refine lv_iload_n hE.1 hE.2.1 dX9_meets_202 rfl (lv_at hl 0 rfl) ?_
        refine x_put (x := iI (w_1 - w_4)) hE hK hN hP hS 0 (by decide) (yG_9 rfl) rfl hin9 tyX9 tyX9_ok nmX9 32 (by decide) mw_1366 rfl rfl rfl (Nat.le_of_ble_eq_true rfl) (yG_9 rfl) dX9_meets_203 (fun v14 H locs hv14 hP hS => ?_)
        have hI := YI_putN hI hv14 (by decide)
        refine lv_aload_n hE.1 hE.2.1 dX9_meets_206 rfl (lv_at hl 3 rfl) ?_
        refine lv_iload_n hE.1 hE.2.1 dX9_meets_207 rfl (lv_at hl 2 rfl) ?_
        refine x_put (x := iI (w_1 - w_4)) hE hK hN hP hS 0 (by decide) (yG_9 rfl) rfl hin9 tyX9 tyX9_ok nmX9 33 (by decide) mw_1367 rfl rfl rfl (Nat.le_of_ble_eq_true rfl) (yG_9 rfl) dX9_meets_208 (fun v15 H locs hv15 hP hS => ?_)
        have hI := YI_putB (z := w_1 - w_4) hI hv15 (-1) 9 (by omega) (by decide) (by omega)
        refine lv_iconst (v := iI (0)) hE.1 hE.2.1 dX9_meets_211 (by decide) ?_
        refine lv_istore (lv' := [(4, .int (iI (0))), (3, .int (iI (w_1 - w_4))), (2, .int (iI (z5))), (1, .int (iI (w_1 - w_4))), (0, .ref (ad 0))]) hE.1 hE.2.1 dX9_meets_212 hl (by decide) rfl (fun ls hl => ?_)
        have loop16 : ∀ (k16 : Nat) (y16_4 : Int) (vl16 arl16 : sI) (all16 : sL) (H : Heap) (locs : List Loc) (ls : Array Slot), (9 - y16_4).toNat = k16 → (0 ≤ y16_4 ∧ y16_4 ≤ 9) → YI vl16 arl16 → (∀ i j : Nat, (i, j) ∉ ([] : List (Nat × Nat)) → vl16 i j = v15 i j) → (∀ i : Nat, i ∉ ([15] : List Nat) → arl16 i = ar4 i) → (∀ i : Nat, i ∉ ([] : List Nat) → all16 i = al i) → va_P D xcl (wW ad (yG ad K) 21 vl16 arl16 all16) H → va_S (inW ad 21) s.heap H locs → lv_has ls 5 [(4, .int (iI (y16_4))), (3, .int (iI (w_1 - w_4))), (2, .int (iI (z5))), (1, .int (iI (w_1 - w_4))), (0, .ref (ad 0))] → W p l e (rmD 3) s m args below meth c H locs 0 0 Q (F0 m 214 ls []) := by
          intro k16
          induction k16 using Nat.strongRecOn with
          | _ k16 ih16 =>
            intro y16_4  vl16 arl16 all16 H locs ls hk16 hb_y16_4 hI hfr16 hfa16 hfl16 hP hS hl
            refine lv_iload hE.1 hE.2.1 dX9_meets_214 (lv_at hl 0 rfl) ?_
            refine lv_iload_n hE.1 hE.2.1 dX9_meets_216 rfl (lv_at hl 3 rfl) ?_
            refine s_icmp_ge (a := y16_4) (b := w_1 - w_4) (tgt := 245) hE.1 hE.2.1 (by omega) (by omega) dX9_meets_217 (by decide) (fun c17 => ?_) (fun c17 => ?_)
            · skip
              exact kr vl16 arl16 all16 _ _ _ _ ⟨hI, fun i j h => ((hfr16 i j (fun q => h (mem_sub (by decide) q))).trans ((up_oth hv15 (fun q => h (by rcases q with ⟨rfl, rfl⟩; decide))).trans (up_oth hv14 (fun q => h (by rcases q with ⟨rfl, rfl⟩; decide))))), fun i h => ((hfa16 i (fun q => h (mem_subn (by decide) q))).trans (upx_ne ha4 i (fun q => h (by rw [q]; decide)))), fun i h => (hfl16 i (fun q => h (mem_subn (by decide) q)))⟩ hP hS dX9_meets_245
            · skip
              refine lv_aload_n hE.1 hE.2.1 dX9_meets_220 rfl (lv_at hl 4 rfl) ?_
              refine x_get (x := .ref (ad 15)) hE hK hP 0 (by decide) (yG_9 rfl) rfl hin9 34 (by decide) mw_1368 rfl dX9_meets_221 ?_
              refine lv_iload hE.1 hE.2.1 dX9_meets_224 (lv_at hl 0 rfl) ?_
              refine lv_aload_n hE.1 hE.2.1 dX9_meets_226 rfl (lv_at hl 4 rfl) ?_
              refine x_get (x := .ref (ad 12)) hE hK hP 0 (by decide) (yG_9 rfl) rfl hin9 22 (by decide) mw_1356 rfl dX9_meets_227 ?_
              refine lv_aload_n hE.1 hE.2.1 dX9_meets_230 rfl (lv_at hl 4 rfl) ?_
              refine x_get (x := .int (vl16 0 31)) hE hK hP 0 (by decide) (yG_9 rfl) rfl hin9 31 (by decide) mw_1365 rfl dX9_meets_231 ?_
              refine x_top (y := iI (w_4)) ((hfr16 0 31 (by decide)).trans ((up_oth hv15 (by decide)).trans ((up_oth hv14 (by decide)).trans ew_4))) ?_
              refine lv_iload hE.1 hE.2.1 dX9_meets_234 (lv_at hl 0 rfl) ?_
              refine lv_iadd hE.1 hE.2.1 dX9_meets_236 ?_
              refine x_top (y := iI (w_4 + y16_4)) ((iI_add (w_4) (y16_4)).trans (congrArg iI (by omega))) ?_
              refine x_iald (j := iI (w_4 + y16_4)) hE hK hP 12 (by decide) (yG_10 rfl) (iI_in (n := 60) (by omega)) dX9_meets_237 ?_
              obtain ⟨z19, hz19, ez19⟩ := YI_a12 hI ((iI (w_4 + y16_4)).toNatClampNeg)
              refine x_top ez19 ?_
              refine x_iast (j := iI (y16_4)) hE hK hN hP hS 15 (by decide) (fun _ => yG_10 rfl) (iI_in (n := 9) (by omega)) dX9_meets_238 (fun ar20 H locs ha20 hP hS => ?_)
              have hI := YI_ast hI ha20 (by decide)
              refine lv_iinc (v := iI (y16_4 + 1)) (lv' := [(4, .int (iI (y16_4 + 1))), (3, .int (iI (w_1 - w_4))), (2, .int (iI (z5))), (1, .int (iI (w_1 - w_4))), (0, .ref (ad 0))]) hE.1 hE.2.1 dX9_meets_239 hl (k := 0) rfl ((iI_add (y16_4) (1)).trans (congrArg iI (by omega))) (by decide) rfl (fun ls hl => ?_)
              refine lv_goto (tgt := 214) hE.1 hE.2.1 dX9_meets_242 (by decide) ?_
              exact ih16 _ (by omega) (y16_4 + 1)  vl16 ar20 all16 _ _ _ rfl (by omega)  hI (fun i j h => (hfr16 i j h)) (fun i h => ((upx_ne ha20 i (fun q => h (by rw [q]; decide))).trans (hfa16 i h))) (fun i h => (hfl16 i h)) hP hS (lv_sub hl [0, 1, 2, 3, 4] rfl)
        exact loop16 _ (0)  v15 ar4 al _ _ _ rfl (by omega)  hI (fun _ _ _ => rfl) (fun _ _ => rfl) (fun _ _ => rfl) hP hS hl
      · skip
        refine lv_iload_n hE.1 hE.2.1 dX9_meets_176 rfl (lv_at hl 0 rfl) ?_
        refine lv_aload_n hE.1 hE.2.1 dX9_meets_177 rfl (lv_at hl 3 rfl) ?_
        obtain ⟨z21, hz21, ez21⟩ := iI_of (v 0 32)
        refine x_get (x := .int (v 0 32)) hE hK hP 0 (by decide) (yG_9 rfl) rfl hin9 32 (by decide) mw_1366 rfl dX9_meets_178 ?_
        refine x_top (y := iI (z21)) ez21 ?_
        refine s_icmp_lt (a := w_1 - w_4) (b := z21) (tgt := 200) hE.1 hE.2.1 (by omega) (by omega) dX9_meets_181 (by decide) (fun c22 => ?_) (fun c22 => ?_)
        · skip
          exact kr v ar4 al _ _ _ _ ⟨hI, fun i j h => rfl, fun i h => (upx_ne ha4 i (fun q => h (by rw [q]; decide))), fun i h => rfl⟩ hP hS dX9_meets_200
        · skip
          refine lv_iload_n hE.1 hE.2.1 dX9_meets_184 rfl (lv_at hl 0 rfl) ?_
          refine lv_aload_n hE.1 hE.2.1 dX9_meets_185 rfl (lv_at hl 3 rfl) ?_
          refine x_get (x := .int (v 0 32)) hE hK hP 0 (by decide) (yG_9 rfl) rfl hin9 32 (by decide) mw_1366 rfl dX9_meets_186 ?_
          refine x_top (y := iI (z21)) ez21 ?_
          refine s_icmp_ne (a := w_1 - w_4) (b := z21) (tgt := 201) hE.1 hE.2.1 (by omega) (by omega) dX9_meets_189 (by decide) (fun c23 => ?_) (fun c23 => ?_)
          · skip
            refine lv_aload_n hE.1 hE.2.1 dX9_meets_201 rfl (lv_at hl 3 rfl) ?_
            refine lv_iload_n hE.1 hE.2.1 dX9_meets_202 rfl (lv_at hl 0 rfl) ?_
            refine x_put (x := iI (w_1 - w_4)) hE hK hN hP hS 0 (by decide) (yG_9 rfl) rfl hin9 tyX9 tyX9_ok nmX9 32 (by decide) mw_1366 rfl rfl rfl (Nat.le_of_ble_eq_true rfl) (yG_9 rfl) dX9_meets_203 (fun v24 H locs hv24 hP hS => ?_)
            have hI := YI_putN hI hv24 (by decide)
            refine lv_aload_n hE.1 hE.2.1 dX9_meets_206 rfl (lv_at hl 3 rfl) ?_
            refine lv_iload_n hE.1 hE.2.1 dX9_meets_207 rfl (lv_at hl 2 rfl) ?_
            refine x_put (x := iI (w_1 - w_4)) hE hK hN hP hS 0 (by decide) (yG_9 rfl) rfl hin9 tyX9 tyX9_ok nmX9 33 (by decide) mw_1367 rfl rfl rfl (Nat.le_of_ble_eq_true rfl) (yG_9 rfl) dX9_meets_208 (fun v25 H locs hv25 hP hS => ?_)
            have hI := YI_putB (z := w_1 - w_4) hI hv25 (-1) 9 (by omega) (by decide) (by omega)
            refine lv_iconst (v := iI (0)) hE.1 hE.2.1 dX9_meets_211 (by decide) ?_
            refine lv_istore (lv' := [(4, .int (iI (0))), (3, .int (iI (w_1 - w_4))), (2, .int (iI (z5))), (1, .int (iI (w_1 - w_4))), (0, .ref (ad 0))]) hE.1 hE.2.1 dX9_meets_212 hl (by decide) rfl (fun ls hl => ?_)
            have loop26 : ∀ (k26 : Nat) (y26_4 : Int) (vl26 arl26 : sI) (all26 : sL) (H : Heap) (locs : List Loc) (ls : Array Slot), (9 - y26_4).toNat = k26 → (0 ≤ y26_4 ∧ y26_4 ≤ 9) → YI vl26 arl26 → (∀ i j : Nat, (i, j) ∉ ([] : List (Nat × Nat)) → vl26 i j = v25 i j) → (∀ i : Nat, i ∉ ([15] : List Nat) → arl26 i = ar4 i) → (∀ i : Nat, i ∉ ([] : List Nat) → all26 i = al i) → va_P D xcl (wW ad (yG ad K) 21 vl26 arl26 all26) H → va_S (inW ad 21) s.heap H locs → lv_has ls 5 [(4, .int (iI (y26_4))), (3, .int (iI (w_1 - w_4))), (2, .int (iI (z5))), (1, .int (iI (w_1 - w_4))), (0, .ref (ad 0))] → W p l e (rmD 3) s m args below meth c H locs 0 0 Q (F0 m 214 ls []) := by
              intro k26
              induction k26 using Nat.strongRecOn with
              | _ k26 ih26 =>
                intro y26_4  vl26 arl26 all26 H locs ls hk26 hb_y26_4 hI hfr26 hfa26 hfl26 hP hS hl
                refine lv_iload hE.1 hE.2.1 dX9_meets_214 (lv_at hl 0 rfl) ?_
                refine lv_iload_n hE.1 hE.2.1 dX9_meets_216 rfl (lv_at hl 3 rfl) ?_
                refine s_icmp_ge (a := y26_4) (b := w_1 - w_4) (tgt := 245) hE.1 hE.2.1 (by omega) (by omega) dX9_meets_217 (by decide) (fun c27 => ?_) (fun c27 => ?_)
                · skip
                  exact kr vl26 arl26 all26 _ _ _ _ ⟨hI, fun i j h => ((hfr26 i j (fun q => h (mem_sub (by decide) q))).trans ((up_oth hv25 (fun q => h (by rcases q with ⟨rfl, rfl⟩; decide))).trans (up_oth hv24 (fun q => h (by rcases q with ⟨rfl, rfl⟩; decide))))), fun i h => ((hfa26 i (fun q => h (mem_subn (by decide) q))).trans (upx_ne ha4 i (fun q => h (by rw [q]; decide)))), fun i h => (hfl26 i (fun q => h (mem_subn (by decide) q)))⟩ hP hS dX9_meets_245
                · skip
                  refine lv_aload_n hE.1 hE.2.1 dX9_meets_220 rfl (lv_at hl 4 rfl) ?_
                  refine x_get (x := .ref (ad 15)) hE hK hP 0 (by decide) (yG_9 rfl) rfl hin9 34 (by decide) mw_1368 rfl dX9_meets_221 ?_
                  refine lv_iload hE.1 hE.2.1 dX9_meets_224 (lv_at hl 0 rfl) ?_
                  refine lv_aload_n hE.1 hE.2.1 dX9_meets_226 rfl (lv_at hl 4 rfl) ?_
                  refine x_get (x := .ref (ad 12)) hE hK hP 0 (by decide) (yG_9 rfl) rfl hin9 22 (by decide) mw_1356 rfl dX9_meets_227 ?_
                  refine lv_aload_n hE.1 hE.2.1 dX9_meets_230 rfl (lv_at hl 4 rfl) ?_
                  refine x_get (x := .int (vl26 0 31)) hE hK hP 0 (by decide) (yG_9 rfl) rfl hin9 31 (by decide) mw_1365 rfl dX9_meets_231 ?_
                  refine x_top (y := iI (w_4)) ((hfr26 0 31 (by decide)).trans ((up_oth hv25 (by decide)).trans ((up_oth hv24 (by decide)).trans ew_4))) ?_
                  refine lv_iload hE.1 hE.2.1 dX9_meets_234 (lv_at hl 0 rfl) ?_
                  refine lv_iadd hE.1 hE.2.1 dX9_meets_236 ?_
                  refine x_top (y := iI (w_4 + y26_4)) ((iI_add (w_4) (y26_4)).trans (congrArg iI (by omega))) ?_
                  refine x_iald (j := iI (w_4 + y26_4)) hE hK hP 12 (by decide) (yG_10 rfl) (iI_in (n := 60) (by omega)) dX9_meets_237 ?_
                  obtain ⟨z29, hz29, ez29⟩ := YI_a12 hI ((iI (w_4 + y26_4)).toNatClampNeg)
                  refine x_top ez29 ?_
                  refine x_iast (j := iI (y26_4)) hE hK hN hP hS 15 (by decide) (fun _ => yG_10 rfl) (iI_in (n := 9) (by omega)) dX9_meets_238 (fun ar30 H locs ha30 hP hS => ?_)
                  have hI := YI_ast hI ha30 (by decide)
                  refine lv_iinc (v := iI (y26_4 + 1)) (lv' := [(4, .int (iI (y26_4 + 1))), (3, .int (iI (w_1 - w_4))), (2, .int (iI (z5))), (1, .int (iI (w_1 - w_4))), (0, .ref (ad 0))]) hE.1 hE.2.1 dX9_meets_239 hl (k := 0) rfl ((iI_add (y26_4) (1)).trans (congrArg iI (by omega))) (by decide) rfl (fun ls hl => ?_)
                  refine lv_goto (tgt := 214) hE.1 hE.2.1 dX9_meets_242 (by decide) ?_
                  exact ih26 _ (by omega) (y26_4 + 1)  vl26 ar30 all26 _ _ _ rfl (by omega)  hI (fun i j h => (hfr26 i j h)) (fun i h => ((upx_ne ha30 i (fun q => h (by rw [q]; decide))).trans (hfa26 i h))) (fun i h => (hfl26 i h)) hP hS (lv_sub hl [0, 1, 2, 3, 4] rfl)
            exact loop26 _ (0)  v25 ar4 al _ _ _ rfl (by omega)  hI (fun _ _ _ => rfl) (fun _ _ => rfl) (fun _ _ => rfl) hP hS hl
          · skip
            refine lv_aload_n hE.1 hE.2.1 dX9_meets_192 rfl (lv_at hl 3 rfl) ?_
            refine lv_iload_n hE.1 hE.2.1 dX9_meets_193 rfl (lv_at hl 2 rfl) ?_
            refine x_vp (nn := 1) (As := [.int (iI (w_1 - w_4))]) (rest := []) hE (s_X9_isAhead_e l D K ad v ar4 al hI  (w_1 - w_4) (by omega)) wPre_blind (wPre_now hK hN hP) (x_recv hK hP 0 (by decide) (yG_9 rfl) rfl) rfl mw_1818 mw_1820 mw_90 mw_123 mw_1821 (by decide +kernel) ⟨by decide, by decide⟩ hl.1 rfl (Nat.le_of_ble_eq_true rfl) ⟨Nat.zero_le _, Nat.zero_le _⟩ dX9_meets_194 (fun r31 hr31 => ?_)
            obtain ⟨z31, hz31, rfl⟩ := hr31
            refine s_if_ne (a := z31) (tgt := 201) hE.1 hE.2.1 (by omega) dX9_meets_197 (by decide) (fun c32 => ?_) (fun c32 => ?_)
            · skip
              refine lv_aload_n hE.1 hE.2.1 dX9_meets_201 rfl (lv_at hl 3 rfl) ?_
              refine lv_iload_n hE.1 hE.2.1 dX9_meets_202 rfl (lv_at hl 0 rfl) ?_
              refine x_put (x := iI (w_1 - w_4)) hE hK hN hP hS 0 (by decide) (yG_9 rfl) rfl hin9 tyX9 tyX9_ok nmX9 32 (by decide) mw_1366 rfl rfl rfl (Nat.le_of_ble_eq_true rfl) (yG_9 rfl) dX9_meets_203 (fun v33 H locs hv33 hP hS => ?_)
              have hI := YI_putN hI hv33 (by decide)
              refine lv_aload_n hE.1 hE.2.1 dX9_meets_206 rfl (lv_at hl 3 rfl) ?_
              refine lv_iload_n hE.1 hE.2.1 dX9_meets_207 rfl (lv_at hl 2 rfl) ?_
              refine x_put (x := iI (w_1 - w_4)) hE hK hN hP hS 0 (by decide) (yG_9 rfl) rfl hin9 tyX9 tyX9_ok nmX9 33 (by decide) mw_1367 rfl rfl rfl (Nat.le_of_ble_eq_true rfl) (yG_9 rfl) dX9_meets_208 (fun v34 H locs hv34 hP hS => ?_)
              have hI := YI_putB (z := w_1 - w_4) hI hv34 (-1) 9 (by omega) (by decide) (by omega)
              refine lv_iconst (v := iI (0)) hE.1 hE.2.1 dX9_meets_211 (by decide) ?_
              refine lv_istore (lv' := [(4, .int (iI (0))), (3, .int (iI (w_1 - w_4))), (2, .int (iI (z5))), (1, .int (iI (w_1 - w_4))), (0, .ref (ad 0))]) hE.1 hE.2.1 dX9_meets_212 hl (by decide) rfl (fun ls hl => ?_)
              have loop35 : ∀ (k35 : Nat) (y35_4 : Int) (vl35 arl35 : sI) (all35 : sL) (H : Heap) (locs : List Loc) (ls : Array Slot), (9 - y35_4).toNat = k35 → (0 ≤ y35_4 ∧ y35_4 ≤ 9) → YI vl35 arl35 → (∀ i j : Nat, (i, j) ∉ ([] : List (Nat × Nat)) → vl35 i j = v34 i j) → (∀ i : Nat, i ∉ ([15] : List Nat) → arl35 i = ar4 i) → (∀ i : Nat, i ∉ ([] : List Nat) → all35 i = al i) → va_P D xcl (wW ad (yG ad K) 21 vl35 arl35 all35) H → va_S (inW ad 21) s.heap H locs → lv_has ls 5 [(4, .int (iI (y35_4))), (3, .int (iI (w_1 - w_4))), (2, .int (iI (z5))), (1, .int (iI (w_1 - w_4))), (0, .ref (ad 0))] → W p l e (rmD 3) s m args below meth c H locs 0 0 Q (F0 m 214 ls []) := by
                intro k35
                induction k35 using Nat.strongRecOn with
                | _ k35 ih35 =>
                  intro y35_4  vl35 arl35 all35 H locs ls hk35 hb_y35_4 hI hfr35 hfa35 hfl35 hP hS hl
                  refine lv_iload hE.1 hE.2.1 dX9_meets_214 (lv_at hl 0 rfl) ?_
                  refine lv_iload_n hE.1 hE.2.1 dX9_meets_216 rfl (lv_at hl 3 rfl) ?_
                  refine s_icmp_ge (a := y35_4) (b := w_1 - w_4) (tgt := 245) hE.1 hE.2.1 (by omega) (by omega) dX9_meets_217 (by decide) (fun c36 => ?_) (fun c36 => ?_)
                  · skip
                    exact kr vl35 arl35 all35 _ _ _ _ ⟨hI, fun i j h => ((hfr35 i j (fun q => h (mem_sub (by decide) q))).trans ((up_oth hv34 (fun q => h (by rcases q with ⟨rfl, rfl⟩; decide))).trans (up_oth hv33 (fun q => h (by rcases q with ⟨rfl, rfl⟩; decide))))), fun i h => ((hfa35 i (fun q => h (mem_subn (by decide) q))).trans (upx_ne ha4 i (fun q => h (by rw [q]; decide)))), fun i h => (hfl35 i (fun q => h (mem_subn (by decide) q)))⟩ hP hS dX9_meets_245
                  · skip
                    refine lv_aload_n hE.1 hE.2.1 dX9_meets_220 rfl (lv_at hl 4 rfl) ?_
                    refine x_get (x := .ref (ad 15)) hE hK hP 0 (by decide) (yG_9 rfl) rfl hin9 34 (by decide) mw_1368 rfl dX9_meets_221 ?_
                    refine lv_iload hE.1 hE.2.1 dX9_meets_224 (lv_at hl 0 rfl) ?_
                    refine lv_aload_n hE.1 hE.2.1 dX9_meets_226 rfl (lv_at hl 4 rfl) ?_
                    refine x_get (x := .ref (ad 12)) hE hK hP 0 (by decide) (yG_9 rfl) rfl hin9 22 (by decide) mw_1356 rfl dX9_meets_227 ?_
                    refine lv_aload_n hE.1 hE.2.1 dX9_meets_230 rfl (lv_at hl 4 rfl) ?_
                    refine x_get (x := .int (vl35 0 31)) hE hK hP 0 (by decide) (yG_9 rfl) rfl hin9 31 (by decide) mw_1365 rfl dX9_meets_231 ?_
                    refine x_top (y := iI (w_4)) ((hfr35 0 31 (by decide)).trans ((up_oth hv34 (by decide)).trans ((up_oth hv33 (by decide)).trans ew_4))) ?_
                    refine lv_iload hE.1 hE.2.1 dX9_meets_234 (lv_at hl 0 rfl) ?_
                    refine lv_iadd hE.1 hE.2.1 dX9_meets_236 ?_
                    refine x_top (y := iI (w_4 + y35_4)) ((iI_add (w_4) (y35_4)).trans (congrArg iI (by omega))) ?_
                    refine x_iald (j := iI (w_4 + y35_4)) hE hK hP 12 (by decide) (yG_10 rfl) (iI_in (n := 60) (by omega)) dX9_meets_237 ?_
                    obtain ⟨z38, hz38, ez38⟩ := YI_a12 hI ((iI (w_4 + y35_4)).toNatClampNeg)
                    refine x_top ez38 ?_
                    refine x_iast (j := iI (y35_4)) hE hK hN hP hS 15 (by decide) (fun _ => yG_10 rfl) (iI_in (n := 9) (by omega)) dX9_meets_238 (fun ar39 H locs ha39 hP hS => ?_)
                    have hI := YI_ast hI ha39 (by decide)
                    refine lv_iinc (v := iI (y35_4 + 1)) (lv' := [(4, .int (iI (y35_4 + 1))), (3, .int (iI (w_1 - w_4))), (2, .int (iI (z5))), (1, .int (iI (w_1 - w_4))), (0, .ref (ad 0))]) hE.1 hE.2.1 dX9_meets_239 hl (k := 0) rfl ((iI_add (y35_4) (1)).trans (congrArg iI (by omega))) (by decide) rfl (fun ls hl => ?_)
                    refine lv_goto (tgt := 214) hE.1 hE.2.1 dX9_meets_242 (by decide) ?_
                    exact ih35 _ (by omega) (y35_4 + 1)  vl35 ar39 all35 _ _ _ rfl (by omega)  hI (fun i j h => (hfr35 i j h)) (fun i h => ((upx_ne ha39 i (fun q => h (by rw [q]; decide))).trans (hfa35 i h))) (fun i h => (hfl35 i h)) hP hS (lv_sub hl [0, 1, 2, 3, 4] rfl)
              exact loop35 _ (0)  v34 ar4 al _ _ _ rfl (by omega)  hI (fun _ _ _ => rfl) (fun _ _ => rfl) (fun _ _ => rfl) hP hS hl
            · skip
              exact kr v ar4 al _ _ _ _ ⟨hI, fun i j h => rfl, fun i h => (upx_ne ha4 i (fun q => h (by rw [q]; decide))), fun i h => rfl⟩ hP hS dX9_meets_200
    · skip
      refine lv_iload_n hE.1 hE.2.1 dX9_meets_114 rfl (lv_at hl 0 rfl) ?_
      refine s_if_eq (a := z5) (tgt := 137) hE.1 hE.2.1 (by omega) dX9_meets_115 (by decide) (fun _ => ?_) (fun c40 => False.elim (by omega))
      exact kr v ar4 al _ _ _ _ ⟨hI, fun i j h => rfl, fun i h => (upx_ne ha4 i (fun q => h (by rw [q]; decide))), fun i h => rfl⟩ hP hS dX9_meets_137
  · skip
    refine lv_aload_n hE.1 hE.2.1 dX9_meets_29 rfl (lv_at hl 2 rfl) ?_
    refine lv_dup hE.1 hE.2.1 dX9_meets_30 rfl ?_
    obtain ⟨z41, hz41, ez41⟩ := iI_of (v 0 37)
    refine x_get (x := .int (v 0 37)) hE hK hP 0 (by decide) (yG_9 rfl) rfl hin9 37 (by decide) mw_1371 rfl dX9_meets_31 ?_
    refine x_top (y := iI (z41)) ez41 ?_
    refine lv_iconst (v := iI (1)) hE.1 hE.2.1 dX9_meets_34 (by decide) ?_
    refine lv_iadd hE.1 hE.2.1 dX9_meets_35 ?_
    obtain ⟨z42, hz42, ez42⟩ := iI_of (iI (z41) + iI (1))
    refine x_top ez42 ?_
    refine x_put (x := iI (z42)) hE hK hN hP hS 0 (by decide) (yG_9 rfl) rfl hin9 tyX9 tyX9_ok nmX9 37 (by decide) mw_1371 rfl rfl rfl (Nat.le_of_ble_eq_true rfl) (yG_9 rfl) dX9_meets_36 (fun v43 H locs hv43 hP hS => ?_)
    have hI := YI_putN hI hv43 (by decide)
    refine lv_aload_n hE.1 hE.2.1 dX9_meets_39 rfl (lv_at hl 2 rfl) ?_
    refine x_get (x := .ref (ad 17)) hE hK hP 0 (by decide) (yG_9 rfl) rfl hin9 36 (by decide) mw_1370 rfl dX9_meets_40 ?_
    refine lv_aload_n hE.1 hE.2.1 dX9_meets_43 rfl (lv_at hl 2 rfl) ?_
    refine x_get (x := .int (v43 0 26)) hE hK hP 0 (by decide) (yG_9 rfl) rfl hin9 26 (by decide) mw_1360 rfl dX9_meets_44 ?_
    refine x_top (y := iI (w_3)) ((up_oth hv43 (by decide)).trans ew_3) ?_
    refine lv_dup2_11 hE.1 hE.2.1 dX9_meets_47 rfl rfl ?_
    refine x_iald (j := iI (w_3)) hE hK hP 17 (by decide) (yG_10 rfl) (iI_in (n := 9) (by omega)) dX9_meets_48 ?_
    obtain ⟨z45, hz45, ez45⟩ := iI_of (ar4 17 (iI (w_3)).toNatClampNeg)
    refine x_top ez45 ?_
    refine lv_iconst (v := iI (1)) hE.1 hE.2.1 dX9_meets_49 (by decide) ?_
    refine lv_iadd hE.1 hE.2.1 dX9_meets_50 ?_
    obtain ⟨z46, hz46, ez46⟩ := iI_of (iI (z45) + iI (1))
    refine x_top ez46 ?_
    refine x_iast (j := iI (w_3)) hE hK hN hP hS 17 (by decide) (fun _ => yG_10 rfl) (iI_in (n := 9) (by omega)) dX9_meets_51 (fun ar47 H locs ha47 hP hS => ?_)
    have hI := YI_ast hI ha47 (by decide)
    refine lv_aload_n hE.1 hE.2.1 dX9_meets_52 rfl (lv_at hl 2 rfl) ?_
    refine lv_dup hE.1 hE.2.1 dX9_meets_53 rfl ?_
    obtain ⟨z48, hz48, ez48⟩ := iI_of (v43 0 38)
    refine x_get (x := .int (v43 0 38)) hE hK hP 0 (by decide) (yG_9 rfl) rfl hin9 38 (by decide) mw_1372 rfl dX9_meets_54 ?_
    refine x_top (y := iI (z48)) ez48 ?_
    refine lv_aload_n hE.1 hE.2.1 dX9_meets_57 rfl (lv_at hl 2 rfl) ?_
    refine x_get (x := .int (v43 0 25)) hE hK hP 0 (by decide) (yG_9 rfl) rfl hin9 25 (by decide) mw_1359 rfl dX9_meets_58 ?_
    refine x_top (y := iI (w_2)) ((up_oth hv43 (by decide)).trans ew_2) ?_
    refine lv_iand hE.1 hE.2.1 dX9_meets_61 ?_
    obtain ⟨z49, hz49, ez49⟩ := iI_of (iI (z48) &&& iI (w_2))
    refine x_top ez49 ?_
    refine x_put (x := iI (z49)) hE hK hN hP hS 0 (by decide) (yG_9 rfl) rfl hin9 tyX9 tyX9_ok nmX9 38 (by decide) mw_1372 rfl rfl rfl (Nat.le_of_ble_eq_true rfl) (yG_9 rfl) dX9_meets_62 (fun v50 H locs hv50 hP hS => ?_)
    have hI := YI_putN hI hv50 (by decide)
    refine lv_aload_n hE.1 hE.2.1 dX9_meets_65 rfl (lv_at hl 2 rfl) ?_
    refine lv_dup hE.1 hE.2.1 dX9_meets_66 rfl ?_
    obtain ⟨z51, hz51, ez51⟩ := iI_of (v50 0 39)
    refine x_get (x := .int (v50 0 39)) hE hK hP 0 (by decide) (yG_9 rfl) rfl hin9 39 (by decide) mw_1373 rfl dX9_meets_67 ?_
    refine x_top (y := iI (z51)) ez51 ?_
    refine lv_aload_n hE.1 hE.2.1 dX9_meets_70 rfl (lv_at hl 2 rfl) ?_
    refine x_get (x := .int (v50 0 25)) hE hK hP 0 (by decide) (yG_9 rfl) rfl hin9 25 (by decide) mw_1359 rfl dX9_meets_71 ?_
    refine x_top (y := iI (w_2)) ((up_oth hv50 (by decide)).trans ((up_oth hv43 (by decide)).trans ew_2)) ?_
    refine lv_ior hE.1 hE.2.1 dX9_meets_74 ?_
    obtain ⟨z52, hz52, ez52⟩ := iI_of (iI (z51) ||| iI (w_2))
    refine x_top ez52 ?_
    refine x_put (x := iI (z52)) hE hK hN hP hS 0 (by decide) (yG_9 rfl) rfl hin9 tyX9 tyX9_ok nmX9 39 (by decide) mw_1373 rfl rfl rfl (Nat.le_of_ble_eq_true rfl) (yG_9 rfl) dX9_meets_75 (fun v53 H locs hv53 hP hS => ?_)
    have hI := YI_putN hI hv53 (by decide)
    refine lv_aload_n hE.1 hE.2.1 dX9_meets_78 rfl (lv_at hl 2 rfl) ?_
    refine lv_dup hE.1 hE.2.1 dX9_meets_79 rfl ?_
    obtain ⟨z54, hz54, ez54⟩ := iI_of (v53 0 40)
    refine x_get (x := .int (v53 0 40)) hE hK hP 0 (by decide) (yG_9 rfl) rfl hin9 40 (by decide) mw_1374 rfl dX9_meets_80 ?_
    refine x_top (y := iI (z54)) ez54 ?_
    refine lv_aload_n hE.1 hE.2.1 dX9_meets_83 rfl (lv_at hl 2 rfl) ?_
    refine x_get (x := .int (v53 0 41)) hE hK hP 0 (by decide) (yG_9 rfl) rfl hin9 41 (by decide) mw_1375 rfl dX9_meets_84 ?_
    refine x_top (y := iI (w_5)) ((up_oth hv53 (by decide)).trans ((up_oth hv50 (by decide)).trans ((up_oth hv43 (by decide)).trans ew_5))) ?_
    refine lv_iconst (v := iI (-1)) hE.1 hE.2.1 dX9_meets_87 (by decide) ?_
    refine s_icmp_eq (a := w_5) (b := -1) (tgt := 102) hE.1 hE.2.1 (by omega) (by omega) dX9_meets_88 (by decide) (fun c55 => ?_) (fun c55 => ?_)
    · skip
      refine lv_iconst (v := iI (0)) hE.1 hE.2.1 dX9_meets_102 (by decide) ?_
      refine lv_iadd hE.1 hE.2.1 dX9_meets_103 ?_
      refine x_top (y := iI (z54)) ((iI_add (z54) (0)).trans (congrArg iI (by omega))) ?_
      refine x_put (x := iI (z54)) hE hK hN hP hS 0 (by decide) (yG_9 rfl) rfl hin9 tyX9 tyX9_ok nmX9 40 (by decide) mw_1374 rfl rfl rfl (Nat.le_of_ble_eq_true rfl) (yG_9 rfl) dX9_meets_104 (fun v56 H locs hv56 hP hS => ?_)
      have hI := YI_putN hI hv56 (by decide)
      refine lv_aload_n hE.1 hE.2.1 dX9_meets_107 rfl (lv_at hl 2 rfl) ?_
      obtain ⟨z57, hz57, ez57⟩ := iI_of (v56 0 29)
      refine x_get (x := .int (v56 0 29)) hE hK hP 0 (by decide) (yG_9 rfl) rfl hin9 29 (by decide) mw_1363 rfl dX9_meets_108 ?_
      refine x_top (y := iI (z57)) ez57 ?_
      refine s_if_eq (a := z57) (tgt := 118) hE.1 hE.2.1 (by omega) dX9_meets_111 (by decide) (fun c58 => ?_) (fun c58 => ?_)
      · skip
        refine lv_aload_n hE.1 hE.2.1 dX9_meets_118 rfl (lv_at hl 2 rfl) ?_
        refine x_get (x := .int (v56 0 29)) hE hK hP 0 (by decide) (yG_9 rfl) rfl hin9 29 (by decide) mw_1363 rfl dX9_meets_119 ?_
        refine x_top (y := iI (z57)) ez57 ?_
        refine lv_iconst (v := iI (3)) hE.1 hE.2.1 dX9_meets_122 (by decide) ?_
        refine s_icmp_ne (a := z57) (b := 3) (tgt := 138) hE.1 hE.2.1 (by omega) (by omega) dX9_meets_123 (by decide) (fun _ => ?_) (fun c59 => False.elim (by omega))
        refine lv_aload_n hE.1 hE.2.1 dX9_meets_138 rfl (lv_at hl 2 rfl) ?_
        refine x_get (x := .int (v56 0 29)) hE hK hP 0 (by decide) (yG_9 rfl) rfl hin9 29 (by decide) mw_1363 rfl dX9_meets_139 ?_
        refine x_top (y := iI (z57)) ez57 ?_
        refine lv_iconst (v := iI (2)) hE.1 hE.2.1 dX9_meets_142 (by decide) ?_
        refine s_icmp_ne (a := z57) (b := 2) (tgt := 153) hE.1 hE.2.1 (by omega) (by omega) dX9_meets_143 (by decide) (fun _ => ?_) (fun c60 => False.elim (by omega))
        refine lv_aload_n hE.1 hE.2.1 dX9_meets_153 rfl (lv_at hl 2 rfl) ?_
        refine x_get (x := .int (v56 0 29)) hE hK hP 0 (by decide) (yG_9 rfl) rfl hin9 29 (by decide) mw_1363 rfl dX9_meets_154 ?_
        refine x_top (y := iI (z57)) ez57 ?_
        refine lv_iconst (v := iI (3)) hE.1 hE.2.1 dX9_meets_157 (by decide) ?_
        refine s_icmp_ne (a := z57) (b := 3) (tgt := 166) hE.1 hE.2.1 (by omega) (by omega) dX9_meets_158 (by decide) (fun _ => ?_) (fun c61 => False.elim (by omega))
        refine lv_iload_n hE.1 hE.2.1 dX9_meets_166 rfl (lv_at hl 1 rfl) ?_
        refine lv_istore_n (lv' := [(3, .int (iI (w_1 - w_4))), (2, .int (iI (z5))), (1, .int (iI (w_1 - w_4))), (0, .ref (ad 0))]) hE.1 hE.2.1 dX9_meets_167 rfl hl (by decide) rfl (fun ls hl => ?_)
        refine lv_aload_n hE.1 hE.2.1 dX9_meets_168 rfl (lv_at hl 3 rfl) ?_
        obtain ⟨z62, hz62, ez62⟩ := YI_get hI 0 33 (-1) 9 (by decide)
        refine x_get (x := .int (v56 0 33)) hE hK hP 0 (by decide) (yG_9 rfl) rfl hin9 33 (by decide) mw_1367 rfl dX9_meets_169 ?_
        refine x_top (y := iI (z62)) ez62 ?_
        refine lv_iconst (v := iI (-1)) hE.1 hE.2.1 dX9_meets_172 (by decide) ?_
        refine s_icmp_eq (a := z62) (b := -1) (tgt := 201) hE.1 hE.2.1 (by omega) (by omega) dX9_meets_173 (by decide) (fun c63 => ?_) (fun c63 => ?_)
        · skip
          refine lv_aload_n hE.1 hE.2.1 dX9_meets_201 rfl (lv_at hl 3 rfl) ?_
          refine lv_iload_n hE.1 hE.2.1 dX9_meets_202 rfl (lv_at hl 0 rfl) ?_
          refine x_put (x := iI (w_1 - w_4)) hE hK hN hP hS 0 (by decide) (yG_9 rfl) rfl hin9 tyX9 tyX9_ok nmX9 32 (by decide) mw_1366 rfl rfl rfl (Nat.le_of_ble_eq_true rfl) (yG_9 rfl) dX9_meets_203 (fun v64 H locs hv64 hP hS => ?_)
          have hI := YI_putN hI hv64 (by decide)
          refine lv_aload_n hE.1 hE.2.1 dX9_meets_206 rfl (lv_at hl 3 rfl) ?_
          refine lv_iload_n hE.1 hE.2.1 dX9_meets_207 rfl (lv_at hl 2 rfl) ?_
          refine x_put (x := iI (w_1 - w_4)) hE hK hN hP hS 0 (by decide) (yG_9 rfl) rfl hin9 tyX9 tyX9_ok nmX9 33 (by decide) mw_1367 rfl rfl rfl (Nat.le_of_ble_eq_true rfl) (yG_9 rfl) dX9_meets_208 (fun v65 H locs hv65 hP hS => ?_)
          have hI := YI_putB (z := w_1 - w_4) hI hv65 (-1) 9 (by omega) (by decide) (by omega)
          refine lv_iconst (v := iI (0)) hE.1 hE.2.1 dX9_meets_211 (by decide) ?_
          refine lv_istore (lv' := [(4, .int (iI (0))), (3, .int (iI (w_1 - w_4))), (2, .int (iI (z5))), (1, .int (iI (w_1 - w_4))), (0, .ref (ad 0))]) hE.1 hE.2.1 dX9_meets_212 hl (by decide) rfl (fun ls hl => ?_)
          have loop66 : ∀ (k66 : Nat) (y66_4 : Int) (vl66 arl66 : sI) (all66 : sL) (H : Heap) (locs : List Loc) (ls : Array Slot), (9 - y66_4).toNat = k66 → (0 ≤ y66_4 ∧ y66_4 ≤ 9) → YI vl66 arl66 → (∀ i j : Nat, (i, j) ∉ ([] : List (Nat × Nat)) → vl66 i j = v65 i j) → (∀ i : Nat, i ∉ ([15] : List Nat) → arl66 i = ar47 i) → (∀ i : Nat, i ∉ ([] : List Nat) → all66 i = al i) → va_P D xcl (wW ad (yG ad K) 21 vl66 arl66 all66) H → va_S (inW ad 21) s.heap H locs → lv_has ls 5 [(4, .int (iI (y66_4))), (3, .int (iI (w_1 - w_4))), (2, .int (iI (z5))), (1, .int (iI (w_1 - w_4))), (0, .ref (ad 0))] → W p l e (rmD 3) s m args below meth c H locs 0 0 Q (F0 m 214 ls []) := by
            intro k66
            induction k66 using Nat.strongRecOn with
            | _ k66 ih66 =>
              intro y66_4  vl66 arl66 all66 H locs ls hk66 hb_y66_4 hI hfr66 hfa66 hfl66 hP hS hl
              refine lv_iload hE.1 hE.2.1 dX9_meets_214 (lv_at hl 0 rfl) ?_
              refine lv_iload_n hE.1 hE.2.1 dX9_meets_216 rfl (lv_at hl 3 rfl) ?_
              refine s_icmp_ge (a := y66_4) (b := w_1 - w_4) (tgt := 245) hE.1 hE.2.1 (by omega) (by omega) dX9_meets_217 (by decide) (fun c67 => ?_) (fun c67 => ?_)
              · skip
                exact kr vl66 arl66 all66 _ _ _ _ ⟨hI, fun i j h => ((hfr66 i j (fun q => h (mem_sub (by decide) q))).trans ((up_oth hv65 (fun q => h (by rcases q with ⟨rfl, rfl⟩; decide))).trans ((up_oth hv64 (fun q => h (by rcases q with ⟨rfl, rfl⟩; decide))).trans ((up_oth hv56 (fun q => h (by rcases q with ⟨rfl, rfl⟩; decide))).trans ((up_oth hv53 (fun q => h (by rcases q with ⟨rfl, rfl⟩; decide))).trans ((up_oth hv50 (fun q => h (by rcases q with ⟨rfl, rfl⟩; decide))).trans (up_oth hv43 (fun q => h (by rcases q with ⟨rfl, rfl⟩; decide))))))))), fun i h => ((hfa66 i (fun q => h (mem_subn (by decide) q))).trans ((upx_ne ha47 i (fun q => h (by rw [q]; decide))).trans (upx_ne ha4 i (fun q => h (by rw [q]; decide))))), fun i h => (hfl66 i (fun q => h (mem_subn (by decide) q)))⟩ hP hS dX9_meets_245
              · skip
                refine lv_aload_n hE.1 hE.2.1 dX9_meets_220 rfl (lv_at hl 4 rfl) ?_
                refine x_get (x := .ref (ad 15)) hE hK hP 0 (by decide) (yG_9 rfl) rfl hin9 34 (by decide) mw_1368 rfl dX9_meets_221 ?_
                refine lv_iload hE.1 hE.2.1 dX9_meets_224 (lv_at hl 0 rfl) ?_
                refine lv_aload_n hE.1 hE.2.1 dX9_meets_226 rfl (lv_at hl 4 rfl) ?_
                refine x_get (x := .ref (ad 12)) hE hK hP 0 (by decide) (yG_9 rfl) rfl hin9 22 (by decide) mw_1356 rfl dX9_meets_227 ?_
                refine lv_aload_n hE.1 hE.2.1 dX9_meets_230 rfl (lv_at hl 4 rfl) ?_
                refine x_get (x := .int (vl66 0 31)) hE hK hP 0 (by decide) (yG_9 rfl) rfl hin9 31 (by decide) mw_1365 rfl dX9_meets_231 ?_
                refine x_top (y := iI (w_4)) ((hfr66 0 31 (by decide)).trans ((up_oth hv65 (by decide)).trans ((up_oth hv64 (by decide)).trans ((up_oth hv56 (by decide)).trans ((up_oth hv53 (by decide)).trans ((up_oth hv50 (by decide)).trans ((up_oth hv43 (by decide)).trans ew_4))))))) ?_
                refine lv_iload hE.1 hE.2.1 dX9_meets_234 (lv_at hl 0 rfl) ?_
                refine lv_iadd hE.1 hE.2.1 dX9_meets_236 ?_
                refine x_top (y := iI (w_4 + y66_4)) ((iI_add (w_4) (y66_4)).trans (congrArg iI (by omega))) ?_
                refine x_iald (j := iI (w_4 + y66_4)) hE hK hP 12 (by decide) (yG_10 rfl) (iI_in (n := 60) (by omega)) dX9_meets_237 ?_
                obtain ⟨z69, hz69, ez69⟩ := YI_a12 hI ((iI (w_4 + y66_4)).toNatClampNeg)
                refine x_top ez69 ?_
                refine x_iast (j := iI (y66_4)) hE hK hN hP hS 15 (by decide) (fun _ => yG_10 rfl) (iI_in (n := 9) (by omega)) dX9_meets_238 (fun ar70 H locs ha70 hP hS => ?_)
                have hI := YI_ast hI ha70 (by decide)
                refine lv_iinc (v := iI (y66_4 + 1)) (lv' := [(4, .int (iI (y66_4 + 1))), (3, .int (iI (w_1 - w_4))), (2, .int (iI (z5))), (1, .int (iI (w_1 - w_4))), (0, .ref (ad 0))]) hE.1 hE.2.1 dX9_meets_239 hl (k := 0) rfl ((iI_add (y66_4) (1)).trans (congrArg iI (by omega))) (by decide) rfl (fun ls hl => ?_)
                refine lv_goto (tgt := 214) hE.1 hE.2.1 dX9_meets_242 (by decide) ?_
                exact ih66 _ (by omega) (y66_4 + 1)  vl66 ar70 all66 _ _ _ rfl (by omega)  hI (fun i j h => (hfr66 i j h)) (fun i h => ((upx_ne ha70 i (fun q => h (by rw [q]; decide))).trans (hfa66 i h))) (fun i h => (hfl66 i h)) hP hS (lv_sub hl [0, 1, 2, 3, 4] rfl)
          exact loop66 _ (0)  v65 ar47 al _ _ _ rfl (by omega)  hI (fun _ _ _ => rfl) (fun _ _ => rfl) (fun _ _ => rfl) hP hS hl
        · skip
          refine lv_iload_n hE.1 hE.2.1 dX9_meets_176 rfl (lv_at hl 0 rfl) ?_
          refine lv_aload_n hE.1 hE.2.1 dX9_meets_177 rfl (lv_at hl 3 rfl) ?_
          obtain ⟨z71, hz71, ez71⟩ := iI_of (v56 0 32)
          refine x_get (x := .int (v56 0 32)) hE hK hP 0 (by decide) (yG_9 rfl) rfl hin9 32 (by decide) mw_1366 rfl dX9_meets_178 ?_
          refine x_top (y := iI (z71)) ez71 ?_
          refine s_icmp_lt (a := w_1 - w_4) (b := z71) (tgt := 200) hE.1 hE.2.1 (by omega) (by omega) dX9_meets_181 (by decide) (fun c72 => ?_) (fun c72 => ?_)
          · skip
            exact kr v56 ar47 al _ _ _ _ ⟨hI, fun i j h => ((up_oth hv56 (fun q => h (by rcases q with ⟨rfl, rfl⟩; decide))).trans ((up_oth hv53 (fun q => h (by rcases q with ⟨rfl, rfl⟩; decide))).trans ((up_oth hv50 (fun q => h (by rcases q with ⟨rfl, rfl⟩; decide))).trans (up_oth hv43 (fun q => h (by rcases q with ⟨rfl, rfl⟩; decide)))))), fun i h => ((upx_ne ha47 i (fun q => h (by rw [q]; decide))).trans (upx_ne ha4 i (fun q => h (by rw [q]; decide)))), fun i h => rfl⟩ hP hS dX9_meets_200
          · skip
            refine lv_iload_n hE.1 hE.2.1 dX9_meets_184 rfl (lv_at hl 0 rfl) ?_
            refine lv_aload_n hE.1 hE.2.1 dX9_meets_185 rfl (lv_at hl 3 rfl) ?_
            refine x_get (x := .int (v56 0 32)) hE hK hP 0 (by decide) (yG_9 rfl) rfl hin9 32 (by decide) mw_1366 rfl dX9_meets_186 ?_
            refine x_top (y := iI (z71)) ez71 ?_
            refine s_icmp_ne (a := w_1 - w_4) (b := z71) (tgt := 201) hE.1 hE.2.1 (by omega) (by omega) dX9_meets_189 (by decide) (fun c73 => ?_) (fun c73 => ?_)
            · skip
              refine lv_aload_n hE.1 hE.2.1 dX9_meets_201 rfl (lv_at hl 3 rfl) ?_
              refine lv_iload_n hE.1 hE.2.1 dX9_meets_202 rfl (lv_at hl 0 rfl) ?_
              refine x_put (x := iI (w_1 - w_4)) hE hK hN hP hS 0 (by decide) (yG_9 rfl) rfl hin9 tyX9 tyX9_ok nmX9 32 (by decide) mw_1366 rfl rfl rfl (Nat.le_of_ble_eq_true rfl) (yG_9 rfl) dX9_meets_203 (fun v74 H locs hv74 hP hS => ?_)
              have hI := YI_putN hI hv74 (by decide)
              refine lv_aload_n hE.1 hE.2.1 dX9_meets_206 rfl (lv_at hl 3 rfl) ?_
              refine lv_iload_n hE.1 hE.2.1 dX9_meets_207 rfl (lv_at hl 2 rfl) ?_
              refine x_put (x := iI (w_1 - w_4)) hE hK hN hP hS 0 (by decide) (yG_9 rfl) rfl hin9 tyX9 tyX9_ok nmX9 33 (by decide) mw_1367 rfl rfl rfl (Nat.le_of_ble_eq_true rfl) (yG_9 rfl) dX9_meets_208 (fun v75 H locs hv75 hP hS => ?_)
              have hI := YI_putB (z := w_1 - w_4) hI hv75 (-1) 9 (by omega) (by decide) (by omega)
              refine lv_iconst (v := iI (0)) hE.1 hE.2.1 dX9_meets_211 (by decide) ?_
              refine lv_istore (lv' := [(4, .int (iI (0))), (3, .int (iI (w_1 - w_4))), (2, .int (iI (z5))), (1, .int (iI (w_1 - w_4))), (0, .ref (ad 0))]) hE.1 hE.2.1 dX9_meets_212 hl (by decide) rfl (fun ls hl => ?_)
              have loop76 : ∀ (k76 : Nat) (y76_4 : Int) (vl76 arl76 : sI) (all76 : sL) (H : Heap) (locs : List Loc) (ls : Array Slot), (9 - y76_4).toNat = k76 → (0 ≤ y76_4 ∧ y76_4 ≤ 9) → YI vl76 arl76 → (∀ i j : Nat, (i, j) ∉ ([] : List (Nat × Nat)) → vl76 i j = v75 i j) → (∀ i : Nat, i ∉ ([15] : List Nat) → arl76 i = ar47 i) → (∀ i : Nat, i ∉ ([] : List Nat) → all76 i = al i) → va_P D xcl (wW ad (yG ad K) 21 vl76 arl76 all76) H → va_S (inW ad 21) s.heap H locs → lv_has ls 5 [(4, .int (iI (y76_4))), (3, .int (iI (w_1 - w_4))), (2, .int (iI (z5))), (1, .int (iI (w_1 - w_4))), (0, .ref (ad 0))] → W p l e (rmD 3) s m args below meth c H locs 0 0 Q (F0 m 214 ls []) := by
                intro k76
                induction k76 using Nat.strongRecOn with
                | _ k76 ih76 =>
                  intro y76_4  vl76 arl76 all76 H locs ls hk76 hb_y76_4 hI hfr76 hfa76 hfl76 hP hS hl
                  refine lv_iload hE.1 hE.2.1 dX9_meets_214 (lv_at hl 0 rfl) ?_
                  refine lv_iload_n hE.1 hE.2.1 dX9_meets_216 rfl (lv_at hl 3 rfl) ?_
                  refine s_icmp_ge (a := y76_4) (b := w_1 - w_4) (tgt := 245) hE.1 hE.2.1 (by omega) (by omega) dX9_meets_217 (by decide) (fun c77 => ?_) (fun c77 => ?_)
                  · skip
                    exact kr vl76 arl76 all76 _ _ _ _ ⟨hI, fun i j h => ((hfr76 i j (fun q => h (mem_sub (by decide) q))).trans ((up_oth hv75 (fun q => h (by rcases q with ⟨rfl, rfl⟩; decide))).trans ((up_oth hv74 (fun q => h (by rcases q with ⟨rfl, rfl⟩; decide))).trans ((up_oth hv56 (fun q => h (by rcases q with ⟨rfl, rfl⟩; decide))).trans ((up_oth hv53 (fun q => h (by rcases q with ⟨rfl, rfl⟩; decide))).trans ((up_oth hv50 (fun q => h (by rcases q with ⟨rfl, rfl⟩; decide))).trans (up_oth hv43 (fun q => h (by rcases q with ⟨rfl, rfl⟩; decide))))))))), fun i h => ((hfa76 i (fun q => h (mem_subn (by decide) q))).trans ((upx_ne ha47 i (fun q => h (by rw [q]; decide))).trans (upx_ne ha4 i (fun q => h (by rw [q]; decide))))), fun i h => (hfl76 i (fun q => h (mem_subn (by decide) q)))⟩ hP hS dX9_meets_245
                  · skip
                    refine lv_aload_n hE.1 hE.2.1 dX9_meets_220 rfl (lv_at hl 4 rfl) ?_
                    refine x_get (x := .ref (ad 15)) hE hK hP 0 (by decide) (yG_9 rfl) rfl hin9 34 (by decide) mw_1368 rfl dX9_meets_221 ?_
                    refine lv_iload hE.1 hE.2.1 dX9_meets_224 (lv_at hl 0 rfl) ?_
                    refine lv_aload_n hE.1 hE.2.1 dX9_meets_226 rfl (lv_at hl 4 rfl) ?_
                    refine x_get (x := .ref (ad 12)) hE hK hP 0 (by decide) (yG_9 rfl) rfl hin9 22 (by decide) mw_1356 rfl dX9_meets_227 ?_
                    refine lv_aload_n hE.1 hE.2.1 dX9_meets_230 rfl (lv_at hl 4 rfl) ?_
                    refine x_get (x := .int (vl76 0 31)) hE hK hP 0 (by decide) (yG_9 rfl) rfl hin9 31 (by decide) mw_1365 rfl dX9_meets_231 ?_
                    refine x_top (y := iI (w_4)) ((hfr76 0 31 (by decide)).trans ((up_oth hv75 (by decide)).trans ((up_oth hv74 (by decide)).trans ((up_oth hv56 (by decide)).trans ((up_oth hv53 (by decide)).trans ((up_oth hv50 (by decide)).trans ((up_oth hv43 (by decide)).trans ew_4))))))) ?_
                    refine lv_iload hE.1 hE.2.1 dX9_meets_234 (lv_at hl 0 rfl) ?_
                    refine lv_iadd hE.1 hE.2.1 dX9_meets_236 ?_
                    refine x_top (y := iI (w_4 + y76_4)) ((iI_add (w_4) (y76_4)).trans (congrArg iI (by omega))) ?_
                    refine x_iald (j := iI (w_4 + y76_4)) hE hK hP 12 (by decide) (yG_10 rfl) (iI_in (n := 60) (by omega)) dX9_meets_237 ?_
                    obtain ⟨z79, hz79, ez79⟩ := YI_a12 hI ((iI (w_4 + y76_4)).toNatClampNeg)
                    refine x_top ez79 ?_
                    refine x_iast (j := iI (y76_4)) hE hK hN hP hS 15 (by decide) (fun _ => yG_10 rfl) (iI_in (n := 9) (by omega)) dX9_meets_238 (fun ar80 H locs ha80 hP hS => ?_)
                    have hI := YI_ast hI ha80 (by decide)
                    refine lv_iinc (v := iI (y76_4 + 1)) (lv' := [(4, .int (iI (y76_4 + 1))), (3, .int (iI (w_1 - w_4))), (2, .int (iI (z5))), (1, .int (iI (w_1 - w_4))), (0, .ref (ad 0))]) hE.1 hE.2.1 dX9_meets_239 hl (k := 0) rfl ((iI_add (y76_4) (1)).trans (congrArg iI (by omega))) (by decide) rfl (fun ls hl => ?_)
                    refine lv_goto (tgt := 214) hE.1 hE.2.1 dX9_meets_242 (by decide) ?_
                    exact ih76 _ (by omega) (y76_4 + 1)  vl76 ar80 all76 _ _ _ rfl (by omega)  hI (fun i j h => (hfr76 i j h)) (fun i h => ((upx_ne ha80 i (fun q => h (by rw [q]; decide))).trans (hfa76 i h))) (fun i h => (hfl76 i h)) hP hS (lv_sub hl [0, 1, 2, 3, 4] rfl)
              exact loop76 _ (0)  v75 ar47 al _ _ _ rfl (by omega)  hI (fun _ _ _ => rfl) (fun _ _ => rfl) (fun _ _ => rfl) hP hS hl
            · skip
              refine lv_aload_n hE.1 hE.2.1 dX9_meets_192 rfl (lv_at hl 3 rfl) ?_
              refine lv_iload_n hE.1 hE.2.1 dX9_meets_193 rfl (lv_at hl 2 rfl) ?_
              refine x_vp (nn := 1) (As := [.int (iI (w_1 - w_4))]) (rest := []) hE (s_X9_isAhead_e l D K ad v56 ar47 al hI  (w_1 - w_4) (by omega)) wPre_blind (wPre_now hK hN hP) (x_recv hK hP 0 (by decide) (yG_9 rfl) rfl) rfl mw_1818 mw_1820 mw_90 mw_123 mw_1821 (by decide +kernel) ⟨by decide, by decide⟩ hl.1 rfl (Nat.le_of_ble_eq_true rfl) ⟨Nat.zero_le _, Nat.zero_le _⟩ dX9_meets_194 (fun r81 hr81 => ?_)
              obtain ⟨z81, hz81, rfl⟩ := hr81
              refine s_if_ne (a := z81) (tgt := 201) hE.1 hE.2.1 (by omega) dX9_meets_197 (by decide) (fun c82 => ?_) (fun c82 => ?_)
              · skip
                refine lv_aload_n hE.1 hE.2.1 dX9_meets_201 rfl (lv_at hl 3 rfl) ?_
                refine lv_iload_n hE.1 hE.2.1 dX9_meets_202 rfl (lv_at hl 0 rfl) ?_
                refine x_put (x := iI (w_1 - w_4)) hE hK hN hP hS 0 (by decide) (yG_9 rfl) rfl hin9 tyX9 tyX9_ok nmX9 32 (by decide) mw_1366 rfl rfl rfl (Nat.le_of_ble_eq_true rfl) (yG_9 rfl) dX9_meets_203 (fun v83 H locs hv83 hP hS => ?_)
                have hI := YI_putN hI hv83 (by decide)
                refine lv_aload_n hE.1 hE.2.1 dX9_meets_206 rfl (lv_at hl 3 rfl) ?_
                refine lv_iload_n hE.1 hE.2.1 dX9_meets_207 rfl (lv_at hl 2 rfl) ?_
                refine x_put (x := iI (w_1 - w_4)) hE hK hN hP hS 0 (by decide) (yG_9 rfl) rfl hin9 tyX9 tyX9_ok nmX9 33 (by decide) mw_1367 rfl rfl rfl (Nat.le_of_ble_eq_true rfl) (yG_9 rfl) dX9_meets_208 (fun v84 H locs hv84 hP hS => ?_)
                have hI := YI_putB (z := w_1 - w_4) hI hv84 (-1) 9 (by omega) (by decide) (by omega)
                refine lv_iconst (v := iI (0)) hE.1 hE.2.1 dX9_meets_211 (by decide) ?_
                refine lv_istore (lv' := [(4, .int (iI (0))), (3, .int (iI (w_1 - w_4))), (2, .int (iI (z5))), (1, .int (iI (w_1 - w_4))), (0, .ref (ad 0))]) hE.1 hE.2.1 dX9_meets_212 hl (by decide) rfl (fun ls hl => ?_)
                have loop85 : ∀ (k85 : Nat) (y85_4 : Int) (vl85 arl85 : sI) (all85 : sL) (H : Heap) (locs : List Loc) (ls : Array Slot), (9 - y85_4).toNat = k85 → (0 ≤ y85_4 ∧ y85_4 ≤ 9) → YI vl85 arl85 → (∀ i j : Nat, (i, j) ∉ ([] : List (Nat × Nat)) → vl85 i j = v84 i j) → (∀ i : Nat, i ∉ ([15] : List Nat) → arl85 i = ar47 i) → (∀ i : Nat, i ∉ ([] : List Nat) → all85 i = al i) → va_P D xcl (wW ad (yG ad K) 21 vl85 arl85 all85) H → va_S (inW ad 21) s.heap H locs → lv_has ls 5 [(4, .int (iI (y85_4))), (3, .int (iI (w_1 - w_4))), (2, .int (iI (z5))), (1, .int (iI (w_1 - w_4))), (0, .ref (ad 0))] → W p l e (rmD 3) s m args below meth c H locs 0 0 Q (F0 m 214 ls []) := by
                  intro k85
                  induction k85 using Nat.strongRecOn with
                  | _ k85 ih85 =>
                    intro y85_4  vl85 arl85 all85 H locs ls hk85 hb_y85_4 hI hfr85 hfa85 hfl85 hP hS hl
                    refine lv_iload hE.1 hE.2.1 dX9_meets_214 (lv_at hl 0 rfl) ?_
                    refine lv_iload_n hE.1 hE.2.1 dX9_meets_216 rfl (lv_at hl 3 rfl) ?_
                    refine s_icmp_ge (a := y85_4) (b := w_1 - w_4) (tgt := 245) hE.1 hE.2.1 (by omega) (by omega) dX9_meets_217 (by decide) (fun c86 => ?_) (fun c86 => ?_)
                    · skip
                      exact kr vl85 arl85 all85 _ _ _ _ ⟨hI, fun i j h => ((hfr85 i j (fun q => h (mem_sub (by decide) q))).trans ((up_oth hv84 (fun q => h (by rcases q with ⟨rfl, rfl⟩; decide))).trans ((up_oth hv83 (fun q => h (by rcases q with ⟨rfl, rfl⟩; decide))).trans ((up_oth hv56 (fun q => h (by rcases q with ⟨rfl, rfl⟩; decide))).trans ((up_oth hv53 (fun q => h (by rcases q with ⟨rfl, rfl⟩; decide))).trans ((up_oth hv50 (fun q => h (by rcases q with ⟨rfl, rfl⟩; decide))).trans (up_oth hv43 (fun q => h (by rcases q with ⟨rfl, rfl⟩; decide))))))))), fun i h => ((hfa85 i (fun q => h (mem_subn (by decide) q))).trans ((upx_ne ha47 i (fun q => h (by rw [q]; decide))).trans (upx_ne ha4 i (fun q => h (by rw [q]; decide))))), fun i h => (hfl85 i (fun q => h (mem_subn (by decide) q)))⟩ hP hS dX9_meets_245
                    · skip
                      refine lv_aload_n hE.1 hE.2.1 dX9_meets_220 rfl (lv_at hl 4 rfl) ?_
                      refine x_get (x := .ref (ad 15)) hE hK hP 0 (by decide) (yG_9 rfl) rfl hin9 34 (by decide) mw_1368 rfl dX9_meets_221 ?_
                      refine lv_iload hE.1 hE.2.1 dX9_meets_224 (lv_at hl 0 rfl) ?_
                      refine lv_aload_n hE.1 hE.2.1 dX9_meets_226 rfl (lv_at hl 4 rfl) ?_
                      refine x_get (x := .ref (ad 12)) hE hK hP 0 (by decide) (yG_9 rfl) rfl hin9 22 (by decide) mw_1356 rfl dX9_meets_227 ?_
                      refine lv_aload_n hE.1 hE.2.1 dX9_meets_230 rfl (lv_at hl 4 rfl) ?_
                      refine x_get (x := .int (vl85 0 31)) hE hK hP 0 (by decide) (yG_9 rfl) rfl hin9 31 (by decide) mw_1365 rfl dX9_meets_231 ?_
                      refine x_top (y := iI (w_4)) ((hfr85 0 31 (by decide)).trans ((up_oth hv84 (by decide)).trans ((up_oth hv83 (by decide)).trans ((up_oth hv56 (by decide)).trans ((up_oth hv53 (by decide)).trans ((up_oth hv50 (by decide)).trans ((up_oth hv43 (by decide)).trans ew_4))))))) ?_
                      refine lv_iload hE.1 hE.2.1 dX9_meets_234 (lv_at hl 0 rfl) ?_
                      refine lv_iadd hE.1 hE.2.1 dX9_meets_236 ?_
                      refine x_top (y := iI (w_4 + y85_4)) ((iI_add (w_4) (y85_4)).trans (congrArg iI (by omega))) ?_
                      refine x_iald (j := iI (w_4 + y85_4)) hE hK hP 12 (by decide) (yG_10 rfl) (iI_in (n := 60) (by omega)) dX9_meets_237 ?_
                      obtain ⟨z88, hz88, ez88⟩ := YI_a12 hI ((iI (w_4 + y85_4)).toNatClampNeg)
                      refine x_top ez88 ?_
                      refine x_iast (j := iI (y85_4)) hE hK hN hP hS 15 (by decide) (fun _ => yG_10 rfl) (iI_in (n := 9) (by omega)) dX9_meets_238 (fun ar89 H locs ha89 hP hS => ?_)
                      have hI := YI_ast hI ha89 (by decide)
                      refine lv_iinc (v := iI (y85_4 + 1)) (lv' := [(4, .int (iI (y85_4 + 1))), (3, .int (iI (w_1 - w_4))), (2, .int (iI (z5))), (1, .int (iI (w_1 - w_4))), (0, .ref (ad 0))]) hE.1 hE.2.1 dX9_meets_239 hl (k := 0) rfl ((iI_add (y85_4) (1)).trans (congrArg iI (by omega))) (by decide) rfl (fun ls hl => ?_)
                      refine lv_goto (tgt := 214) hE.1 hE.2.1 dX9_meets_242 (by decide) ?_
                      exact ih85 _ (by omega) (y85_4 + 1)  vl85 ar89 all85 _ _ _ rfl (by omega)  hI (fun i j h => (hfr85 i j h)) (fun i h => ((upx_ne ha89 i (fun q => h (by rw [q]; decide))).trans (hfa85 i h))) (fun i h => (hfl85 i h)) hP hS (lv_sub hl [0, 1, 2, 3, 4] rfl)
                exact loop85 _ (0)  v84 ar47 al _ _ _ rfl (by omega)  hI (fun _ _ _ => rfl) (fun _ _ => rfl) (fun _ _ => rfl) hP hS hl
              · skip
                exact kr v56 ar47 al _ _ _ _ ⟨hI, fun i j h => ((up_oth hv56 (fun q => h (by rcases q with ⟨rfl, rfl⟩; decide))).trans ((up_oth hv53 (fun q => h (by rcases q with ⟨rfl, rfl⟩; decide))).trans ((up_oth hv50 (fun q => h (by rcases q with ⟨rfl, rfl⟩; decide))).trans (up_oth hv43 (fun q => h (by rcases q with ⟨rfl, rfl⟩; decide)))))), fun i h => ((upx_ne ha47 i (fun q => h (by rw [q]; decide))).trans (upx_ne ha4 i (fun q => h (by rw [q]; decide)))), fun i h => rfl⟩ hP hS dX9_meets_200
      · skip
        refine lv_iload_n hE.1 hE.2.1 dX9_meets_114 rfl (lv_at hl 0 rfl) ?_
        refine s_if_eq (a := z5) (tgt := 137) hE.1 hE.2.1 (by omega) dX9_meets_115 (by decide) (fun c90 => False.elim (by omega)) (fun _ => ?_)
        refine lv_aload_n hE.1 hE.2.1 dX9_meets_118 rfl (lv_at hl 2 rfl) ?_
        refine x_get (x := .int (v56 0 29)) hE hK hP 0 (by decide) (yG_9 rfl) rfl hin9 29 (by decide) mw_1363 rfl dX9_meets_119 ?_
        refine x_top (y := iI (z57)) ez57 ?_
        refine lv_iconst (v := iI (3)) hE.1 hE.2.1 dX9_meets_122 (by decide) ?_
        refine s_icmp_ne (a := z57) (b := 3) (tgt := 138) hE.1 hE.2.1 (by omega) (by omega) dX9_meets_123 (by decide) (fun c91 => ?_) (fun c91 => ?_)
        · skip
          refine lv_aload_n hE.1 hE.2.1 dX9_meets_138 rfl (lv_at hl 2 rfl) ?_
          refine x_get (x := .int (v56 0 29)) hE hK hP 0 (by decide) (yG_9 rfl) rfl hin9 29 (by decide) mw_1363 rfl dX9_meets_139 ?_
          refine x_top (y := iI (z57)) ez57 ?_
          refine lv_iconst (v := iI (2)) hE.1 hE.2.1 dX9_meets_142 (by decide) ?_
          refine s_icmp_ne (a := z57) (b := 2) (tgt := 153) hE.1 hE.2.1 (by omega) (by omega) dX9_meets_143 (by decide) (fun c92 => ?_) (fun c92 => ?_)
          · skip
            refine lv_aload_n hE.1 hE.2.1 dX9_meets_153 rfl (lv_at hl 2 rfl) ?_
            refine x_get (x := .int (v56 0 29)) hE hK hP 0 (by decide) (yG_9 rfl) rfl hin9 29 (by decide) mw_1363 rfl dX9_meets_154 ?_
            refine x_top (y := iI (z57)) ez57 ?_
            refine lv_iconst (v := iI (3)) hE.1 hE.2.1 dX9_meets_157 (by decide) ?_
            refine s_icmp_ne (a := z57) (b := 3) (tgt := 166) hE.1 hE.2.1 (by omega) (by omega) dX9_meets_158 (by decide) (fun c93 => ?_) (fun c93 => ?_)
            · skip
              refine lv_iload_n hE.1 hE.2.1 dX9_meets_166 rfl (lv_at hl 1 rfl) ?_
              refine lv_istore_n (lv' := [(3, .int (iI (w_1 - w_4))), (2, .int (iI (z5))), (1, .int (iI (w_1 - w_4))), (0, .ref (ad 0))]) hE.1 hE.2.1 dX9_meets_167 rfl hl (by decide) rfl (fun ls hl => ?_)
              refine lv_aload_n hE.1 hE.2.1 dX9_meets_168 rfl (lv_at hl 3 rfl) ?_
              obtain ⟨z94, hz94, ez94⟩ := YI_get hI 0 33 (-1) 9 (by decide)
              refine x_get (x := .int (v56 0 33)) hE hK hP 0 (by decide) (yG_9 rfl) rfl hin9 33 (by decide) mw_1367 rfl dX9_meets_169 ?_
              refine x_top (y := iI (z94)) ez94 ?_
              refine lv_iconst (v := iI (-1)) hE.1 hE.2.1 dX9_meets_172 (by decide) ?_
              refine s_icmp_eq (a := z94) (b := -1) (tgt := 201) hE.1 hE.2.1 (by omega) (by omega) dX9_meets_173 (by decide) (fun c95 => ?_) (fun c95 => ?_)
              · skip
                refine lv_aload_n hE.1 hE.2.1 dX9_meets_201 rfl (lv_at hl 3 rfl) ?_
                refine lv_iload_n hE.1 hE.2.1 dX9_meets_202 rfl (lv_at hl 0 rfl) ?_
                refine x_put (x := iI (w_1 - w_4)) hE hK hN hP hS 0 (by decide) (yG_9 rfl) rfl hin9 tyX9 tyX9_ok nmX9 32 (by decide) mw_1366 rfl rfl rfl (Nat.le_of_ble_eq_true rfl) (yG_9 rfl) dX9_meets_203 (fun v96 H locs hv96 hP hS => ?_)
                have hI := YI_putN hI hv96 (by decide)
                refine lv_aload_n hE.1 hE.2.1 dX9_meets_206 rfl (lv_at hl 3 rfl) ?_
                refine lv_iload_n hE.1 hE.2.1 dX9_meets_207 rfl (lv_at hl 2 rfl) ?_
                refine x_put (x := iI (w_1 - w_4)) hE hK hN hP hS 0 (by decide) (yG_9 rfl) rfl hin9 tyX9 tyX9_ok nmX9 33 (by decide) mw_1367 rfl rfl rfl (Nat.le_of_ble_eq_true rfl) (yG_9 rfl) dX9_meets_208 (fun v97 H locs hv97 hP hS => ?_)
                have hI := YI_putB (z := w_1 - w_4) hI hv97 (-1) 9 (by omega) (by decide) (by omega)
                refine lv_iconst (v := iI (0)) hE.1 hE.2.1 dX9_meets_211 (by decide) ?_
                refine lv_istore (lv' := [(4, .int (iI (0))), (3, .int (iI (w_1 - w_4))), (2, .int (iI (z5))), (1, .int (iI (w_1 - w_4))), (0, .ref (ad 0))]) hE.1 hE.2.1 dX9_meets_212 hl (by decide) rfl (fun ls hl => ?_)
                have loop98 : ∀ (k98 : Nat) (y98_4 : Int) (vl98 arl98 : sI) (all98 : sL) (H : Heap) (locs : List Loc) (ls : Array Slot), (9 - y98_4).toNat = k98 → (0 ≤ y98_4 ∧ y98_4 ≤ 9) → YI vl98 arl98 → (∀ i j : Nat, (i, j) ∉ ([] : List (Nat × Nat)) → vl98 i j = v97 i j) → (∀ i : Nat, i ∉ ([15] : List Nat) → arl98 i = ar47 i) → (∀ i : Nat, i ∉ ([] : List Nat) → all98 i = al i) → va_P D xcl (wW ad (yG ad K) 21 vl98 arl98 all98) H → va_S (inW ad 21) s.heap H locs → lv_has ls 5 [(4, .int (iI (y98_4))), (3, .int (iI (w_1 - w_4))), (2, .int (iI (z5))), (1, .int (iI (w_1 - w_4))), (0, .ref (ad 0))] → W p l e (rmD 3) s m args below meth c H locs 0 0 Q (F0 m 214 ls []) := by
                  intro k98
                  induction k98 using Nat.strongRecOn with
                  | _ k98 ih98 =>
                    intro y98_4  vl98 arl98 all98 H locs ls hk98 hb_y98_4 hI hfr98 hfa98 hfl98 hP hS hl
                    refine lv_iload hE.1 hE.2.1 dX9_meets_214 (lv_at hl 0 rfl) ?_
                    refine lv_iload_n hE.1 hE.2.1 dX9_meets_216 rfl (lv_at hl 3 rfl) ?_
                    refine s_icmp_ge (a := y98_4) (b := w_1 - w_4) (tgt := 245) hE.1 hE.2.1 (by omega) (by omega) dX9_meets_217 (by decide) (fun c99 => ?_) (fun c99 => ?_)
                    · skip
                      exact kr vl98 arl98 all98 _ _ _ _ ⟨hI, fun i j h => ((hfr98 i j (fun q => h (mem_sub (by decide) q))).trans ((up_oth hv97 (fun q => h (by rcases q with ⟨rfl, rfl⟩; decide))).trans ((up_oth hv96 (fun q => h (by rcases q with ⟨rfl, rfl⟩; decide))).trans ((up_oth hv56 (fun q => h (by rcases q with ⟨rfl, rfl⟩; decide))).trans ((up_oth hv53 (fun q => h (by rcases q with ⟨rfl, rfl⟩; decide))).trans ((up_oth hv50 (fun q => h (by rcases q with ⟨rfl, rfl⟩; decide))).trans (up_oth hv43 (fun q => h (by rcases q with ⟨rfl, rfl⟩; decide))))))))), fun i h => ((hfa98 i (fun q => h (mem_subn (by decide) q))).trans ((upx_ne ha47 i (fun q => h (by rw [q]; decide))).trans (upx_ne ha4 i (fun q => h (by rw [q]; decide))))), fun i h => (hfl98 i (fun q => h (mem_subn (by decide) q)))⟩ hP hS dX9_meets_245
                    · skip
                      refine lv_aload_n hE.1 hE.2.1 dX9_meets_220 rfl (lv_at hl 4 rfl) ?_
                      refine x_get (x := .ref (ad 15)) hE hK hP 0 (by decide) (yG_9 rfl) rfl hin9 34 (by decide) mw_1368 rfl dX9_meets_221 ?_
                      refine lv_iload hE.1 hE.2.1 dX9_meets_224 (lv_at hl 0 rfl) ?_
                      refine lv_aload_n hE.1 hE.2.1 dX9_meets_226 rfl (lv_at hl 4 rfl) ?_
                      refine x_get (x := .ref (ad 12)) hE hK hP 0 (by decide) (yG_9 rfl) rfl hin9 22 (by decide) mw_1356 rfl dX9_meets_227 ?_
                      refine lv_aload_n hE.1 hE.2.1 dX9_meets_230 rfl (lv_at hl 4 rfl) ?_
                      refine x_get (x := .int (vl98 0 31)) hE hK hP 0 (by decide) (yG_9 rfl) rfl hin9 31 (by decide) mw_1365 rfl dX9_meets_231 ?_
                      refine x_top (y := iI (w_4)) ((hfr98 0 31 (by decide)).trans ((up_oth hv97 (by decide)).trans ((up_oth hv96 (by decide)).trans ((up_oth hv56 (by decide)).trans ((up_oth hv53 (by decide)).trans ((up_oth hv50 (by decide)).trans ((up_oth hv43 (by decide)).trans ew_4))))))) ?_
                      refine lv_iload hE.1 hE.2.1 dX9_meets_234 (lv_at hl 0 rfl) ?_
                      refine lv_iadd hE.1 hE.2.1 dX9_meets_236 ?_
                      refine x_top (y := iI (w_4 + y98_4)) ((iI_add (w_4) (y98_4)).trans (congrArg iI (by omega))) ?_
                      refine x_iald (j := iI (w_4 + y98_4)) hE hK hP 12 (by decide) (yG_10 rfl) (iI_in (n := 60) (by omega)) dX9_meets_237 ?_
                      obtain ⟨z101, hz101, ez101⟩ := YI_a12 hI ((iI (w_4 + y98_4)).toNatClampNeg)
                      refine x_top ez101 ?_
                      refine x_iast (j := iI (y98_4)) hE hK hN hP hS 15 (by decide) (fun _ => yG_10 rfl) (iI_in (n := 9) (by omega)) dX9_meets_238 (fun ar102 H locs ha102 hP hS => ?_)
                      have hI := YI_ast hI ha102 (by decide)
                      refine lv_iinc (v := iI (y98_4 + 1)) (lv' := [(4, .int (iI (y98_4 + 1))), (3, .int (iI (w_1 - w_4))), (2, .int (iI (z5))), (1, .int (iI (w_1 - w_4))), (0, .ref (ad 0))]) hE.1 hE.2.1 dX9_meets_239 hl (k := 0) rfl ((iI_add (y98_4) (1)).trans (congrArg iI (by omega))) (by decide) rfl (fun ls hl => ?_)
                      refine lv_goto (tgt := 214) hE.1 hE.2.1 dX9_meets_242 (by decide) ?_
                      exact ih98 _ (by omega) (y98_4 + 1)  vl98 ar102 all98 _ _ _ rfl (by omega)  hI (fun i j h => (hfr98 i j h)) (fun i h => ((upx_ne ha102 i (fun q => h (by rw [q]; decide))).trans (hfa98 i h))) (fun i h => (hfl98 i h)) hP hS (lv_sub hl [0, 1, 2, 3, 4] rfl)
                exact loop98 _ (0)  v97 ar47 al _ _ _ rfl (by omega)  hI (fun _ _ _ => rfl) (fun _ _ => rfl) (fun _ _ => rfl) hP hS hl
              · skip
                refine lv_iload_n hE.1 hE.2.1 dX9_meets_176 rfl (lv_at hl 0 rfl) ?_
                refine lv_aload_n hE.1 hE.2.1 dX9_meets_177 rfl (lv_at hl 3 rfl) ?_
                obtain ⟨z103, hz103, ez103⟩ := iI_of (v56 0 32)
                refine x_get (x := .int (v56 0 32)) hE hK hP 0 (by decide) (yG_9 rfl) rfl hin9 32 (by decide) mw_1366 rfl dX9_meets_178 ?_
                refine x_top (y := iI (z103)) ez103 ?_
                refine s_icmp_lt (a := w_1 - w_4) (b := z103) (tgt := 200) hE.1 hE.2.1 (by omega) (by omega) dX9_meets_181 (by decide) (fun c104 => ?_) (fun c104 => ?_)
                · skip
                  exact kr v56 ar47 al _ _ _ _ ⟨hI, fun i j h => ((up_oth hv56 (fun q => h (by rcases q with ⟨rfl, rfl⟩; decide))).trans ((up_oth hv53 (fun q => h (by rcases q with ⟨rfl, rfl⟩; decide))).trans ((up_oth hv50 (fun q => h (by rcases q with ⟨rfl, rfl⟩; decide))).trans (up_oth hv43 (fun q => h (by rcases q with ⟨rfl, rfl⟩; decide)))))), fun i h => ((upx_ne ha47 i (fun q => h (by rw [q]; decide))).trans (upx_ne ha4 i (fun q => h (by rw [q]; decide)))), fun i h => rfl⟩ hP hS dX9_meets_200
                · skip
                  refine lv_iload_n hE.1 hE.2.1 dX9_meets_184 rfl (lv_at hl 0 rfl) ?_
                  refine lv_aload_n hE.1 hE.2.1 dX9_meets_185 rfl (lv_at hl 3 rfl) ?_
                  refine x_get (x := .int (v56 0 32)) hE hK hP 0 (by decide) (yG_9 rfl) rfl hin9 32 (by decide) mw_1366 rfl dX9_meets_186 ?_
                  refine x_top (y := iI (z103)) ez103 ?_
                  refine s_icmp_ne (a := w_1 - w_4) (b := z103) (tgt := 201) hE.1 hE.2.1 (by omega) (by omega) dX9_meets_189 (by decide) (fun c105 => ?_) (fun c105 => ?_)
                  · skip
                    refine lv_aload_n hE.1 hE.2.1 dX9_meets_201 rfl (lv_at hl 3 rfl) ?_
                    refine lv_iload_n hE.1 hE.2.1 dX9_meets_202 rfl (lv_at hl 0 rfl) ?_
                    refine x_put (x := iI (w_1 - w_4)) hE hK hN hP hS 0 (by decide) (yG_9 rfl) rfl hin9 tyX9 tyX9_ok nmX9 32 (by decide) mw_1366 rfl rfl rfl (Nat.le_of_ble_eq_true rfl) (yG_9 rfl) dX9_meets_203 (fun v106 H locs hv106 hP hS => ?_)
                    have hI := YI_putN hI hv106 (by decide)
                    refine lv_aload_n hE.1 hE.2.1 dX9_meets_206 rfl (lv_at hl 3 rfl) ?_
                    refine lv_iload_n hE.1 hE.2.1 dX9_meets_207 rfl (lv_at hl 2 rfl) ?_
                    refine x_put (x := iI (w_1 - w_4)) hE hK hN hP hS 0 (by decide) (yG_9 rfl) rfl hin9 tyX9 tyX9_ok nmX9 33 (by decide) mw_1367 rfl rfl rfl (Nat.le_of_ble_eq_true rfl) (yG_9 rfl) dX9_meets_208 (fun v107 H locs hv107 hP hS => ?_)
                    have hI := YI_putB (z := w_1 - w_4) hI hv107 (-1) 9 (by omega) (by decide) (by omega)
                    refine lv_iconst (v := iI (0)) hE.1 hE.2.1 dX9_meets_211 (by decide) ?_
                    refine lv_istore (lv' := [(4, .int (iI (0))), (3, .int (iI (w_1 - w_4))), (2, .int (iI (z5))), (1, .int (iI (w_1 - w_4))), (0, .ref (ad 0))]) hE.1 hE.2.1 dX9_meets_212 hl (by decide) rfl (fun ls hl => ?_)
                    have loop108 : ∀ (k108 : Nat) (y108_4 : Int) (vl108 arl108 : sI) (all108 : sL) (H : Heap) (locs : List Loc) (ls : Array Slot), (9 - y108_4).toNat = k108 → (0 ≤ y108_4 ∧ y108_4 ≤ 9) → YI vl108 arl108 → (∀ i j : Nat, (i, j) ∉ ([] : List (Nat × Nat)) → vl108 i j = v107 i j) → (∀ i : Nat, i ∉ ([15] : List Nat) → arl108 i = ar47 i) → (∀ i : Nat, i ∉ ([] : List Nat) → all108 i = al i) → va_P D xcl (wW ad (yG ad K) 21 vl108 arl108 all108) H → va_S (inW ad 21) s.heap H locs → lv_has ls 5 [(4, .int (iI (y108_4))), (3, .int (iI (w_1 - w_4))), (2, .int (iI (z5))), (1, .int (iI (w_1 - w_4))), (0, .ref (ad 0))] → W p l e (rmD 3) s m args below meth c H locs 0 0 Q (F0 m 214 ls []) := by
                      intro k108
                      induction k108 using Nat.strongRecOn with
                      | _ k108 ih108 =>
                        intro y108_4  vl108 arl108 all108 H locs ls hk108 hb_y108_4 hI hfr108 hfa108 hfl108 hP hS hl
                        refine lv_iload hE.1 hE.2.1 dX9_meets_214 (lv_at hl 0 rfl) ?_
                        refine lv_iload_n hE.1 hE.2.1 dX9_meets_216 rfl (lv_at hl 3 rfl) ?_
                        refine s_icmp_ge (a := y108_4) (b := w_1 - w_4) (tgt := 245) hE.1 hE.2.1 (by omega) (by omega) dX9_meets_217 (by decide) (fun c109 => ?_) (fun c109 => ?_)
                        · skip
                          exact kr vl108 arl108 all108 _ _ _ _ ⟨hI, fun i j h => ((hfr108 i j (fun q => h (mem_sub (by decide) q))).trans ((up_oth hv107 (fun q => h (by rcases q with ⟨rfl, rfl⟩; decide))).trans ((up_oth hv106 (fun q => h (by rcases q with ⟨rfl, rfl⟩; decide))).trans ((up_oth hv56 (fun q => h (by rcases q with ⟨rfl, rfl⟩; decide))).trans ((up_oth hv53 (fun q => h (by rcases q with ⟨rfl, rfl⟩; decide))).trans ((up_oth hv50 (fun q => h (by rcases q with ⟨rfl, rfl⟩; decide))).trans (up_oth hv43 (fun q => h (by rcases q with ⟨rfl, rfl⟩; decide))))))))), fun i h => ((hfa108 i (fun q => h (mem_subn (by decide) q))).trans ((upx_ne ha47 i (fun q => h (by rw [q]; decide))).trans (upx_ne ha4 i (fun q => h (by rw [q]; decide))))), fun i h => (hfl108 i (fun q => h (mem_subn (by decide) q)))⟩ hP hS dX9_meets_245
                        · skip
                          refine lv_aload_n hE.1 hE.2.1 dX9_meets_220 rfl (lv_at hl 4 rfl) ?_
                          refine x_get (x := .ref (ad 15)) hE hK hP 0 (by decide) (yG_9 rfl) rfl hin9 34 (by decide) mw_1368 rfl dX9_meets_221 ?_
                          refine lv_iload hE.1 hE.2.1 dX9_meets_224 (lv_at hl 0 rfl) ?_
                          refine lv_aload_n hE.1 hE.2.1 dX9_meets_226 rfl (lv_at hl 4 rfl) ?_
                          refine x_get (x := .ref (ad 12)) hE hK hP 0 (by decide) (yG_9 rfl) rfl hin9 22 (by decide) mw_1356 rfl dX9_meets_227 ?_
                          refine lv_aload_n hE.1 hE.2.1 dX9_meets_230 rfl (lv_at hl 4 rfl) ?_
                          refine x_get (x := .int (vl108 0 31)) hE hK hP 0 (by decide) (yG_9 rfl) rfl hin9 31 (by decide) mw_1365 rfl dX9_meets_231 ?_
                          refine x_top (y := iI (w_4)) ((hfr108 0 31 (by decide)).trans ((up_oth hv107 (by decide)).trans ((up_oth hv106 (by decide)).trans ((up_oth hv56 (by decide)).trans ((up_oth hv53 (by decide)).trans ((up_oth hv50 (by decide)).trans ((up_oth hv43 (by decide)).trans ew_4))))))) ?_
                          refine lv_iload hE.1 hE.2.1 dX9_meets_234 (lv_at hl 0 rfl) ?_
                          refine lv_iadd hE.1 hE.2.1 dX9_meets_236 ?_
                          refine x_top (y := iI (w_4 + y108_4)) ((iI_add (w_4) (y108_4)).trans (congrArg iI (by omega))) ?_
                          refine x_iald (j := iI (w_4 + y108_4)) hE hK hP 12 (by decide) (yG_10 rfl) (iI_in (n := 60) (by omega)) dX9_meets_237 ?_
                          obtain ⟨z111, hz111, ez111⟩ := YI_a12 hI ((iI (w_4 + y108_4)).toNatClampNeg)
                          refine x_top ez111 ?_
                          refine x_iast (j := iI (y108_4)) hE hK hN hP hS 15 (by decide) (fun _ => yG_10 rfl) (iI_in (n := 9) (by omega)) dX9_meets_238 (fun ar112 H locs ha112 hP hS => ?_)
                          have hI := YI_ast hI ha112 (by decide)
                          refine lv_iinc (v := iI (y108_4 + 1)) (lv' := [(4, .int (iI (y108_4 + 1))), (3, .int (iI (w_1 - w_4))), (2, .int (iI (z5))), (1, .int (iI (w_1 - w_4))), (0, .ref (ad 0))]) hE.1 hE.2.1 dX9_meets_239 hl (k := 0) rfl ((iI_add (y108_4) (1)).trans (congrArg iI (by omega))) (by decide) rfl (fun ls hl => ?_)
                          refine lv_goto (tgt := 214) hE.1 hE.2.1 dX9_meets_242 (by decide) ?_
                          exact ih108 _ (by omega) (y108_4 + 1)  vl108 ar112 all108 _ _ _ rfl (by omega)  hI (fun i j h => (hfr108 i j h)) (fun i h => ((upx_ne ha112 i (fun q => h (by rw [q]; decide))).trans (hfa108 i h))) (fun i h => (hfl108 i h)) hP hS (lv_sub hl [0, 1, 2, 3, 4] rfl)
                    exact loop108 _ (0)  v107 ar47 al _ _ _ rfl (by omega)  hI (fun _ _ _ => rfl) (fun _ _ => rfl) (fun _ _ => rfl) hP hS hl
                  · skip
                    refine lv_aload_n hE.1 hE.2.1 dX9_meets_192 rfl (lv_at hl 3 rfl) ?_
                    refine lv_iload_n hE.1 hE.2.1 dX9_meets_193 rfl (lv_at hl 2 rfl) ?_
                    refine x_vp (nn := 1) (As := [.int (iI (w_1 - w_4))]) (rest := []) hE (s_X9_isAhead_e l D K ad v56 ar47 al hI  (w_1 - w_4) (by omega)) wPre_blind (wPre_now hK hN hP) (x_recv hK hP 0 (by decide) (yG_9 rfl) rfl) rfl mw_1818 mw_1820 mw_90 mw_123 mw_1821 (by decide +kernel) ⟨by decide, by decide⟩ hl.1 rfl (Nat.le_of_ble_eq_true rfl) ⟨Nat.zero_le _, Nat.zero_le _⟩ dX9_meets_194 (fun r113 hr113 => ?_)
                    obtain ⟨z113, hz113, rfl⟩ := hr113
                    refine s_if_ne (a := z113) (tgt := 201) hE.1 hE.2.1 (by omega) dX9_meets_197 (by decide) (fun c114 => ?_) (fun c114 => ?_)
                    · skip
                      refine lv_aload_n hE.1 hE.2.1 dX9_meets_201 rfl (lv_at hl 3 rfl) ?_
                      refine lv_iload_n hE.1 hE.2.1 dX9_meets_202 rfl (lv_at hl 0 rfl) ?_
                      refine x_put (x := iI (w_1 - w_4)) hE hK hN hP hS 0 (by decide) (yG_9 rfl) rfl hin9 tyX9 tyX9_ok nmX9 32 (by decide) mw_1366 rfl rfl rfl (Nat.le_of_ble_eq_true rfl) (yG_9 rfl) dX9_meets_203 (fun v115 H locs hv115 hP hS => ?_)
                      have hI := YI_putN hI hv115 (by decide)
                      refine lv_aload_n hE.1 hE.2.1 dX9_meets_206 rfl (lv_at hl 3 rfl) ?_
                      refine lv_iload_n hE.1 hE.2.1 dX9_meets_207 rfl (lv_at hl 2 rfl) ?_
                      refine x_put (x := iI (w_1 - w_4)) hE hK hN hP hS 0 (by decide) (yG_9 rfl) rfl hin9 tyX9 tyX9_ok nmX9 33 (by decide) mw_1367 rfl rfl rfl (Nat.le_of_ble_eq_true rfl) (yG_9 rfl) dX9_meets_208 (fun v116 H locs hv116 hP hS => ?_)
                      have hI := YI_putB (z := w_1 - w_4) hI hv116 (-1) 9 (by omega) (by decide) (by omega)
                      refine lv_iconst (v := iI (0)) hE.1 hE.2.1 dX9_meets_211 (by decide) ?_
                      refine lv_istore (lv' := [(4, .int (iI (0))), (3, .int (iI (w_1 - w_4))), (2, .int (iI (z5))), (1, .int (iI (w_1 - w_4))), (0, .ref (ad 0))]) hE.1 hE.2.1 dX9_meets_212 hl (by decide) rfl (fun ls hl => ?_)
                      have loop117 : ∀ (k117 : Nat) (y117_4 : Int) (vl117 arl117 : sI) (all117 : sL) (H : Heap) (locs : List Loc) (ls : Array Slot), (9 - y117_4).toNat = k117 → (0 ≤ y117_4 ∧ y117_4 ≤ 9) → YI vl117 arl117 → (∀ i j : Nat, (i, j) ∉ ([] : List (Nat × Nat)) → vl117 i j = v116 i j) → (∀ i : Nat, i ∉ ([15] : List Nat) → arl117 i = ar47 i) → (∀ i : Nat, i ∉ ([] : List Nat) → all117 i = al i) → va_P D xcl (wW ad (yG ad K) 21 vl117 arl117 all117) H → va_S (inW ad 21) s.heap H locs → lv_has ls 5 [(4, .int (iI (y117_4))), (3, .int (iI (w_1 - w_4))), (2, .int (iI (z5))), (1, .int (iI (w_1 - w_4))), (0, .ref (ad 0))] → W p l e (rmD 3) s m args below meth c H locs 0 0 Q (F0 m 214 ls []) := by
                        intro k117
                        induction k117 using Nat.strongRecOn with
                        | _ k117 ih117 =>
                          intro y117_4  vl117 arl117 all117 H locs ls hk117 hb_y117_4 hI hfr117 hfa117 hfl117 hP hS hl
                          refine lv_iload hE.1 hE.2.1 dX9_meets_214 (lv_at hl 0 rfl) ?_
                          refine lv_iload_n hE.1 hE.2.1 dX9_meets_216 rfl (lv_at hl 3 rfl) ?_
                          refine s_icmp_ge (a := y117_4) (b := w_1 - w_4) (tgt := 245) hE.1 hE.2.1 (by omega) (by omega) dX9_meets_217 (by decide) (fun c118 => ?_) (fun c118 => ?_)
                          · skip
                            exact kr vl117 arl117 all117 _ _ _ _ ⟨hI, fun i j h => ((hfr117 i j (fun q => h (mem_sub (by decide) q))).trans ((up_oth hv116 (fun q => h (by rcases q with ⟨rfl, rfl⟩; decide))).trans ((up_oth hv115 (fun q => h (by rcases q with ⟨rfl, rfl⟩; decide))).trans ((up_oth hv56 (fun q => h (by rcases q with ⟨rfl, rfl⟩; decide))).trans ((up_oth hv53 (fun q => h (by rcases q with ⟨rfl, rfl⟩; decide))).trans ((up_oth hv50 (fun q => h (by rcases q with ⟨rfl, rfl⟩; decide))).trans (up_oth hv43 (fun q => h (by rcases q with ⟨rfl, rfl⟩; decide))))))))), fun i h => ((hfa117 i (fun q => h (mem_subn (by decide) q))).trans ((upx_ne ha47 i (fun q => h (by rw [q]; decide))).trans (upx_ne ha4 i (fun q => h (by rw [q]; decide))))), fun i h => (hfl117 i (fun q => h (mem_subn (by decide) q)))⟩ hP hS dX9_meets_245
                          · skip
                            refine lv_aload_n hE.1 hE.2.1 dX9_meets_220 rfl (lv_at hl 4 rfl) ?_
                            refine x_get (x := .ref (ad 15)) hE hK hP 0 (by decide) (yG_9 rfl) rfl hin9 34 (by decide) mw_1368 rfl dX9_meets_221 ?_
                            refine lv_iload hE.1 hE.2.1 dX9_meets_224 (lv_at hl 0 rfl) ?_
                            refine lv_aload_n hE.1 hE.2.1 dX9_meets_226 rfl (lv_at hl 4 rfl) ?_
                            refine x_get (x := .ref (ad 12)) hE hK hP 0 (by decide) (yG_9 rfl) rfl hin9 22 (by decide) mw_1356 rfl dX9_meets_227 ?_
                            refine lv_aload_n hE.1 hE.2.1 dX9_meets_230 rfl (lv_at hl 4 rfl) ?_
                            refine x_get (x := .int (vl117 0 31)) hE hK hP 0 (by decide) (yG_9 rfl) rfl hin9 31 (by decide) mw_1365 rfl dX9_meets_231 ?_
                            refine x_top (y := iI (w_4)) ((hfr117 0 31 (by decide)).trans ((up_oth hv116 (by decide)).trans ((up_oth hv115 (by decide)).trans ((up_oth hv56 (by decide)).trans ((up_oth hv53 (by decide)).trans ((up_oth hv50 (by decide)).trans ((up_oth hv43 (by decide)).trans ew_4))))))) ?_
                            refine lv_iload hE.1 hE.2.1 dX9_meets_234 (lv_at hl 0 rfl) ?_
                            refine lv_iadd hE.1 hE.2.1 dX9_meets_236 ?_
                            refine x_top (y := iI (w_4 + y117_4)) ((iI_add (w_4) (y117_4)).trans (congrArg iI (by omega))) ?_
                            refine x_iald (j := iI (w_4 + y117_4)) hE hK hP 12 (by decide) (yG_10 rfl) (iI_in (n := 60) (by omega)) dX9_meets_237 ?_
                            obtain ⟨z120, hz120, ez120⟩ := YI_a12 hI ((iI (w_4 + y117_4)).toNatClampNeg)
                            refine x_top ez120 ?_
                            refine x_iast (j := iI (y117_4)) hE hK hN hP hS 15 (by decide) (fun _ => yG_10 rfl) (iI_in (n := 9) (by omega)) dX9_meets_238 (fun ar121 H locs ha121 hP hS => ?_)
                            have hI := YI_ast hI ha121 (by decide)
                            refine lv_iinc (v := iI (y117_4 + 1)) (lv' := [(4, .int (iI (y117_4 + 1))), (3, .int (iI (w_1 - w_4))), (2, .int (iI (z5))), (1, .int (iI (w_1 - w_4))), (0, .ref (ad 0))]) hE.1 hE.2.1 dX9_meets_239 hl (k := 0) rfl ((iI_add (y117_4) (1)).trans (congrArg iI (by omega))) (by decide) rfl (fun ls hl => ?_)
                            refine lv_goto (tgt := 214) hE.1 hE.2.1 dX9_meets_242 (by decide) ?_
                            exact ih117 _ (by omega) (y117_4 + 1)  vl117 ar121 all117 _ _ _ rfl (by omega)  hI (fun i j h => (hfr117 i j h)) (fun i h => ((upx_ne ha121 i (fun q => h (by rw [q]; decide))).trans (hfa117 i h))) (fun i h => (hfl117 i h)) hP hS (lv_sub hl [0, 1, 2, 3, 4] rfl)
                      exact loop117 _ (0)  v116 ar47 al _ _ _ rfl (by omega)  hI (fun _ _ _ => rfl) (fun _ _ => rfl) (fun _ _ => rfl) hP hS hl
                    · skip
                      exact kr v56 ar47 al _ _ _ _ ⟨hI, fun i j h => ((up_oth hv56 (fun q => h (by rcases q with ⟨rfl, rfl⟩; decide))).trans ((up_oth hv53 (fun q => h (by rcases q with ⟨rfl, rfl⟩; decide))).trans ((up_oth hv50 (fun q => h (by rcases q with ⟨rfl, rfl⟩; decide))).trans (up_oth hv43 (fun q => h (by rcases q with ⟨rfl, rfl⟩; decide)))))), fun i h => ((upx_ne ha47 i (fun q => h (by rw [q]; decide))).trans (upx_ne ha4 i (fun q => h (by rw [q]; decide)))), fun i h => rfl⟩ hP hS dX9_meets_200
            · skip
              refine lv_iload_n hE.1 hE.2.1 dX9_meets_161 rfl (lv_at hl 1 rfl) ?_
              refine lv_ineg hE.1 hE.2.1 dX9_meets_162 ?_
              obtain ⟨z122, hz122, ez122⟩ := iI_of (-iI (w_1 - w_4))
              refine x_top ez122 ?_
              refine lv_goto (tgt := 167) hE.1 hE.2.1 dX9_meets_163 (by decide) ?_
              refine lv_istore_n (lv' := [(3, .int (iI (z122))), (2, .int (iI (z5))), (1, .int (iI (w_1 - w_4))), (0, .ref (ad 0))]) hE.1 hE.2.1 dX9_meets_167 rfl hl (by decide) rfl (fun ls hl => ?_)
              refine lv_aload_n hE.1 hE.2.1 dX9_meets_168 rfl (lv_at hl 3 rfl) ?_
              obtain ⟨z123, hz123, ez123⟩ := YI_get hI 0 33 (-1) 9 (by decide)
              refine x_get (x := .int (v56 0 33)) hE hK hP 0 (by decide) (yG_9 rfl) rfl hin9 33 (by decide) mw_1367 rfl dX9_meets_169 ?_
              refine x_top (y := iI (z123)) ez123 ?_
              refine lv_iconst (v := iI (-1)) hE.1 hE.2.1 dX9_meets_172 (by decide) ?_
              refine s_icmp_eq (a := z123) (b := -1) (tgt := 201) hE.1 hE.2.1 (by omega) (by omega) dX9_meets_173 (by decide) (fun c124 => ?_) (fun c124 => ?_)
              · skip
                refine lv_aload_n hE.1 hE.2.1 dX9_meets_201 rfl (lv_at hl 3 rfl) ?_
                refine lv_iload_n hE.1 hE.2.1 dX9_meets_202 rfl (lv_at hl 0 rfl) ?_
                refine x_put (x := iI (z122)) hE hK hN hP hS 0 (by decide) (yG_9 rfl) rfl hin9 tyX9 tyX9_ok nmX9 32 (by decide) mw_1366 rfl rfl rfl (Nat.le_of_ble_eq_true rfl) (yG_9 rfl) dX9_meets_203 (fun v125 H locs hv125 hP hS => ?_)
                have hI := YI_putN hI hv125 (by decide)
                refine lv_aload_n hE.1 hE.2.1 dX9_meets_206 rfl (lv_at hl 3 rfl) ?_
                refine lv_iload_n hE.1 hE.2.1 dX9_meets_207 rfl (lv_at hl 2 rfl) ?_
                refine x_put (x := iI (w_1 - w_4)) hE hK hN hP hS 0 (by decide) (yG_9 rfl) rfl hin9 tyX9 tyX9_ok nmX9 33 (by decide) mw_1367 rfl rfl rfl (Nat.le_of_ble_eq_true rfl) (yG_9 rfl) dX9_meets_208 (fun v126 H locs hv126 hP hS => ?_)
                have hI := YI_putB (z := w_1 - w_4) hI hv126 (-1) 9 (by omega) (by decide) (by omega)
                refine lv_iconst (v := iI (0)) hE.1 hE.2.1 dX9_meets_211 (by decide) ?_
                refine lv_istore (lv' := [(4, .int (iI (0))), (3, .int (iI (z122))), (2, .int (iI (z5))), (1, .int (iI (w_1 - w_4))), (0, .ref (ad 0))]) hE.1 hE.2.1 dX9_meets_212 hl (by decide) rfl (fun ls hl => ?_)
                have loop127 : ∀ (k127 : Nat) (y127_4 : Int) (vl127 arl127 : sI) (all127 : sL) (H : Heap) (locs : List Loc) (ls : Array Slot), (9 - y127_4).toNat = k127 → (0 ≤ y127_4 ∧ y127_4 ≤ 9) → YI vl127 arl127 → (∀ i j : Nat, (i, j) ∉ ([] : List (Nat × Nat)) → vl127 i j = v126 i j) → (∀ i : Nat, i ∉ ([15] : List Nat) → arl127 i = ar47 i) → (∀ i : Nat, i ∉ ([] : List Nat) → all127 i = al i) → va_P D xcl (wW ad (yG ad K) 21 vl127 arl127 all127) H → va_S (inW ad 21) s.heap H locs → lv_has ls 5 [(4, .int (iI (y127_4))), (3, .int (iI (z122))), (2, .int (iI (z5))), (1, .int (iI (w_1 - w_4))), (0, .ref (ad 0))] → W p l e (rmD 3) s m args below meth c H locs 0 0 Q (F0 m 214 ls []) := by
                  intro k127
                  induction k127 using Nat.strongRecOn with
                  | _ k127 ih127 =>
                    intro y127_4  vl127 arl127 all127 H locs ls hk127 hb_y127_4 hI hfr127 hfa127 hfl127 hP hS hl
                    refine lv_iload hE.1 hE.2.1 dX9_meets_214 (lv_at hl 0 rfl) ?_
                    refine lv_iload_n hE.1 hE.2.1 dX9_meets_216 rfl (lv_at hl 3 rfl) ?_
                    refine s_icmp_ge (a := y127_4) (b := w_1 - w_4) (tgt := 245) hE.1 hE.2.1 (by omega) (by omega) dX9_meets_217 (by decide) (fun c128 => ?_) (fun c128 => ?_)
                    · skip
                      exact kr vl127 arl127 all127 _ _ _ _ ⟨hI, fun i j h => ((hfr127 i j (fun q => h (mem_sub (by decide) q))).trans ((up_oth hv126 (fun q => h (by rcases q with ⟨rfl, rfl⟩; decide))).trans ((up_oth hv125 (fun q => h (by rcases q with ⟨rfl, rfl⟩; decide))).trans ((up_oth hv56 (fun q => h (by rcases q with ⟨rfl, rfl⟩; decide))).trans ((up_oth hv53 (fun q => h (by rcases q with ⟨rfl, rfl⟩; decide))).trans ((up_oth hv50 (fun q => h (by rcases q with ⟨rfl, rfl⟩; decide))).trans (up_oth hv43 (fun q => h (by rcases q with ⟨rfl, rfl⟩; decide))))))))), fun i h => ((hfa127 i (fun q => h (mem_subn (by decide) q))).trans ((upx_ne ha47 i (fun q => h (by rw [q]; decide))).trans (upx_ne ha4 i (fun q => h (by rw [q]; decide))))), fun i h => (hfl127 i (fun q => h (mem_subn (by decide) q)))⟩ hP hS dX9_meets_245
                    · skip
                      refine lv_aload_n hE.1 hE.2.1 dX9_meets_220 rfl (lv_at hl 4 rfl) ?_
                      refine x_get (x := .ref (ad 15)) hE hK hP 0 (by decide) (yG_9 rfl) rfl hin9 34 (by decide) mw_1368 rfl dX9_meets_221 ?_
                      refine lv_iload hE.1 hE.2.1 dX9_meets_224 (lv_at hl 0 rfl) ?_
                      refine lv_aload_n hE.1 hE.2.1 dX9_meets_226 rfl (lv_at hl 4 rfl) ?_
                      refine x_get (x := .ref (ad 12)) hE hK hP 0 (by decide) (yG_9 rfl) rfl hin9 22 (by decide) mw_1356 rfl dX9_meets_227 ?_
                      refine lv_aload_n hE.1 hE.2.1 dX9_meets_230 rfl (lv_at hl 4 rfl) ?_
                      refine x_get (x := .int (vl127 0 31)) hE hK hP 0 (by decide) (yG_9 rfl) rfl hin9 31 (by decide) mw_1365 rfl dX9_meets_231 ?_
                      refine x_top (y := iI (w_4)) ((hfr127 0 31 (by decide)).trans ((up_oth hv126 (by decide)).trans ((up_oth hv125 (by decide)).trans ((up_oth hv56 (by decide)).trans ((up_oth hv53 (by decide)).trans ((up_oth hv50 (by decide)).trans ((up_oth hv43 (by decide)).trans ew_4))))))) ?_
                      refine lv_iload hE.1 hE.2.1 dX9_meets_234 (lv_at hl 0 rfl) ?_
                      refine lv_iadd hE.1 hE.2.1 dX9_meets_236 ?_
                      refine x_top (y := iI (w_4 + y127_4)) ((iI_add (w_4) (y127_4)).trans (congrArg iI (by omega))) ?_
                      refine x_iald (j := iI (w_4 + y127_4)) hE hK hP 12 (by decide) (yG_10 rfl) (iI_in (n := 60) (by omega)) dX9_meets_237 ?_
                      obtain ⟨z130, hz130, ez130⟩ := YI_a12 hI ((iI (w_4 + y127_4)).toNatClampNeg)
                      refine x_top ez130 ?_
                      refine x_iast (j := iI (y127_4)) hE hK hN hP hS 15 (by decide) (fun _ => yG_10 rfl) (iI_in (n := 9) (by omega)) dX9_meets_238 (fun ar131 H locs ha131 hP hS => ?_)
                      have hI := YI_ast hI ha131 (by decide)
                      refine lv_iinc (v := iI (y127_4 + 1)) (lv' := [(4, .int (iI (y127_4 + 1))), (3, .int (iI (z122))), (2, .int (iI (z5))), (1, .int (iI (w_1 - w_4))), (0, .ref (ad 0))]) hE.1 hE.2.1 dX9_meets_239 hl (k := 0) rfl ((iI_add (y127_4) (1)).trans (congrArg iI (by omega))) (by decide) rfl (fun ls hl => ?_)
                      refine lv_goto (tgt := 214) hE.1 hE.2.1 dX9_meets_242 (by decide) ?_
                      exact ih127 _ (by omega) (y127_4 + 1)  vl127 ar131 all127 _ _ _ rfl (by omega)  hI (fun i j h => (hfr127 i j h)) (fun i h => ((upx_ne ha131 i (fun q => h (by rw [q]; decide))).trans (hfa127 i h))) (fun i h => (hfl127 i h)) hP hS (lv_sub hl [0, 1, 2, 3, 4] rfl)
                exact loop127 _ (0)  v126 ar47 al _ _ _ rfl (by omega)  hI (fun _ _ _ => rfl) (fun _ _ => rfl) (fun _ _ => rfl) hP hS hl
              · skip
                refine lv_iload_n hE.1 hE.2.1 dX9_meets_176 rfl (lv_at hl 0 rfl) ?_
                refine lv_aload_n hE.1 hE.2.1 dX9_meets_177 rfl (lv_at hl 3 rfl) ?_
                obtain ⟨z132, hz132, ez132⟩ := iI_of (v56 0 32)
                refine x_get (x := .int (v56 0 32)) hE hK hP 0 (by decide) (yG_9 rfl) rfl hin9 32 (by decide) mw_1366 rfl dX9_meets_178 ?_
                refine x_top (y := iI (z132)) ez132 ?_
                refine s_icmp_lt (a := z122) (b := z132) (tgt := 200) hE.1 hE.2.1 (by omega) (by omega) dX9_meets_181 (by decide) (fun c133 => ?_) (fun c133 => ?_)
                · skip
                  exact kr v56 ar47 al _ _ _ _ ⟨hI, fun i j h => ((up_oth hv56 (fun q => h (by rcases q with ⟨rfl, rfl⟩; decide))).trans ((up_oth hv53 (fun q => h (by rcases q with ⟨rfl, rfl⟩; decide))).trans ((up_oth hv50 (fun q => h (by rcases q with ⟨rfl, rfl⟩; decide))).trans (up_oth hv43 (fun q => h (by rcases q with ⟨rfl, rfl⟩; decide)))))), fun i h => ((upx_ne ha47 i (fun q => h (by rw [q]; decide))).trans (upx_ne ha4 i (fun q => h (by rw [q]; decide)))), fun i h => rfl⟩ hP hS dX9_meets_200
                · skip
                  refine lv_iload_n hE.1 hE.2.1 dX9_meets_184 rfl (lv_at hl 0 rfl) ?_
                  refine lv_aload_n hE.1 hE.2.1 dX9_meets_185 rfl (lv_at hl 3 rfl) ?_
                  refine x_get (x := .int (v56 0 32)) hE hK hP 0 (by decide) (yG_9 rfl) rfl hin9 32 (by decide) mw_1366 rfl dX9_meets_186 ?_
                  refine x_top (y := iI (z132)) ez132 ?_
                  refine s_icmp_ne (a := z122) (b := z132) (tgt := 201) hE.1 hE.2.1 (by omega) (by omega) dX9_meets_189 (by decide) (fun c134 => ?_) (fun c134 => ?_)
                  · skip
                    refine lv_aload_n hE.1 hE.2.1 dX9_meets_201 rfl (lv_at hl 3 rfl) ?_
                    refine lv_iload_n hE.1 hE.2.1 dX9_meets_202 rfl (lv_at hl 0 rfl) ?_
                    refine x_put (x := iI (z122)) hE hK hN hP hS 0 (by decide) (yG_9 rfl) rfl hin9 tyX9 tyX9_ok nmX9 32 (by decide) mw_1366 rfl rfl rfl (Nat.le_of_ble_eq_true rfl) (yG_9 rfl) dX9_meets_203 (fun v135 H locs hv135 hP hS => ?_)
                    have hI := YI_putN hI hv135 (by decide)
                    refine lv_aload_n hE.1 hE.2.1 dX9_meets_206 rfl (lv_at hl 3 rfl) ?_
                    refine lv_iload_n hE.1 hE.2.1 dX9_meets_207 rfl (lv_at hl 2 rfl) ?_
                    refine x_put (x := iI (w_1 - w_4)) hE hK hN hP hS 0 (by decide) (yG_9 rfl) rfl hin9 tyX9 tyX9_ok nmX9 33 (by decide) mw_1367 rfl rfl rfl (Nat.le_of_ble_eq_true rfl) (yG_9 rfl) dX9_meets_208 (fun v136 H locs hv136 hP hS => ?_)
                    have hI := YI_putB (z := w_1 - w_4) hI hv136 (-1) 9 (by omega) (by decide) (by omega)
                    refine lv_iconst (v := iI (0)) hE.1 hE.2.1 dX9_meets_211 (by decide) ?_
                    refine lv_istore (lv' := [(4, .int (iI (0))), (3, .int (iI (z122))), (2, .int (iI (z5))), (1, .int (iI (w_1 - w_4))), (0, .ref (ad 0))]) hE.1 hE.2.1 dX9_meets_212 hl (by decide) rfl (fun ls hl => ?_)
                    have loop137 : ∀ (k137 : Nat) (y137_4 : Int) (vl137 arl137 : sI) (all137 : sL) (H : Heap) (locs : List Loc) (ls : Array Slot), (9 - y137_4).toNat = k137 → (0 ≤ y137_4 ∧ y137_4 ≤ 9) → YI vl137 arl137 → (∀ i j : Nat, (i, j) ∉ ([] : List (Nat × Nat)) → vl137 i j = v136 i j) → (∀ i : Nat, i ∉ ([15] : List Nat) → arl137 i = ar47 i) → (∀ i : Nat, i ∉ ([] : List Nat) → all137 i = al i) → va_P D xcl (wW ad (yG ad K) 21 vl137 arl137 all137) H → va_S (inW ad 21) s.heap H locs → lv_has ls 5 [(4, .int (iI (y137_4))), (3, .int (iI (z122))), (2, .int (iI (z5))), (1, .int (iI (w_1 - w_4))), (0, .ref (ad 0))] → W p l e (rmD 3) s m args below meth c H locs 0 0 Q (F0 m 214 ls []) := by
                      intro k137
                      induction k137 using Nat.strongRecOn with
                      | _ k137 ih137 =>
                        intro y137_4  vl137 arl137 all137 H locs ls hk137 hb_y137_4 hI hfr137 hfa137 hfl137 hP hS hl
                        refine lv_iload hE.1 hE.2.1 dX9_meets_214 (lv_at hl 0 rfl) ?_
                        refine lv_iload_n hE.1 hE.2.1 dX9_meets_216 rfl (lv_at hl 3 rfl) ?_
                        refine s_icmp_ge (a := y137_4) (b := w_1 - w_4) (tgt := 245) hE.1 hE.2.1 (by omega) (by omega) dX9_meets_217 (by decide) (fun c138 => ?_) (fun c138 => ?_)
                        · skip
                          exact kr vl137 arl137 all137 _ _ _ _ ⟨hI, fun i j h => ((hfr137 i j (fun q => h (mem_sub (by decide) q))).trans ((up_oth hv136 (fun q => h (by rcases q with ⟨rfl, rfl⟩; decide))).trans ((up_oth hv135 (fun q => h (by rcases q with ⟨rfl, rfl⟩; decide))).trans ((up_oth hv56 (fun q => h (by rcases q with ⟨rfl, rfl⟩; decide))).trans ((up_oth hv53 (fun q => h (by rcases q with ⟨rfl, rfl⟩; decide))).trans ((up_oth hv50 (fun q => h (by rcases q with ⟨rfl, rfl⟩; decide))).trans (up_oth hv43 (fun q => h (by rcases q with ⟨rfl, rfl⟩; decide))))))))), fun i h => ((hfa137 i (fun q => h (mem_subn (by decide) q))).trans ((upx_ne ha47 i (fun q => h (by rw [q]; decide))).trans (upx_ne ha4 i (fun q => h (by rw [q]; decide))))), fun i h => (hfl137 i (fun q => h (mem_subn (by decide) q)))⟩ hP hS dX9_meets_245
                        · skip
                          refine lv_aload_n hE.1 hE.2.1 dX9_meets_220 rfl (lv_at hl 4 rfl) ?_
                          refine x_get (x := .ref (ad 15)) hE hK hP 0 (by decide) (yG_9 rfl) rfl hin9 34 (by decide) mw_1368 rfl dX9_meets_221 ?_
                          refine lv_iload hE.1 hE.2.1 dX9_meets_224 (lv_at hl 0 rfl) ?_
                          refine lv_aload_n hE.1 hE.2.1 dX9_meets_226 rfl (lv_at hl 4 rfl) ?_
                          refine x_get (x := .ref (ad 12)) hE hK hP 0 (by decide) (yG_9 rfl) rfl hin9 22 (by decide) mw_1356 rfl dX9_meets_227 ?_
                          refine lv_aload_n hE.1 hE.2.1 dX9_meets_230 rfl (lv_at hl 4 rfl) ?_
                          refine x_get (x := .int (vl137 0 31)) hE hK hP 0 (by decide) (yG_9 rfl) rfl hin9 31 (by decide) mw_1365 rfl dX9_meets_231 ?_
                          refine x_top (y := iI (w_4)) ((hfr137 0 31 (by decide)).trans ((up_oth hv136 (by decide)).trans ((up_oth hv135 (by decide)).trans ((up_oth hv56 (by decide)).trans ((up_oth hv53 (by decide)).trans ((up_oth hv50 (by decide)).trans ((up_oth hv43 (by decide)).trans ew_4))))))) ?_
                          refine lv_iload hE.1 hE.2.1 dX9_meets_234 (lv_at hl 0 rfl) ?_
                          refine lv_iadd hE.1 hE.2.1 dX9_meets_236 ?_
                          refine x_top (y := iI (w_4 + y137_4)) ((iI_add (w_4) (y137_4)).trans (congrArg iI (by omega))) ?_
                          refine x_iald (j := iI (w_4 + y137_4)) hE hK hP 12 (by decide) (yG_10 rfl) (iI_in (n := 60) (by omega)) dX9_meets_237 ?_
                          obtain ⟨z140, hz140, ez140⟩ := YI_a12 hI ((iI (w_4 + y137_4)).toNatClampNeg)
                          refine x_top ez140 ?_
                          refine x_iast (j := iI (y137_4)) hE hK hN hP hS 15 (by decide) (fun _ => yG_10 rfl) (iI_in (n := 9) (by omega)) dX9_meets_238 (fun ar141 H locs ha141 hP hS => ?_)
                          have hI := YI_ast hI ha141 (by decide)
                          refine lv_iinc (v := iI (y137_4 + 1)) (lv' := [(4, .int (iI (y137_4 + 1))), (3, .int (iI (z122))), (2, .int (iI (z5))), (1, .int (iI (w_1 - w_4))), (0, .ref (ad 0))]) hE.1 hE.2.1 dX9_meets_239 hl (k := 0) rfl ((iI_add (y137_4) (1)).trans (congrArg iI (by omega))) (by decide) rfl (fun ls hl => ?_)
                          refine lv_goto (tgt := 214) hE.1 hE.2.1 dX9_meets_242 (by decide) ?_
                          exact ih137 _ (by omega) (y137_4 + 1)  vl137 ar141 all137 _ _ _ rfl (by omega)  hI (fun i j h => (hfr137 i j h)) (fun i h => ((upx_ne ha141 i (fun q => h (by rw [q]; decide))).trans (hfa137 i h))) (fun i h => (hfl137 i h)) hP hS (lv_sub hl [0, 1, 2, 3, 4] rfl)
                    exact loop137 _ (0)  v136 ar47 al _ _ _ rfl (by omega)  hI (fun _ _ _ => rfl) (fun _ _ => rfl) (fun _ _ => rfl) hP hS hl
                  · skip
                    refine lv_aload_n hE.1 hE.2.1 dX9_meets_192 rfl (lv_at hl 3 rfl) ?_
                    refine lv_iload_n hE.1 hE.2.1 dX9_meets_193 rfl (lv_at hl 2 rfl) ?_
                    refine x_vp (nn := 1) (As := [.int (iI (w_1 - w_4))]) (rest := []) hE (s_X9_isAhead_e l D K ad v56 ar47 al hI  (w_1 - w_4) (by omega)) wPre_blind (wPre_now hK hN hP) (x_recv hK hP 0 (by decide) (yG_9 rfl) rfl) rfl mw_1818 mw_1820 mw_90 mw_123 mw_1821 (by decide +kernel) ⟨by decide, by decide⟩ hl.1 rfl (Nat.le_of_ble_eq_true rfl) ⟨Nat.zero_le _, Nat.zero_le _⟩ dX9_meets_194 (fun r142 hr142 => ?_)
                    obtain ⟨z142, hz142, rfl⟩ := hr142
                    refine s_if_ne (a := z142) (tgt := 201) hE.1 hE.2.1 (by omega) dX9_meets_197 (by decide) (fun c143 => ?_) (fun c143 => ?_)
                    · skip
                      refine lv_aload_n hE.1 hE.2.1 dX9_meets_201 rfl (lv_at hl 3 rfl) ?_
                      refine lv_iload_n hE.1 hE.2.1 dX9_meets_202 rfl (lv_at hl 0 rfl) ?_
                      refine x_put (x := iI (z122)) hE hK hN hP hS 0 (by decide) (yG_9 rfl) rfl hin9 tyX9 tyX9_ok nmX9 32 (by decide) mw_1366 rfl rfl rfl (Nat.le_of_ble_eq_true rfl) (yG_9 rfl) dX9_meets_203 (fun v144 H locs hv144 hP hS => ?_)
                      have hI := YI_putN hI hv144 (by decide)
                      refine lv_aload_n hE.1 hE.2.1 dX9_meets_206 rfl (lv_at hl 3 rfl) ?_
                      refine lv_iload_n hE.1 hE.2.1 dX9_meets_207 rfl (lv_at hl 2 rfl) ?_
                      refine x_put (x := iI (w_1 - w_4)) hE hK hN hP hS 0 (by decide) (yG_9 rfl) rfl hin9 tyX9 tyX9_ok nmX9 33 (by decide) mw_1367 rfl rfl rfl (Nat.le_of_ble_eq_true rfl) (yG_9 rfl) dX9_meets_208 (fun v145 H locs hv145 hP hS => ?_)
                      have hI := YI_putB (z := w_1 - w_4) hI hv145 (-1) 9 (by omega) (by decide) (by omega)
                      refine lv_iconst (v := iI (0)) hE.1 hE.2.1 dX9_meets_211 (by decide) ?_
                      refine lv_istore (lv' := [(4, .int (iI (0))), (3, .int (iI (z122))), (2, .int (iI (z5))), (1, .int (iI (w_1 - w_4))), (0, .ref (ad 0))]) hE.1 hE.2.1 dX9_meets_212 hl (by decide) rfl (fun ls hl => ?_)
                      have loop146 : ∀ (k146 : Nat) (y146_4 : Int) (vl146 arl146 : sI) (all146 : sL) (H : Heap) (locs : List Loc) (ls : Array Slot), (9 - y146_4).toNat = k146 → (0 ≤ y146_4 ∧ y146_4 ≤ 9) → YI vl146 arl146 → (∀ i j : Nat, (i, j) ∉ ([] : List (Nat × Nat)) → vl146 i j = v145 i j) → (∀ i : Nat, i ∉ ([15] : List Nat) → arl146 i = ar47 i) → (∀ i : Nat, i ∉ ([] : List Nat) → all146 i = al i) → va_P D xcl (wW ad (yG ad K) 21 vl146 arl146 all146) H → va_S (inW ad 21) s.heap H locs → lv_has ls 5 [(4, .int (iI (y146_4))), (3, .int (iI (z122))), (2, .int (iI (z5))), (1, .int (iI (w_1 - w_4))), (0, .ref (ad 0))] → W p l e (rmD 3) s m args below meth c H locs 0 0 Q (F0 m 214 ls []) := by
                        intro k146
                        induction k146 using Nat.strongRecOn with
                        | _ k146 ih146 =>
                          intro y146_4  vl146 arl146 all146 H locs ls hk146 hb_y146_4 hI hfr146 hfa146 hfl146 hP hS hl
                          refine lv_iload hE.1 hE.2.1 dX9_meets_214 (lv_at hl 0 rfl) ?_
                          refine lv_iload_n hE.1 hE.2.1 dX9_meets_216 rfl (lv_at hl 3 rfl) ?_
                          refine s_icmp_ge (a := y146_4) (b := w_1 - w_4) (tgt := 245) hE.1 hE.2.1 (by omega) (by omega) dX9_meets_217 (by decide) (fun c147 => ?_) (fun c147 => ?_)
                          · skip
                            exact kr vl146 arl146 all146 _ _ _ _ ⟨hI, fun i j h => ((hfr146 i j (fun q => h (mem_sub (by decide) q))).trans ((up_oth hv145 (fun q => h (by rcases q with ⟨rfl, rfl⟩; decide))).trans ((up_oth hv144 (fun q => h (by rcases q with ⟨rfl, rfl⟩; decide))).trans ((up_oth hv56 (fun q => h (by rcases q with ⟨rfl, rfl⟩; decide))).trans ((up_oth hv53 (fun q => h (by rcases q with ⟨rfl, rfl⟩; decide))).trans ((up_oth hv50 (fun q => h (by rcases q with ⟨rfl, rfl⟩; decide))).trans (up_oth hv43 (fun q => h (by rcases q with ⟨rfl, rfl⟩; decide))))))))), fun i h => ((hfa146 i (fun q => h (mem_subn (by decide) q))).trans ((upx_ne ha47 i (fun q => h (by rw [q]; decide))).trans (upx_ne ha4 i (fun q => h (by rw [q]; decide))))), fun i h => (hfl146 i (fun q => h (mem_subn (by decide) q)))⟩ hP hS dX9_meets_245
                          · skip
                            refine lv_aload_n hE.1 hE.2.1 dX9_meets_220 rfl (lv_at hl 4 rfl) ?_
                            refine x_get (x := .ref (ad 15)) hE hK hP 0 (by decide) (yG_9 rfl) rfl hin9 34 (by decide) mw_1368 rfl dX9_meets_221 ?_
                            refine lv_iload hE.1 hE.2.1 dX9_meets_224 (lv_at hl 0 rfl) ?_
                            refine lv_aload_n hE.1 hE.2.1 dX9_meets_226 rfl (lv_at hl 4 rfl) ?_
                            refine x_get (x := .ref (ad 12)) hE hK hP 0 (by decide) (yG_9 rfl) rfl hin9 22 (by decide) mw_1356 rfl dX9_meets_227 ?_
                            refine lv_aload_n hE.1 hE.2.1 dX9_meets_230 rfl (lv_at hl 4 rfl) ?_
                            refine x_get (x := .int (vl146 0 31)) hE hK hP 0 (by decide) (yG_9 rfl) rfl hin9 31 (by decide) mw_1365 rfl dX9_meets_231 ?_
                            refine x_top (y := iI (w_4)) ((hfr146 0 31 (by decide)).trans ((up_oth hv145 (by decide)).trans ((up_oth hv144 (by decide)).trans ((up_oth hv56 (by decide)).trans ((up_oth hv53 (by decide)).trans ((up_oth hv50 (by decide)).trans ((up_oth hv43 (by decide)).trans ew_4))))))) ?_
                            refine lv_iload hE.1 hE.2.1 dX9_meets_234 (lv_at hl 0 rfl) ?_
                            refine lv_iadd hE.1 hE.2.1 dX9_meets_236 ?_
                            refine x_top (y := iI (w_4 + y146_4)) ((iI_add (w_4) (y146_4)).trans (congrArg iI (by omega))) ?_
                            refine x_iald (j := iI (w_4 + y146_4)) hE hK hP 12 (by decide) (yG_10 rfl) (iI_in (n := 60) (by omega)) dX9_meets_237 ?_
                            obtain ⟨z149, hz149, ez149⟩ := YI_a12 hI ((iI (w_4 + y146_4)).toNatClampNeg)
                            refine x_top ez149 ?_
                            refine x_iast (j := iI (y146_4)) hE hK hN hP hS 15 (by decide) (fun _ => yG_10 rfl) (iI_in (n := 9) (by omega)) dX9_meets_238 (fun ar150 H locs ha150 hP hS => ?_)
                            have hI := YI_ast hI ha150 (by decide)
                            refine lv_iinc (v := iI (y146_4 + 1)) (lv' := [(4, .int (iI (y146_4 + 1))), (3, .int (iI (z122))), (2, .int (iI (z5))), (1, .int (iI (w_1 - w_4))), (0, .ref (ad 0))]) hE.1 hE.2.1 dX9_meets_239 hl (k := 0) rfl ((iI_add (y146_4) (1)).trans (congrArg iI (by omega))) (by decide) rfl (fun ls hl => ?_)
                            refine lv_goto (tgt := 214) hE.1 hE.2.1 dX9_meets_242 (by decide) ?_
                            exact ih146 _ (by omega) (y146_4 + 1)  vl146 ar150 all146 _ _ _ rfl (by omega)  hI (fun i j h => (hfr146 i j h)) (fun i h => ((upx_ne ha150 i (fun q => h (by rw [q]; decide))).trans (hfa146 i h))) (fun i h => (hfl146 i h)) hP hS (lv_sub hl [0, 1, 2, 3, 4] rfl)
                      exact loop146 _ (0)  v145 ar47 al _ _ _ rfl (by omega)  hI (fun _ _ _ => rfl) (fun _ _ => rfl) (fun _ _ => rfl) hP hS hl
                    · skip
                      exact kr v56 ar47 al _ _ _ _ ⟨hI, fun i j h => ((up_oth hv56 (fun q => h (by rcases q with ⟨rfl, rfl⟩; decide))).trans ((up_oth hv53 (fun q => h (by rcases q with ⟨rfl, rfl⟩; decide))).trans ((up_oth hv50 (fun q => h (by rcases q with ⟨rfl, rfl⟩; decide))).trans (up_oth hv43 (fun q => h (by rcases q with ⟨rfl, rfl⟩; decide)))))), fun i h => ((upx_ne ha47 i (fun q => h (by rw [q]; decide))).trans (upx_ne ha4 i (fun q => h (by rw [q]; decide)))), fun i h => rfl⟩ hP hS dX9_meets_200
          · skip
            refine lv_aload_n hE.1 hE.2.1 dX9_meets_146 rfl (lv_at hl 2 rfl) ?_
            obtain ⟨z151, hz151, ez151⟩ := iI_of (v56 0 27)
            refine x_get (x := .int (v56 0 27)) hE hK hP 0 (by decide) (yG_9 rfl) rfl hin9 27 (by decide) mw_1361 rfl dX9_meets_147 ?_
            refine x_top (y := iI (z151)) ez151 ?_
            refine lv_goto (tgt := 167) hE.1 hE.2.1 dX9_meets_150 (by decide) ?_
            refine lv_istore_n (lv' := [(3, .int (iI (z151))), (2, .int (iI (z5))), (1, .int (iI (w_1 - w_4))), (0, .ref (ad 0))]) hE.1 hE.2.1 dX9_meets_167 rfl hl (by decide) rfl (fun ls hl => ?_)
            refine lv_aload_n hE.1 hE.2.1 dX9_meets_168 rfl (lv_at hl 3 rfl) ?_
            obtain ⟨z152, hz152, ez152⟩ := YI_get hI 0 33 (-1) 9 (by decide)
            refine x_get (x := .int (v56 0 33)) hE hK hP 0 (by decide) (yG_9 rfl) rfl hin9 33 (by decide) mw_1367 rfl dX9_meets_169 ?_
            refine x_top (y := iI (z152)) ez152 ?_
            refine lv_iconst (v := iI (-1)) hE.1 hE.2.1 dX9_meets_172 (by decide) ?_
            refine s_icmp_eq (a := z152) (b := -1) (tgt := 201) hE.1 hE.2.1 (by omega) (by omega) dX9_meets_173 (by decide) (fun c153 => ?_) (fun c153 => ?_)
            · skip
              refine lv_aload_n hE.1 hE.2.1 dX9_meets_201 rfl (lv_at hl 3 rfl) ?_
              refine lv_iload_n hE.1 hE.2.1 dX9_meets_202 rfl (lv_at hl 0 rfl) ?_
              refine x_put (x := iI (z151)) hE hK hN hP hS 0 (by decide) (yG_9 rfl) rfl hin9 tyX9 tyX9_ok nmX9 32 (by decide) mw_1366 rfl rfl rfl (Nat.le_of_ble_eq_true rfl) (yG_9 rfl) dX9_meets_203 (fun v154 H locs hv154 hP hS => ?_)
              have hI := YI_putN hI hv154 (by decide)
              refine lv_aload_n hE.1 hE.2.1 dX9_meets_206 rfl (lv_at hl 3 rfl) ?_
              refine lv_iload_n hE.1 hE.2.1 dX9_meets_207 rfl (lv_at hl 2 rfl) ?_
              refine x_put (x := iI (w_1 - w_4)) hE hK hN hP hS 0 (by decide) (yG_9 rfl) rfl hin9 tyX9 tyX9_ok nmX9 33 (by decide) mw_1367 rfl rfl rfl (Nat.le_of_ble_eq_true rfl) (yG_9 rfl) dX9_meets_208 (fun v155 H locs hv155 hP hS => ?_)
              have hI := YI_putB (z := w_1 - w_4) hI hv155 (-1) 9 (by omega) (by decide) (by omega)
              refine lv_iconst (v := iI (0)) hE.1 hE.2.1 dX9_meets_211 (by decide) ?_
              refine lv_istore (lv' := [(4, .int (iI (0))), (3, .int (iI (z151))), (2, .int (iI (z5))), (1, .int (iI (w_1 - w_4))), (0, .ref (ad 0))]) hE.1 hE.2.1 dX9_meets_212 hl (by decide) rfl (fun ls hl => ?_)
              have loop156 : ∀ (k156 : Nat) (y156_4 : Int) (vl156 arl156 : sI) (all156 : sL) (H : Heap) (locs : List Loc) (ls : Array Slot), (9 - y156_4).toNat = k156 → (0 ≤ y156_4 ∧ y156_4 ≤ 9) → YI vl156 arl156 → (∀ i j : Nat, (i, j) ∉ ([] : List (Nat × Nat)) → vl156 i j = v155 i j) → (∀ i : Nat, i ∉ ([15] : List Nat) → arl156 i = ar47 i) → (∀ i : Nat, i ∉ ([] : List Nat) → all156 i = al i) → va_P D xcl (wW ad (yG ad K) 21 vl156 arl156 all156) H → va_S (inW ad 21) s.heap H locs → lv_has ls 5 [(4, .int (iI (y156_4))), (3, .int (iI (z151))), (2, .int (iI (z5))), (1, .int (iI (w_1 - w_4))), (0, .ref (ad 0))] → W p l e (rmD 3) s m args below meth c H locs 0 0 Q (F0 m 214 ls []) := by
                intro k156
                induction k156 using Nat.strongRecOn with
                | _ k156 ih156 =>
                  intro y156_4  vl156 arl156 all156 H locs ls hk156 hb_y156_4 hI hfr156 hfa156 hfl156 hP hS hl
                  refine lv_iload hE.1 hE.2.1 dX9_meets_214 (lv_at hl 0 rfl) ?_
                  refine lv_iload_n hE.1 hE.2.1 dX9_meets_216 rfl (lv_at hl 3 rfl) ?_
                  refine s_icmp_ge (a := y156_4) (b := w_1 - w_4) (tgt := 245) hE.1 hE.2.1 (by omega) (by omega) dX9_meets_217 (by decide) (fun c157 => ?_) (fun c157 => ?_)
                  · skip
                    exact kr vl156 arl156 all156 _ _ _ _ ⟨hI, fun i j h => ((hfr156 i j (fun q => h (mem_sub (by decide) q))).trans ((up_oth hv155 (fun q => h (by rcases q with ⟨rfl, rfl⟩; decide))).trans ((up_oth hv154 (fun q => h (by rcases q with ⟨rfl, rfl⟩; decide))).trans ((up_oth hv56 (fun q => h (by rcases q with ⟨rfl, rfl⟩; decide))).trans ((up_oth hv53 (fun q => h (by rcases q with ⟨rfl, rfl⟩; decide))).trans ((up_oth hv50 (fun q => h (by rcases q with ⟨rfl, rfl⟩; decide))).trans (up_oth hv43 (fun q => h (by rcases q with ⟨rfl, rfl⟩; decide))))))))), fun i h => ((hfa156 i (fun q => h (mem_subn (by decide) q))).trans ((upx_ne ha47 i (fun q => h (by rw [q]; decide))).trans (upx_ne ha4 i (fun q => h (by rw [q]; decide))))), fun i h => (hfl156 i (fun q => h (mem_subn (by decide) q)))⟩ hP hS dX9_meets_245
                  · skip
                    refine lv_aload_n hE.1 hE.2.1 dX9_meets_220 rfl (lv_at hl 4 rfl) ?_
                    refine x_get (x := .ref (ad 15)) hE hK hP 0 (by decide) (yG_9 rfl) rfl hin9 34 (by decide) mw_1368 rfl dX9_meets_221 ?_
                    refine lv_iload hE.1 hE.2.1 dX9_meets_224 (lv_at hl 0 rfl) ?_
                    refine lv_aload_n hE.1 hE.2.1 dX9_meets_226 rfl (lv_at hl 4 rfl) ?_
                    refine x_get (x := .ref (ad 12)) hE hK hP 0 (by decide) (yG_9 rfl) rfl hin9 22 (by decide) mw_1356 rfl dX9_meets_227 ?_
                    refine lv_aload_n hE.1 hE.2.1 dX9_meets_230 rfl (lv_at hl 4 rfl) ?_
                    refine x_get (x := .int (vl156 0 31)) hE hK hP 0 (by decide) (yG_9 rfl) rfl hin9 31 (by decide) mw_1365 rfl dX9_meets_231 ?_
                    refine x_top (y := iI (w_4)) ((hfr156 0 31 (by decide)).trans ((up_oth hv155 (by decide)).trans ((up_oth hv154 (by decide)).trans ((up_oth hv56 (by decide)).trans ((up_oth hv53 (by decide)).trans ((up_oth hv50 (by decide)).trans ((up_oth hv43 (by decide)).trans ew_4))))))) ?_
                    refine lv_iload hE.1 hE.2.1 dX9_meets_234 (lv_at hl 0 rfl) ?_
                    refine lv_iadd hE.1 hE.2.1 dX9_meets_236 ?_
                    refine x_top (y := iI (w_4 + y156_4)) ((iI_add (w_4) (y156_4)).trans (congrArg iI (by omega))) ?_
                    refine x_iald (j := iI (w_4 + y156_4)) hE hK hP 12 (by decide) (yG_10 rfl) (iI_in (n := 60) (by omega)) dX9_meets_237 ?_
                    obtain ⟨z159, hz159, ez159⟩ := YI_a12 hI ((iI (w_4 + y156_4)).toNatClampNeg)
                    refine x_top ez159 ?_
                    refine x_iast (j := iI (y156_4)) hE hK hN hP hS 15 (by decide) (fun _ => yG_10 rfl) (iI_in (n := 9) (by omega)) dX9_meets_238 (fun ar160 H locs ha160 hP hS => ?_)
                    have hI := YI_ast hI ha160 (by decide)
                    refine lv_iinc (v := iI (y156_4 + 1)) (lv' := [(4, .int (iI (y156_4 + 1))), (3, .int (iI (z151))), (2, .int (iI (z5))), (1, .int (iI (w_1 - w_4))), (0, .ref (ad 0))]) hE.1 hE.2.1 dX9_meets_239 hl (k := 0) rfl ((iI_add (y156_4) (1)).trans (congrArg iI (by omega))) (by decide) rfl (fun ls hl => ?_)
                    refine lv_goto (tgt := 214) hE.1 hE.2.1 dX9_meets_242 (by decide) ?_
                    exact ih156 _ (by omega) (y156_4 + 1)  vl156 ar160 all156 _ _ _ rfl (by omega)  hI (fun i j h => (hfr156 i j h)) (fun i h => ((upx_ne ha160 i (fun q => h (by rw [q]; decide))).trans (hfa156 i h))) (fun i h => (hfl156 i h)) hP hS (lv_sub hl [0, 1, 2, 3, 4] rfl)
              exact loop156 _ (0)  v155 ar47 al _ _ _ rfl (by omega)  hI (fun _ _ _ => rfl) (fun _ _ => rfl) (fun _ _ => rfl) hP hS hl
            · skip
              refine lv_iload_n hE.1 hE.2.1 dX9_meets_176 rfl (lv_at hl 0 rfl) ?_
              refine lv_aload_n hE.1 hE.2.1 dX9_meets_177 rfl (lv_at hl 3 rfl) ?_
              obtain ⟨z161, hz161, ez161⟩ := iI_of (v56 0 32)
              refine x_get (x := .int (v56 0 32)) hE hK hP 0 (by decide) (yG_9 rfl) rfl hin9 32 (by decide) mw_1366 rfl dX9_meets_178 ?_
              refine x_top (y := iI (z161)) ez161 ?_
              refine s_icmp_lt (a := z151) (b := z161) (tgt := 200) hE.1 hE.2.1 (by omega) (by omega) dX9_meets_181 (by decide) (fun c162 => ?_) (fun c162 => ?_)
              · skip
                exact kr v56 ar47 al _ _ _ _ ⟨hI, fun i j h => ((up_oth hv56 (fun q => h (by rcases q with ⟨rfl, rfl⟩; decide))).trans ((up_oth hv53 (fun q => h (by rcases q with ⟨rfl, rfl⟩; decide))).trans ((up_oth hv50 (fun q => h (by rcases q with ⟨rfl, rfl⟩; decide))).trans (up_oth hv43 (fun q => h (by rcases q with ⟨rfl, rfl⟩; decide)))))), fun i h => ((upx_ne ha47 i (fun q => h (by rw [q]; decide))).trans (upx_ne ha4 i (fun q => h (by rw [q]; decide)))), fun i h => rfl⟩ hP hS dX9_meets_200
              · skip
                refine lv_iload_n hE.1 hE.2.1 dX9_meets_184 rfl (lv_at hl 0 rfl) ?_
                refine lv_aload_n hE.1 hE.2.1 dX9_meets_185 rfl (lv_at hl 3 rfl) ?_
                refine x_get (x := .int (v56 0 32)) hE hK hP 0 (by decide) (yG_9 rfl) rfl hin9 32 (by decide) mw_1366 rfl dX9_meets_186 ?_
                refine x_top (y := iI (z161)) ez161 ?_
                refine s_icmp_ne (a := z151) (b := z161) (tgt := 201) hE.1 hE.2.1 (by omega) (by omega) dX9_meets_189 (by decide) (fun c163 => ?_) (fun c163 => ?_)
                · skip
                  refine lv_aload_n hE.1 hE.2.1 dX9_meets_201 rfl (lv_at hl 3 rfl) ?_
                  refine lv_iload_n hE.1 hE.2.1 dX9_meets_202 rfl (lv_at hl 0 rfl) ?_
                  refine x_put (x := iI (z151)) hE hK hN hP hS 0 (by decide) (yG_9 rfl) rfl hin9 tyX9 tyX9_ok nmX9 32 (by decide) mw_1366 rfl rfl rfl (Nat.le_of_ble_eq_true rfl) (yG_9 rfl) dX9_meets_203 (fun v164 H locs hv164 hP hS => ?_)
                  have hI := YI_putN hI hv164 (by decide)
                  refine lv_aload_n hE.1 hE.2.1 dX9_meets_206 rfl (lv_at hl 3 rfl) ?_
                  refine lv_iload_n hE.1 hE.2.1 dX9_meets_207 rfl (lv_at hl 2 rfl) ?_
                  refine x_put (x := iI (w_1 - w_4)) hE hK hN hP hS 0 (by decide) (yG_9 rfl) rfl hin9 tyX9 tyX9_ok nmX9 33 (by decide) mw_1367 rfl rfl rfl (Nat.le_of_ble_eq_true rfl) (yG_9 rfl) dX9_meets_208 (fun v165 H locs hv165 hP hS => ?_)
                  have hI := YI_putB (z := w_1 - w_4) hI hv165 (-1) 9 (by omega) (by decide) (by omega)
                  refine lv_iconst (v := iI (0)) hE.1 hE.2.1 dX9_meets_211 (by decide) ?_
                  refine lv_istore (lv' := [(4, .int (iI (0))), (3, .int (iI (z151))), (2, .int (iI (z5))), (1, .int (iI (w_1 - w_4))), (0, .ref (ad 0))]) hE.1 hE.2.1 dX9_meets_212 hl (by decide) rfl (fun ls hl => ?_)
                  have loop166 : ∀ (k166 : Nat) (y166_4 : Int) (vl166 arl166 : sI) (all166 : sL) (H : Heap) (locs : List Loc) (ls : Array Slot), (9 - y166_4).toNat = k166 → (0 ≤ y166_4 ∧ y166_4 ≤ 9) → YI vl166 arl166 → (∀ i j : Nat, (i, j) ∉ ([] : List (Nat × Nat)) → vl166 i j = v165 i j) → (∀ i : Nat, i ∉ ([15] : List Nat) → arl166 i = ar47 i) → (∀ i : Nat, i ∉ ([] : List Nat) → all166 i = al i) → va_P D xcl (wW ad (yG ad K) 21 vl166 arl166 all166) H → va_S (inW ad 21) s.heap H locs → lv_has ls 5 [(4, .int (iI (y166_4))), (3, .int (iI (z151))), (2, .int (iI (z5))), (1, .int (iI (w_1 - w_4))), (0, .ref (ad 0))] → W p l e (rmD 3) s m args below meth c H locs 0 0 Q (F0 m 214 ls []) := by
                    intro k166
                    induction k166 using Nat.strongRecOn with
                    | _ k166 ih166 =>
                      intro y166_4  vl166 arl166 all166 H locs ls hk166 hb_y166_4 hI hfr166 hfa166 hfl166 hP hS hl
                      refine lv_iload hE.1 hE.2.1 dX9_meets_214 (lv_at hl 0 rfl) ?_
                      refine lv_iload_n hE.1 hE.2.1 dX9_meets_216 rfl (lv_at hl 3 rfl) ?_
                      refine s_icmp_ge (a := y166_4) (b := w_1 - w_4) (tgt := 245) hE.1 hE.2.1 (by omega) (by omega) dX9_meets_217 (by decide) (fun c167 => ?_) (fun c167 => ?_)
                      · skip
                        exact kr vl166 arl166 all166 _ _ _ _ ⟨hI, fun i j h => ((hfr166 i j (fun q => h (mem_sub (by decide) q))).trans ((up_oth hv165 (fun q => h (by rcases q with ⟨rfl, rfl⟩; decide))).trans ((up_oth hv164 (fun q => h (by rcases q with ⟨rfl, rfl⟩; decide))).trans ((up_oth hv56 (fun q => h (by rcases q with ⟨rfl, rfl⟩; decide))).trans ((up_oth hv53 (fun q => h (by rcases q with ⟨rfl, rfl⟩; decide))).trans ((up_oth hv50 (fun q => h (by rcases q with ⟨rfl, rfl⟩; decide))).trans (up_oth hv43 (fun q => h (by rcases q with ⟨rfl, rfl⟩; decide))))))))), fun i h => ((hfa166 i (fun q => h (mem_subn (by decide) q))).trans ((upx_ne ha47 i (fun q => h (by rw [q]; decide))).trans (upx_ne ha4 i (fun q => h (by rw [q]; decide))))), fun i h => (hfl166 i (fun q => h (mem_subn (by decide) q)))⟩ hP hS dX9_meets_245
                      · skip
                        refine lv_aload_n hE.1 hE.2.1 dX9_meets_220 rfl (lv_at hl 4 rfl) ?_
                        refine x_get (x := .ref (ad 15)) hE hK hP 0 (by decide) (yG_9 rfl) rfl hin9 34 (by decide) mw_1368 rfl dX9_meets_221 ?_
                        refine lv_iload hE.1 hE.2.1 dX9_meets_224 (lv_at hl 0 rfl) ?_
                        refine lv_aload_n hE.1 hE.2.1 dX9_meets_226 rfl (lv_at hl 4 rfl) ?_
                        refine x_get (x := .ref (ad 12)) hE hK hP 0 (by decide) (yG_9 rfl) rfl hin9 22 (by decide) mw_1356 rfl dX9_meets_227 ?_
                        refine lv_aload_n hE.1 hE.2.1 dX9_meets_230 rfl (lv_at hl 4 rfl) ?_
                        refine x_get (x := .int (vl166 0 31)) hE hK hP 0 (by decide) (yG_9 rfl) rfl hin9 31 (by decide) mw_1365 rfl dX9_meets_231 ?_
                        refine x_top (y := iI (w_4)) ((hfr166 0 31 (by decide)).trans ((up_oth hv165 (by decide)).trans ((up_oth hv164 (by decide)).trans ((up_oth hv56 (by decide)).trans ((up_oth hv53 (by decide)).trans ((up_oth hv50 (by decide)).trans ((up_oth hv43 (by decide)).trans ew_4))))))) ?_
                        refine lv_iload hE.1 hE.2.1 dX9_meets_234 (lv_at hl 0 rfl) ?_
                        refine lv_iadd hE.1 hE.2.1 dX9_meets_236 ?_
                        refine x_top (y := iI (w_4 + y166_4)) ((iI_add (w_4) (y166_4)).trans (congrArg iI (by omega))) ?_
                        refine x_iald (j := iI (w_4 + y166_4)) hE hK hP 12 (by decide) (yG_10 rfl) (iI_in (n := 60) (by omega)) dX9_meets_237 ?_
                        obtain ⟨z169, hz169, ez169⟩ := YI_a12 hI ((iI (w_4 + y166_4)).toNatClampNeg)
                        refine x_top ez169 ?_
                        refine x_iast (j := iI (y166_4)) hE hK hN hP hS 15 (by decide) (fun _ => yG_10 rfl) (iI_in (n := 9) (by omega)) dX9_meets_238 (fun ar170 H locs ha170 hP hS => ?_)
                        have hI := YI_ast hI ha170 (by decide)
                        refine lv_iinc (v := iI (y166_4 + 1)) (lv' := [(4, .int (iI (y166_4 + 1))), (3, .int (iI (z151))), (2, .int (iI (z5))), (1, .int (iI (w_1 - w_4))), (0, .ref (ad 0))]) hE.1 hE.2.1 dX9_meets_239 hl (k := 0) rfl ((iI_add (y166_4) (1)).trans (congrArg iI (by omega))) (by decide) rfl (fun ls hl => ?_)
                        refine lv_goto (tgt := 214) hE.1 hE.2.1 dX9_meets_242 (by decide) ?_
                        exact ih166 _ (by omega) (y166_4 + 1)  vl166 ar170 all166 _ _ _ rfl (by omega)  hI (fun i j h => (hfr166 i j h)) (fun i h => ((upx_ne ha170 i (fun q => h (by rw [q]; decide))).trans (hfa166 i h))) (fun i h => (hfl166 i h)) hP hS (lv_sub hl [0, 1, 2, 3, 4] rfl)
                  exact loop166 _ (0)  v165 ar47 al _ _ _ rfl (by omega)  hI (fun _ _ _ => rfl) (fun _ _ => rfl) (fun _ _ => rfl) hP hS hl
                · skip
                  refine lv_aload_n hE.1 hE.2.1 dX9_meets_192 rfl (lv_at hl 3 rfl) ?_
                  refine lv_iload_n hE.1 hE.2.1 dX9_meets_193 rfl (lv_at hl 2 rfl) ?_
                  refine x_vp (nn := 1) (As := [.int (iI (w_1 - w_4))]) (rest := []) hE (s_X9_isAhead_e l D K ad v56 ar47 al hI  (w_1 - w_4) (by omega)) wPre_blind (wPre_now hK hN hP) (x_recv hK hP 0 (by decide) (yG_9 rfl) rfl) rfl mw_1818 mw_1820 mw_90 mw_123 mw_1821 (by decide +kernel) ⟨by decide, by decide⟩ hl.1 rfl (Nat.le_of_ble_eq_true rfl) ⟨Nat.zero_le _, Nat.zero_le _⟩ dX9_meets_194 (fun r171 hr171 => ?_)
                  obtain ⟨z171, hz171, rfl⟩ := hr171
                  refine s_if_ne (a := z171) (tgt := 201) hE.1 hE.2.1 (by omega) dX9_meets_197 (by decide) (fun c172 => ?_) (fun c172 => ?_)
                  · skip
                    refine lv_aload_n hE.1 hE.2.1 dX9_meets_201 rfl (lv_at hl 3 rfl) ?_
                    refine lv_iload_n hE.1 hE.2.1 dX9_meets_202 rfl (lv_at hl 0 rfl) ?_
                    refine x_put (x := iI (z151)) hE hK hN hP hS 0 (by decide) (yG_9 rfl) rfl hin9 tyX9 tyX9_ok nmX9 32 (by decide) mw_1366 rfl rfl rfl (Nat.le_of_ble_eq_true rfl) (yG_9 rfl) dX9_meets_203 (fun v173 H locs hv173 hP hS => ?_)
                    have hI := YI_putN hI hv173 (by decide)
                    refine lv_aload_n hE.1 hE.2.1 dX9_meets_206 rfl (lv_at hl 3 rfl) ?_
                    refine lv_iload_n hE.1 hE.2.1 dX9_meets_207 rfl (lv_at hl 2 rfl) ?_
                    refine x_put (x := iI (w_1 - w_4)) hE hK hN hP hS 0 (by decide) (yG_9 rfl) rfl hin9 tyX9 tyX9_ok nmX9 33 (by decide) mw_1367 rfl rfl rfl (Nat.le_of_ble_eq_true rfl) (yG_9 rfl) dX9_meets_208 (fun v174 H locs hv174 hP hS => ?_)
                    have hI := YI_putB (z := w_1 - w_4) hI hv174 (-1) 9 (by omega) (by decide) (by omega)
                    refine lv_iconst (v := iI (0)) hE.1 hE.2.1 dX9_meets_211 (by decide) ?_
                    refine lv_istore (lv' := [(4, .int (iI (0))), (3, .int (iI (z151))), (2, .int (iI (z5))), (1, .int (iI (w_1 - w_4))), (0, .ref (ad 0))]) hE.1 hE.2.1 dX9_meets_212 hl (by decide) rfl (fun ls hl => ?_)
                    have loop175 : ∀ (k175 : Nat) (y175_4 : Int) (vl175 arl175 : sI) (all175 : sL) (H : Heap) (locs : List Loc) (ls : Array Slot), (9 - y175_4).toNat = k175 → (0 ≤ y175_4 ∧ y175_4 ≤ 9) → YI vl175 arl175 → (∀ i j : Nat, (i, j) ∉ ([] : List (Nat × Nat)) → vl175 i j = v174 i j) → (∀ i : Nat, i ∉ ([15] : List Nat) → arl175 i = ar47 i) → (∀ i : Nat, i ∉ ([] : List Nat) → all175 i = al i) → va_P D xcl (wW ad (yG ad K) 21 vl175 arl175 all175) H → va_S (inW ad 21) s.heap H locs → lv_has ls 5 [(4, .int (iI (y175_4))), (3, .int (iI (z151))), (2, .int (iI (z5))), (1, .int (iI (w_1 - w_4))), (0, .ref (ad 0))] → W p l e (rmD 3) s m args below meth c H locs 0 0 Q (F0 m 214 ls []) := by
                      intro k175
                      induction k175 using Nat.strongRecOn with
                      | _ k175 ih175 =>
                        intro y175_4  vl175 arl175 all175 H locs ls hk175 hb_y175_4 hI hfr175 hfa175 hfl175 hP hS hl
                        refine lv_iload hE.1 hE.2.1 dX9_meets_214 (lv_at hl 0 rfl) ?_
                        refine lv_iload_n hE.1 hE.2.1 dX9_meets_216 rfl (lv_at hl 3 rfl) ?_
                        refine s_icmp_ge (a := y175_4) (b := w_1 - w_4) (tgt := 245) hE.1 hE.2.1 (by omega) (by omega) dX9_meets_217 (by decide) (fun c176 => ?_) (fun c176 => ?_)
                        · skip
                          exact kr vl175 arl175 all175 _ _ _ _ ⟨hI, fun i j h => ((hfr175 i j (fun q => h (mem_sub (by decide) q))).trans ((up_oth hv174 (fun q => h (by rcases q with ⟨rfl, rfl⟩; decide))).trans ((up_oth hv173 (fun q => h (by rcases q with ⟨rfl, rfl⟩; decide))).trans ((up_oth hv56 (fun q => h (by rcases q with ⟨rfl, rfl⟩; decide))).trans ((up_oth hv53 (fun q => h (by rcases q with ⟨rfl, rfl⟩; decide))).trans ((up_oth hv50 (fun q => h (by rcases q with ⟨rfl, rfl⟩; decide))).trans (up_oth hv43 (fun q => h (by rcases q with ⟨rfl, rfl⟩; decide))))))))), fun i h => ((hfa175 i (fun q => h (mem_subn (by decide) q))).trans ((upx_ne ha47 i (fun q => h (by rw [q]; decide))).trans (upx_ne ha4 i (fun q => h (by rw [q]; decide))))), fun i h => (hfl175 i (fun q => h (mem_subn (by decide) q)))⟩ hP hS dX9_meets_245
                        · skip
                          refine lv_aload_n hE.1 hE.2.1 dX9_meets_220 rfl (lv_at hl 4 rfl) ?_
                          refine x_get (x := .ref (ad 15)) hE hK hP 0 (by decide) (yG_9 rfl) rfl hin9 34 (by decide) mw_1368 rfl dX9_meets_221 ?_
                          refine lv_iload hE.1 hE.2.1 dX9_meets_224 (lv_at hl 0 rfl) ?_
                          refine lv_aload_n hE.1 hE.2.1 dX9_meets_226 rfl (lv_at hl 4 rfl) ?_
                          refine x_get (x := .ref (ad 12)) hE hK hP 0 (by decide) (yG_9 rfl) rfl hin9 22 (by decide) mw_1356 rfl dX9_meets_227 ?_
                          refine lv_aload_n hE.1 hE.2.1 dX9_meets_230 rfl (lv_at hl 4 rfl) ?_
                          refine x_get (x := .int (vl175 0 31)) hE hK hP 0 (by decide) (yG_9 rfl) rfl hin9 31 (by decide) mw_1365 rfl dX9_meets_231 ?_
                          refine x_top (y := iI (w_4)) ((hfr175 0 31 (by decide)).trans ((up_oth hv174 (by decide)).trans ((up_oth hv173 (by decide)).trans ((up_oth hv56 (by decide)).trans ((up_oth hv53 (by decide)).trans ((up_oth hv50 (by decide)).trans ((up_oth hv43 (by decide)).trans ew_4))))))) ?_
                          refine lv_iload hE.1 hE.2.1 dX9_meets_234 (lv_at hl 0 rfl) ?_
                          refine lv_iadd hE.1 hE.2.1 dX9_meets_236 ?_
                          refine x_top (y := iI (w_4 + y175_4)) ((iI_add (w_4) (y175_4)).trans (congrArg iI (by omega))) ?_
                          refine x_iald (j := iI (w_4 + y175_4)) hE hK hP 12 (by decide) (yG_10 rfl) (iI_in (n := 60) (by omega)) dX9_meets_237 ?_
                          obtain ⟨z178, hz178, ez178⟩ := YI_a12 hI ((iI (w_4 + y175_4)).toNatClampNeg)
                          refine x_top ez178 ?_
                          refine x_iast (j := iI (y175_4)) hE hK hN hP hS 15 (by decide) (fun _ => yG_10 rfl) (iI_in (n := 9) (by omega)) dX9_meets_238 (fun ar179 H locs ha179 hP hS => ?_)
                          have hI := YI_ast hI ha179 (by decide)
                          refine lv_iinc (v := iI (y175_4 + 1)) (lv' := [(4, .int (iI (y175_4 + 1))), (3, .int (iI (z151))), (2, .int (iI (z5))), (1, .int (iI (w_1 - w_4))), (0, .ref (ad 0))]) hE.1 hE.2.1 dX9_meets_239 hl (k := 0) rfl ((iI_add (y175_4) (1)).trans (congrArg iI (by omega))) (by decide) rfl (fun ls hl => ?_)
                          refine lv_goto (tgt := 214) hE.1 hE.2.1 dX9_meets_242 (by decide) ?_
                          exact ih175 _ (by omega) (y175_4 + 1)  vl175 ar179 all175 _ _ _ rfl (by omega)  hI (fun i j h => (hfr175 i j h)) (fun i h => ((upx_ne ha179 i (fun q => h (by rw [q]; decide))).trans (hfa175 i h))) (fun i h => (hfl175 i h)) hP hS (lv_sub hl [0, 1, 2, 3, 4] rfl)
                    exact loop175 _ (0)  v174 ar47 al _ _ _ rfl (by omega)  hI (fun _ _ _ => rfl) (fun _ _ => rfl) (fun _ _ => rfl) hP hS hl
                  · skip
                    exact kr v56 ar47 al _ _ _ _ ⟨hI, fun i j h => ((up_oth hv56 (fun q => h (by rcases q with ⟨rfl, rfl⟩; decide))).trans ((up_oth hv53 (fun q => h (by rcases q with ⟨rfl, rfl⟩; decide))).trans ((up_oth hv50 (fun q => h (by rcases q with ⟨rfl, rfl⟩; decide))).trans (up_oth hv43 (fun q => h (by rcases q with ⟨rfl, rfl⟩; decide)))))), fun i h => ((upx_ne ha47 i (fun q => h (by rw [q]; decide))).trans (upx_ne ha4 i (fun q => h (by rw [q]; decide)))), fun i h => rfl⟩ hP hS dX9_meets_200
        · skip
          refine lv_aload_n hE.1 hE.2.1 dX9_meets_126 rfl (lv_at hl 2 rfl) ?_
          obtain ⟨z180, hz180, ez180⟩ := iI_of (v56 0 27)
          refine x_get (x := .int (v56 0 27)) hE hK hP 0 (by decide) (yG_9 rfl) rfl hin9 27 (by decide) mw_1361 rfl dX9_meets_127 ?_
          refine x_top (y := iI (z180)) ez180 ?_
          refine lv_aload_n hE.1 hE.2.1 dX9_meets_130 rfl (lv_at hl 2 rfl) ?_
          obtain ⟨z181, hz181, ez181⟩ := iI_of (v56 0 30)
          refine x_get (x := .int (v56 0 30)) hE hK hP 0 (by decide) (yG_9 rfl) rfl hin9 30 (by decide) mw_1364 rfl dX9_meets_131 ?_
          refine x_top (y := iI (z181)) ez181 ?_
          refine s_icmp_ge (a := z180) (b := z181) (tgt := 138) hE.1 hE.2.1 (by omega) (by omega) dX9_meets_134 (by decide) (fun c182 => ?_) (fun c182 => ?_)
          · skip
            refine lv_aload_n hE.1 hE.2.1 dX9_meets_138 rfl (lv_at hl 2 rfl) ?_
            refine x_get (x := .int (v56 0 29)) hE hK hP 0 (by decide) (yG_9 rfl) rfl hin9 29 (by decide) mw_1363 rfl dX9_meets_139 ?_
            refine x_top (y := iI (z57)) ez57 ?_
            refine lv_iconst (v := iI (2)) hE.1 hE.2.1 dX9_meets_142 (by decide) ?_
            refine s_icmp_ne (a := z57) (b := 2) (tgt := 153) hE.1 hE.2.1 (by omega) (by omega) dX9_meets_143 (by decide) (fun _ => ?_) (fun c183 => False.elim (by omega))
            refine lv_aload_n hE.1 hE.2.1 dX9_meets_153 rfl (lv_at hl 2 rfl) ?_
            refine x_get (x := .int (v56 0 29)) hE hK hP 0 (by decide) (yG_9 rfl) rfl hin9 29 (by decide) mw_1363 rfl dX9_meets_154 ?_
            refine x_top (y := iI (z57)) ez57 ?_
            refine lv_iconst (v := iI (3)) hE.1 hE.2.1 dX9_meets_157 (by decide) ?_
            refine s_icmp_ne (a := z57) (b := 3) (tgt := 166) hE.1 hE.2.1 (by omega) (by omega) dX9_meets_158 (by decide) (fun c184 => False.elim (by omega)) (fun _ => ?_)
            refine lv_iload_n hE.1 hE.2.1 dX9_meets_161 rfl (lv_at hl 1 rfl) ?_
            refine lv_ineg hE.1 hE.2.1 dX9_meets_162 ?_
            obtain ⟨z185, hz185, ez185⟩ := iI_of (-iI (w_1 - w_4))
            refine x_top ez185 ?_
            refine lv_goto (tgt := 167) hE.1 hE.2.1 dX9_meets_163 (by decide) ?_
            refine lv_istore_n (lv' := [(3, .int (iI (z185))), (2, .int (iI (z5))), (1, .int (iI (w_1 - w_4))), (0, .ref (ad 0))]) hE.1 hE.2.1 dX9_meets_167 rfl hl (by decide) rfl (fun ls hl => ?_)
            refine lv_aload_n hE.1 hE.2.1 dX9_meets_168 rfl (lv_at hl 3 rfl) ?_
            obtain ⟨z186, hz186, ez186⟩ := YI_get hI 0 33 (-1) 9 (by decide)
            refine x_get (x := .int (v56 0 33)) hE hK hP 0 (by decide) (yG_9 rfl) rfl hin9 33 (by decide) mw_1367 rfl dX9_meets_169 ?_
            refine x_top (y := iI (z186)) ez186 ?_
            refine lv_iconst (v := iI (-1)) hE.1 hE.2.1 dX9_meets_172 (by decide) ?_
            refine s_icmp_eq (a := z186) (b := -1) (tgt := 201) hE.1 hE.2.1 (by omega) (by omega) dX9_meets_173 (by decide) (fun c187 => ?_) (fun c187 => ?_)
            · skip
              refine lv_aload_n hE.1 hE.2.1 dX9_meets_201 rfl (lv_at hl 3 rfl) ?_
              refine lv_iload_n hE.1 hE.2.1 dX9_meets_202 rfl (lv_at hl 0 rfl) ?_
              refine x_put (x := iI (z185)) hE hK hN hP hS 0 (by decide) (yG_9 rfl) rfl hin9 tyX9 tyX9_ok nmX9 32 (by decide) mw_1366 rfl rfl rfl (Nat.le_of_ble_eq_true rfl) (yG_9 rfl) dX9_meets_203 (fun v188 H locs hv188 hP hS => ?_)
              have hI := YI_putN hI hv188 (by decide)
              refine lv_aload_n hE.1 hE.2.1 dX9_meets_206 rfl (lv_at hl 3 rfl) ?_
              refine lv_iload_n hE.1 hE.2.1 dX9_meets_207 rfl (lv_at hl 2 rfl) ?_
              refine x_put (x := iI (w_1 - w_4)) hE hK hN hP hS 0 (by decide) (yG_9 rfl) rfl hin9 tyX9 tyX9_ok nmX9 33 (by decide) mw_1367 rfl rfl rfl (Nat.le_of_ble_eq_true rfl) (yG_9 rfl) dX9_meets_208 (fun v189 H locs hv189 hP hS => ?_)
              have hI := YI_putB (z := w_1 - w_4) hI hv189 (-1) 9 (by omega) (by decide) (by omega)
              refine lv_iconst (v := iI (0)) hE.1 hE.2.1 dX9_meets_211 (by decide) ?_
              refine lv_istore (lv' := [(4, .int (iI (0))), (3, .int (iI (z185))), (2, .int (iI (z5))), (1, .int (iI (w_1 - w_4))), (0, .ref (ad 0))]) hE.1 hE.2.1 dX9_meets_212 hl (by decide) rfl (fun ls hl => ?_)
              have loop190 : ∀ (k190 : Nat) (y190_4 : Int) (vl190 arl190 : sI) (all190 : sL) (H : Heap) (locs : List Loc) (ls : Array Slot), (9 - y190_4).toNat = k190 → (0 ≤ y190_4 ∧ y190_4 ≤ 9) → YI vl190 arl190 → (∀ i j : Nat, (i, j) ∉ ([] : List (Nat × Nat)) → vl190 i j = v189 i j) → (∀ i : Nat, i ∉ ([15] : List Nat) → arl190 i = ar47 i) → (∀ i : Nat, i ∉ ([] : List Nat) → all190 i = al i) → va_P D xcl (wW ad (yG ad K) 21 vl190 arl190 all190) H → va_S (inW ad 21) s.heap H locs → lv_has ls 5 [(4, .int (iI (y190_4))), (3, .int (iI (z185))), (2, .int (iI (z5))), (1, .int (iI (w_1 - w_4))), (0, .ref (ad 0))] → W p l e (rmD 3) s m args below meth c H locs 0 0 Q (F0 m 214 ls []) := by
                intro k190
                induction k190 using Nat.strongRecOn with
                | _ k190 ih190 =>
                  intro y190_4  vl190 arl190 all190 H locs ls hk190 hb_y190_4 hI hfr190 hfa190 hfl190 hP hS hl
                  refine lv_iload hE.1 hE.2.1 dX9_meets_214 (lv_at hl 0 rfl) ?_
                  refine lv_iload_n hE.1 hE.2.1 dX9_meets_216 rfl (lv_at hl 3 rfl) ?_
                  refine s_icmp_ge (a := y190_4) (b := w_1 - w_4) (tgt := 245) hE.1 hE.2.1 (by omega) (by omega) dX9_meets_217 (by decide) (fun c191 => ?_) (fun c191 => ?_)
                  · skip
                    exact kr vl190 arl190 all190 _ _ _ _ ⟨hI, fun i j h => ((hfr190 i j (fun q => h (mem_sub (by decide) q))).trans ((up_oth hv189 (fun q => h (by rcases q with ⟨rfl, rfl⟩; decide))).trans ((up_oth hv188 (fun q => h (by rcases q with ⟨rfl, rfl⟩; decide))).trans ((up_oth hv56 (fun q => h (by rcases q with ⟨rfl, rfl⟩; decide))).trans ((up_oth hv53 (fun q => h (by rcases q with ⟨rfl, rfl⟩; decide))).trans ((up_oth hv50 (fun q => h (by rcases q with ⟨rfl, rfl⟩; decide))).trans (up_oth hv43 (fun q => h (by rcases q with ⟨rfl, rfl⟩; decide))))))))), fun i h => ((hfa190 i (fun q => h (mem_subn (by decide) q))).trans ((upx_ne ha47 i (fun q => h (by rw [q]; decide))).trans (upx_ne ha4 i (fun q => h (by rw [q]; decide))))), fun i h => (hfl190 i (fun q => h (mem_subn (by decide) q)))⟩ hP hS dX9_meets_245
                  · skip
                    refine lv_aload_n hE.1 hE.2.1 dX9_meets_220 rfl (lv_at hl 4 rfl) ?_
                    refine x_get (x := .ref (ad 15)) hE hK hP 0 (by decide) (yG_9 rfl) rfl hin9 34 (by decide) mw_1368 rfl dX9_meets_221 ?_
                    refine lv_iload hE.1 hE.2.1 dX9_meets_224 (lv_at hl 0 rfl) ?_
                    refine lv_aload_n hE.1 hE.2.1 dX9_meets_226 rfl (lv_at hl 4 rfl) ?_
                    refine x_get (x := .ref (ad 12)) hE hK hP 0 (by decide) (yG_9 rfl) rfl hin9 22 (by decide) mw_1356 rfl dX9_meets_227 ?_
                    refine lv_aload_n hE.1 hE.2.1 dX9_meets_230 rfl (lv_at hl 4 rfl) ?_
                    refine x_get (x := .int (vl190 0 31)) hE hK hP 0 (by decide) (yG_9 rfl) rfl hin9 31 (by decide) mw_1365 rfl dX9_meets_231 ?_
                    refine x_top (y := iI (w_4)) ((hfr190 0 31 (by decide)).trans ((up_oth hv189 (by decide)).trans ((up_oth hv188 (by decide)).trans ((up_oth hv56 (by decide)).trans ((up_oth hv53 (by decide)).trans ((up_oth hv50 (by decide)).trans ((up_oth hv43 (by decide)).trans ew_4))))))) ?_
                    refine lv_iload hE.1 hE.2.1 dX9_meets_234 (lv_at hl 0 rfl) ?_
                    refine lv_iadd hE.1 hE.2.1 dX9_meets_236 ?_
                    refine x_top (y := iI (w_4 + y190_4)) ((iI_add (w_4) (y190_4)).trans (congrArg iI (by omega))) ?_
                    refine x_iald (j := iI (w_4 + y190_4)) hE hK hP 12 (by decide) (yG_10 rfl) (iI_in (n := 60) (by omega)) dX9_meets_237 ?_
                    obtain ⟨z193, hz193, ez193⟩ := YI_a12 hI ((iI (w_4 + y190_4)).toNatClampNeg)
                    refine x_top ez193 ?_
                    refine x_iast (j := iI (y190_4)) hE hK hN hP hS 15 (by decide) (fun _ => yG_10 rfl) (iI_in (n := 9) (by omega)) dX9_meets_238 (fun ar194 H locs ha194 hP hS => ?_)
                    have hI := YI_ast hI ha194 (by decide)
                    refine lv_iinc (v := iI (y190_4 + 1)) (lv' := [(4, .int (iI (y190_4 + 1))), (3, .int (iI (z185))), (2, .int (iI (z5))), (1, .int (iI (w_1 - w_4))), (0, .ref (ad 0))]) hE.1 hE.2.1 dX9_meets_239 hl (k := 0) rfl ((iI_add (y190_4) (1)).trans (congrArg iI (by omega))) (by decide) rfl (fun ls hl => ?_)
                    refine lv_goto (tgt := 214) hE.1 hE.2.1 dX9_meets_242 (by decide) ?_
                    exact ih190 _ (by omega) (y190_4 + 1)  vl190 ar194 all190 _ _ _ rfl (by omega)  hI (fun i j h => (hfr190 i j h)) (fun i h => ((upx_ne ha194 i (fun q => h (by rw [q]; decide))).trans (hfa190 i h))) (fun i h => (hfl190 i h)) hP hS (lv_sub hl [0, 1, 2, 3, 4] rfl)
              exact loop190 _ (0)  v189 ar47 al _ _ _ rfl (by omega)  hI (fun _ _ _ => rfl) (fun _ _ => rfl) (fun _ _ => rfl) hP hS hl
            · skip
              refine lv_iload_n hE.1 hE.2.1 dX9_meets_176 rfl (lv_at hl 0 rfl) ?_
              refine lv_aload_n hE.1 hE.2.1 dX9_meets_177 rfl (lv_at hl 3 rfl) ?_
              obtain ⟨z195, hz195, ez195⟩ := iI_of (v56 0 32)
              refine x_get (x := .int (v56 0 32)) hE hK hP 0 (by decide) (yG_9 rfl) rfl hin9 32 (by decide) mw_1366 rfl dX9_meets_178 ?_
              refine x_top (y := iI (z195)) ez195 ?_
              refine s_icmp_lt (a := z185) (b := z195) (tgt := 200) hE.1 hE.2.1 (by omega) (by omega) dX9_meets_181 (by decide) (fun c196 => ?_) (fun c196 => ?_)
              · skip
                exact kr v56 ar47 al _ _ _ _ ⟨hI, fun i j h => ((up_oth hv56 (fun q => h (by rcases q with ⟨rfl, rfl⟩; decide))).trans ((up_oth hv53 (fun q => h (by rcases q with ⟨rfl, rfl⟩; decide))).trans ((up_oth hv50 (fun q => h (by rcases q with ⟨rfl, rfl⟩; decide))).trans (up_oth hv43 (fun q => h (by rcases q with ⟨rfl, rfl⟩; decide)))))), fun i h => ((upx_ne ha47 i (fun q => h (by rw [q]; decide))).trans (upx_ne ha4 i (fun q => h (by rw [q]; decide)))), fun i h => rfl⟩ hP hS dX9_meets_200
              · skip
                refine lv_iload_n hE.1 hE.2.1 dX9_meets_184 rfl (lv_at hl 0 rfl) ?_
                refine lv_aload_n hE.1 hE.2.1 dX9_meets_185 rfl (lv_at hl 3 rfl) ?_
                refine x_get (x := .int (v56 0 32)) hE hK hP 0 (by decide) (yG_9 rfl) rfl hin9 32 (by decide) mw_1366 rfl dX9_meets_186 ?_
                refine x_top (y := iI (z195)) ez195 ?_
                refine s_icmp_ne (a := z185) (b := z195) (tgt := 201) hE.1 hE.2.1 (by omega) (by omega) dX9_meets_189 (by decide) (fun c197 => ?_) (fun c197 => ?_)
                · skip
                  refine lv_aload_n hE.1 hE.2.1 dX9_meets_201 rfl (lv_at hl 3 rfl) ?_
                  refine lv_iload_n hE.1 hE.2.1 dX9_meets_202 rfl (lv_at hl 0 rfl) ?_
                  refine x_put (x := iI (z185)) hE hK hN hP hS 0 (by decide) (yG_9 rfl) rfl hin9 tyX9 tyX9_ok nmX9 32 (by decide) mw_1366 rfl rfl rfl (Nat.le_of_ble_eq_true rfl) (yG_9 rfl) dX9_meets_203 (fun v198 H locs hv198 hP hS => ?_)
                  have hI := YI_putN hI hv198 (by decide)
                  refine lv_aload_n hE.1 hE.2.1 dX9_meets_206 rfl (lv_at hl 3 rfl) ?_
                  refine lv_iload_n hE.1 hE.2.1 dX9_meets_207 rfl (lv_at hl 2 rfl) ?_
                  refine x_put (x := iI (w_1 - w_4)) hE hK hN hP hS 0 (by decide) (yG_9 rfl) rfl hin9 tyX9 tyX9_ok nmX9 33 (by decide) mw_1367 rfl rfl rfl (Nat.le_of_ble_eq_true rfl) (yG_9 rfl) dX9_meets_208 (fun v199 H locs hv199 hP hS => ?_)
                  have hI := YI_putB (z := w_1 - w_4) hI hv199 (-1) 9 (by omega) (by decide) (by omega)
                  refine lv_iconst (v := iI (0)) hE.1 hE.2.1 dX9_meets_211 (by decide) ?_
                  refine lv_istore (lv' := [(4, .int (iI (0))), (3, .int (iI (z185))), (2, .int (iI (z5))), (1, .int (iI (w_1 - w_4))), (0, .ref (ad 0))]) hE.1 hE.2.1 dX9_meets_212 hl (by decide) rfl (fun ls hl => ?_)
                  have loop200 : ∀ (k200 : Nat) (y200_4 : Int) (vl200 arl200 : sI) (all200 : sL) (H : Heap) (locs : List Loc) (ls : Array Slot), (9 - y200_4).toNat = k200 → (0 ≤ y200_4 ∧ y200_4 ≤ 9) → YI vl200 arl200 → (∀ i j : Nat, (i, j) ∉ ([] : List (Nat × Nat)) → vl200 i j = v199 i j) → (∀ i : Nat, i ∉ ([15] : List Nat) → arl200 i = ar47 i) → (∀ i : Nat, i ∉ ([] : List Nat) → all200 i = al i) → va_P D xcl (wW ad (yG ad K) 21 vl200 arl200 all200) H → va_S (inW ad 21) s.heap H locs → lv_has ls 5 [(4, .int (iI (y200_4))), (3, .int (iI (z185))), (2, .int (iI (z5))), (1, .int (iI (w_1 - w_4))), (0, .ref (ad 0))] → W p l e (rmD 3) s m args below meth c H locs 0 0 Q (F0 m 214 ls []) := by
                    intro k200
                    induction k200 using Nat.strongRecOn with
                    | _ k200 ih200 =>
                      intro y200_4  vl200 arl200 all200 H locs ls hk200 hb_y200_4 hI hfr200 hfa200 hfl200 hP hS hl
                      refine lv_iload hE.1 hE.2.1 dX9_meets_214 (lv_at hl 0 rfl) ?_
                      refine lv_iload_n hE.1 hE.2.1 dX9_meets_216 rfl (lv_at hl 3 rfl) ?_
                      refine s_icmp_ge (a := y200_4) (b := w_1 - w_4) (tgt := 245) hE.1 hE.2.1 (by omega) (by omega) dX9_meets_217 (by decide) (fun c201 => ?_) (fun c201 => ?_)
                      · skip
                        exact kr vl200 arl200 all200 _ _ _ _ ⟨hI, fun i j h => ((hfr200 i j (fun q => h (mem_sub (by decide) q))).trans ((up_oth hv199 (fun q => h (by rcases q with ⟨rfl, rfl⟩; decide))).trans ((up_oth hv198 (fun q => h (by rcases q with ⟨rfl, rfl⟩; decide))).trans ((up_oth hv56 (fun q => h (by rcases q with ⟨rfl, rfl⟩; decide))).trans ((up_oth hv53 (fun q => h (by rcases q with ⟨rfl, rfl⟩; decide))).trans ((up_oth hv50 (fun q => h (by rcases q with ⟨rfl, rfl⟩; decide))).trans (up_oth hv43 (fun q => h (by rcases q with ⟨rfl, rfl⟩; decide))))))))), fun i h => ((hfa200 i (fun q => h (mem_subn (by decide) q))).trans ((upx_ne ha47 i (fun q => h (by rw [q]; decide))).trans (upx_ne ha4 i (fun q => h (by rw [q]; decide))))), fun i h => (hfl200 i (fun q => h (mem_subn (by decide) q)))⟩ hP hS dX9_meets_245
                      · skip
                        refine lv_aload_n hE.1 hE.2.1 dX9_meets_220 rfl (lv_at hl 4 rfl) ?_
                        refine x_get (x := .ref (ad 15)) hE hK hP 0 (by decide) (yG_9 rfl) rfl hin9 34 (by decide) mw_1368 rfl dX9_meets_221 ?_
                        refine lv_iload hE.1 hE.2.1 dX9_meets_224 (lv_at hl 0 rfl) ?_
                        refine lv_aload_n hE.1 hE.2.1 dX9_meets_226 rfl (lv_at hl 4 rfl) ?_
                        refine x_get (x := .ref (ad 12)) hE hK hP 0 (by decide) (yG_9 rfl) rfl hin9 22 (by decide) mw_1356 rfl dX9_meets_227 ?_
                        refine lv_aload_n hE.1 hE.2.1 dX9_meets_230 rfl (lv_at hl 4 rfl) ?_
                        refine x_get (x := .int (vl200 0 31)) hE hK hP 0 (by decide) (yG_9 rfl) rfl hin9 31 (by decide) mw_1365 rfl dX9_meets_231 ?_
                        refine x_top (y := iI (w_4)) ((hfr200 0 31 (by decide)).trans ((up_oth hv199 (by decide)).trans ((up_oth hv198 (by decide)).trans ((up_oth hv56 (by decide)).trans ((up_oth hv53 (by decide)).trans ((up_oth hv50 (by decide)).trans ((up_oth hv43 (by decide)).trans ew_4))))))) ?_
                        refine lv_iload hE.1 hE.2.1 dX9_meets_234 (lv_at hl 0 rfl) ?_
                        refine lv_iadd hE.1 hE.2.1 dX9_meets_236 ?_
                        refine x_top (y := iI (w_4 + y200_4)) ((iI_add (w_4) (y200_4)).trans (congrArg iI (by omega))) ?_
                        refine x_iald (j := iI (w_4 + y200_4)) hE hK hP 12 (by decide) (yG_10 rfl) (iI_in (n := 60) (by omega)) dX9_meets_237 ?_
                        obtain ⟨z203, hz203, ez203⟩ := YI_a12 hI ((iI (w_4 + y200_4)).toNatClampNeg)
                        refine x_top ez203 ?_
                        refine x_iast (j := iI (y200_4)) hE hK hN hP hS 15 (by decide) (fun _ => yG_10 rfl) (iI_in (n := 9) (by omega)) dX9_meets_238 (fun ar204 H locs ha204 hP hS => ?_)
                        have hI := YI_ast hI ha204 (by decide)
                        refine lv_iinc (v := iI (y200_4 + 1)) (lv' := [(4, .int (iI (y200_4 + 1))), (3, .int (iI (z185))), (2, .int (iI (z5))), (1, .int (iI (w_1 - w_4))), (0, .ref (ad 0))]) hE.1 hE.2.1 dX9_meets_239 hl (k := 0) rfl ((iI_add (y200_4) (1)).trans (congrArg iI (by omega))) (by decide) rfl (fun ls hl => ?_)
                        refine lv_goto (tgt := 214) hE.1 hE.2.1 dX9_meets_242 (by decide) ?_
                        exact ih200 _ (by omega) (y200_4 + 1)  vl200 ar204 all200 _ _ _ rfl (by omega)  hI (fun i j h => (hfr200 i j h)) (fun i h => ((upx_ne ha204 i (fun q => h (by rw [q]; decide))).trans (hfa200 i h))) (fun i h => (hfl200 i h)) hP hS (lv_sub hl [0, 1, 2, 3, 4] rfl)
                  exact loop200 _ (0)  v199 ar47 al _ _ _ rfl (by omega)  hI (fun _ _ _ => rfl) (fun _ _ => rfl) (fun _ _ => rfl) hP hS hl
                · skip
                  refine lv_aload_n hE.1 hE.2.1 dX9_meets_192 rfl (lv_at hl 3 rfl) ?_
                  refine lv_iload_n hE.1 hE.2.1 dX9_meets_193 rfl (lv_at hl 2 rfl) ?_
                  refine x_vp (nn := 1) (As := [.int (iI (w_1 - w_4))]) (rest := []) hE (s_X9_isAhead_e l D K ad v56 ar47 al hI  (w_1 - w_4) (by omega)) wPre_blind (wPre_now hK hN hP) (x_recv hK hP 0 (by decide) (yG_9 rfl) rfl) rfl mw_1818 mw_1820 mw_90 mw_123 mw_1821 (by decide +kernel) ⟨by decide, by decide⟩ hl.1 rfl (Nat.le_of_ble_eq_true rfl) ⟨Nat.zero_le _, Nat.zero_le _⟩ dX9_meets_194 (fun r205 hr205 => ?_)
                  obtain ⟨z205, hz205, rfl⟩ := hr205
                  refine s_if_ne (a := z205) (tgt := 201) hE.1 hE.2.1 (by omega) dX9_meets_197 (by decide) (fun c206 => ?_) (fun c206 => ?_)
                  · skip
                    refine lv_aload_n hE.1 hE.2.1 dX9_meets_201 rfl (lv_at hl 3 rfl) ?_
                    refine lv_iload_n hE.1 hE.2.1 dX9_meets_202 rfl (lv_at hl 0 rfl) ?_
                    refine x_put (x := iI (z185)) hE hK hN hP hS 0 (by decide) (yG_9 rfl) rfl hin9 tyX9 tyX9_ok nmX9 32 (by decide) mw_1366 rfl rfl rfl (Nat.le_of_ble_eq_true rfl) (yG_9 rfl) dX9_meets_203 (fun v207 H locs hv207 hP hS => ?_)
                    have hI := YI_putN hI hv207 (by decide)
                    refine lv_aload_n hE.1 hE.2.1 dX9_meets_206 rfl (lv_at hl 3 rfl) ?_
                    refine lv_iload_n hE.1 hE.2.1 dX9_meets_207 rfl (lv_at hl 2 rfl) ?_
                    refine x_put (x := iI (w_1 - w_4)) hE hK hN hP hS 0 (by decide) (yG_9 rfl) rfl hin9 tyX9 tyX9_ok nmX9 33 (by decide) mw_1367 rfl rfl rfl (Nat.le_of_ble_eq_true rfl) (yG_9 rfl) dX9_meets_208 (fun v208 H locs hv208 hP hS => ?_)
                    have hI := YI_putB (z := w_1 - w_4) hI hv208 (-1) 9 (by omega) (by decide) (by omega)
                    refine lv_iconst (v := iI (0)) hE.1 hE.2.1 dX9_meets_211 (by decide) ?_
                    refine lv_istore (lv' := [(4, .int (iI (0))), (3, .int (iI (z185))), (2, .int (iI (z5))), (1, .int (iI (w_1 - w_4))), (0, .ref (ad 0))]) hE.1 hE.2.1 dX9_meets_212 hl (by decide) rfl (fun ls hl => ?_)
                    have loop209 : ∀ (k209 : Nat) (y209_4 : Int) (vl209 arl209 : sI) (all209 : sL) (H : Heap) (locs : List Loc) (ls : Array Slot), (9 - y209_4).toNat = k209 → (0 ≤ y209_4 ∧ y209_4 ≤ 9) → YI vl209 arl209 → (∀ i j : Nat, (i, j) ∉ ([] : List (Nat × Nat)) → vl209 i j = v208 i j) → (∀ i : Nat, i ∉ ([15] : List Nat) → arl209 i = ar47 i) → (∀ i : Nat, i ∉ ([] : List Nat) → all209 i = al i) → va_P D xcl (wW ad (yG ad K) 21 vl209 arl209 all209) H → va_S (inW ad 21) s.heap H locs → lv_has ls 5 [(4, .int (iI (y209_4))), (3, .int (iI (z185))), (2, .int (iI (z5))), (1, .int (iI (w_1 - w_4))), (0, .ref (ad 0))] → W p l e (rmD 3) s m args below meth c H locs 0 0 Q (F0 m 214 ls []) := by
                      intro k209
                      induction k209 using Nat.strongRecOn with
                      | _ k209 ih209 =>
                        intro y209_4  vl209 arl209 all209 H locs ls hk209 hb_y209_4 hI hfr209 hfa209 hfl209 hP hS hl
                        refine lv_iload hE.1 hE.2.1 dX9_meets_214 (lv_at hl 0 rfl) ?_
                        refine lv_iload_n hE.1 hE.2.1 dX9_meets_216 rfl (lv_at hl 3 rfl) ?_
                        refine s_icmp_ge (a := y209_4) (b := w_1 - w_4) (tgt := 245) hE.1 hE.2.1 (by omega) (by omega) dX9_meets_217 (by decide) (fun c210 => ?_) (fun c210 => ?_)
                        · skip
                          exact kr vl209 arl209 all209 _ _ _ _ ⟨hI, fun i j h => ((hfr209 i j (fun q => h (mem_sub (by decide) q))).trans ((up_oth hv208 (fun q => h (by rcases q with ⟨rfl, rfl⟩; decide))).trans ((up_oth hv207 (fun q => h (by rcases q with ⟨rfl, rfl⟩; decide))).trans ((up_oth hv56 (fun q => h (by rcases q with ⟨rfl, rfl⟩; decide))).trans ((up_oth hv53 (fun q => h (by rcases q with ⟨rfl, rfl⟩; decide))).trans ((up_oth hv50 (fun q => h (by rcases q with ⟨rfl, rfl⟩; decide))).trans (up_oth hv43 (fun q => h (by rcases q with ⟨rfl, rfl⟩; decide))))))))), fun i h => ((hfa209 i (fun q => h (mem_subn (by decide) q))).trans ((upx_ne ha47 i (fun q => h (by rw [q]; decide))).trans (upx_ne ha4 i (fun q => h (by rw [q]; decide))))), fun i h => (hfl209 i (fun q => h (mem_subn (by decide) q)))⟩ hP hS dX9_meets_245
                        · skip
                          refine lv_aload_n hE.1 hE.2.1 dX9_meets_220 rfl (lv_at hl 4 rfl) ?_
                          refine x_get (x := .ref (ad 15)) hE hK hP 0 (by decide) (yG_9 rfl) rfl hin9 34 (by decide) mw_1368 rfl dX9_meets_221 ?_
                          refine lv_iload hE.1 hE.2.1 dX9_meets_224 (lv_at hl 0 rfl) ?_
                          refine lv_aload_n hE.1 hE.2.1 dX9_meets_226 rfl (lv_at hl 4 rfl) ?_
                          refine x_get (x := .ref (ad 12)) hE hK hP 0 (by decide) (yG_9 rfl) rfl hin9 22 (by decide) mw_1356 rfl dX9_meets_227 ?_
                          refine lv_aload_n hE.1 hE.2.1 dX9_meets_230 rfl (lv_at hl 4 rfl) ?_
                          refine x_get (x := .int (vl209 0 31)) hE hK hP 0 (by decide) (yG_9 rfl) rfl hin9 31 (by decide) mw_1365 rfl dX9_meets_231 ?_
                          refine x_top (y := iI (w_4)) ((hfr209 0 31 (by decide)).trans ((up_oth hv208 (by decide)).trans ((up_oth hv207 (by decide)).trans ((up_oth hv56 (by decide)).trans ((up_oth hv53 (by decide)).trans ((up_oth hv50 (by decide)).trans ((up_oth hv43 (by decide)).trans ew_4))))))) ?_
                          refine lv_iload hE.1 hE.2.1 dX9_meets_234 (lv_at hl 0 rfl) ?_
                          refine lv_iadd hE.1 hE.2.1 dX9_meets_236 ?_
                          refine x_top (y := iI (w_4 + y209_4)) ((iI_add (w_4) (y209_4)).trans (congrArg iI (by omega))) ?_
                          refine x_iald (j := iI (w_4 + y209_4)) hE hK hP 12 (by decide) (yG_10 rfl) (iI_in (n := 60) (by omega)) dX9_meets_237 ?_
                          obtain ⟨z212, hz212, ez212⟩ := YI_a12 hI ((iI (w_4 + y209_4)).toNatClampNeg)
                          refine x_top ez212 ?_
                          refine x_iast (j := iI (y209_4)) hE hK hN hP hS 15 (by decide) (fun _ => yG_10 rfl) (iI_in (n := 9) (by omega)) dX9_meets_238 (fun ar213 H locs ha213 hP hS => ?_)
                          have hI := YI_ast hI ha213 (by decide)
                          refine lv_iinc (v := iI (y209_4 + 1)) (lv' := [(4, .int (iI (y209_4 + 1))), (3, .int (iI (z185))), (2, .int (iI (z5))), (1, .int (iI (w_1 - w_4))), (0, .ref (ad 0))]) hE.1 hE.2.1 dX9_meets_239 hl (k := 0) rfl ((iI_add (y209_4) (1)).trans (congrArg iI (by omega))) (by decide) rfl (fun ls hl => ?_)
                          refine lv_goto (tgt := 214) hE.1 hE.2.1 dX9_meets_242 (by decide) ?_
                          exact ih209 _ (by omega) (y209_4 + 1)  vl209 ar213 all209 _ _ _ rfl (by omega)  hI (fun i j h => (hfr209 i j h)) (fun i h => ((upx_ne ha213 i (fun q => h (by rw [q]; decide))).trans (hfa209 i h))) (fun i h => (hfl209 i h)) hP hS (lv_sub hl [0, 1, 2, 3, 4] rfl)
                    exact loop209 _ (0)  v208 ar47 al _ _ _ rfl (by omega)  hI (fun _ _ _ => rfl) (fun _ _ => rfl) (fun _ _ => rfl) hP hS hl
                  · skip
                    exact kr v56 ar47 al _ _ _ _ ⟨hI, fun i j h => ((up_oth hv56 (fun q => h (by rcases q with ⟨rfl, rfl⟩; decide))).trans ((up_oth hv53 (fun q => h (by rcases q with ⟨rfl, rfl⟩; decide))).trans ((up_oth hv50 (fun q => h (by rcases q with ⟨rfl, rfl⟩; decide))).trans (up_oth hv43 (fun q => h (by rcases q with ⟨rfl, rfl⟩; decide)))))), fun i h => ((upx_ne ha47 i (fun q => h (by rw [q]; decide))).trans (upx_ne ha4 i (fun q => h (by rw [q]; decide)))), fun i h => rfl⟩ hP hS dX9_meets_200
          · skip
            exact kr v56 ar47 al _ _ _ _ ⟨hI, fun i j h => ((up_oth hv56 (fun q => h (by rcases q with ⟨rfl, rfl⟩; decide))).trans ((up_oth hv53 (fun q => h (by rcases q with ⟨rfl, rfl⟩; decide))).trans ((up_oth hv50 (fun q => h (by rcases q with ⟨rfl, rfl⟩; decide))).trans (up_oth hv43 (fun q => h (by rcases q with ⟨rfl, rfl⟩; decide)))))), fun i h => ((upx_ne ha47 i (fun q => h (by rw [q]; decide))).trans (upx_ne ha4 i (fun q => h (by rw [q]; decide)))), fun i h => rfl⟩ hP hS dX9_meets_137
    · skip
      refine lv_aload_n hE.1 hE.2.1 dX9_meets_91 rfl (lv_at hl 2 rfl) ?_
      refine x_vp (nn := 0) (As := []) (rest := [.int (iI (z54)), .ref (ad 0)]) hE (s_X9_isFit_e l D K ad v53 ar47 al hI (w_5) (by omega) ((up_oth hv53 (by decide)).trans ((up_oth hv50 (by decide)).trans ((up_oth hv43 (by decide)).trans ew_5))) (w_2) (by omega) ((up_oth hv53 (by decide)).trans ((up_oth hv50 (by decide)).trans ((up_oth hv43 (by decide)).trans ew_2)))  (by rw [show ar47 2 = ar 2 from ((upx_ne ha47 2 (by decide)).trans (upx_ne ha4 2 (by decide))), show al 3 = al 3 from rfl]; exact (FTv_s hft (by omega)).2.1) (by rw [show ar47 2 = ar 2 from ((upx_ne ha47 2 (by decide)).trans (upx_ne ha4 2 (by decide)))]; exact (FTv_s hft (by omega)).2.2)) wPre_blind (wPre_now hK hN hP) (x_recv hK hP 0 (by decide) (yG_9 rfl) rfl) rfl mw_1810 mw_1812 mw_88 mw_123 mw_1813 (by decide +kernel) ⟨by decide, by decide⟩ hl.1 rfl (Nat.le_of_ble_eq_true rfl) ⟨Nat.zero_le _, Nat.zero_le _⟩ dX9_meets_92 (fun r214 hr214 => ?_)
      obtain ⟨z214, hz214, rfl⟩ := hr214
      refine s_if_eq (a := z214) (tgt := 102) hE.1 hE.2.1 (by omega) dX9_meets_95 (by decide) (fun c215 => ?_) (fun c215 => ?_)
      · skip
        refine lv_iconst (v := iI (0)) hE.1 hE.2.1 dX9_meets_102 (by decide) ?_
        refine lv_iadd hE.1 hE.2.1 dX9_meets_103 ?_
        refine x_top (y := iI (z54)) ((iI_add (z54) (0)).trans (congrArg iI (by omega))) ?_
        refine x_put (x := iI (z54)) hE hK hN hP hS 0 (by decide) (yG_9 rfl) rfl hin9 tyX9 tyX9_ok nmX9 40 (by decide) mw_1374 rfl rfl rfl (Nat.le_of_ble_eq_true rfl) (yG_9 rfl) dX9_meets_104 (fun v216 H locs hv216 hP hS => ?_)
        have hI := YI_putN hI hv216 (by decide)
        refine lv_aload_n hE.1 hE.2.1 dX9_meets_107 rfl (lv_at hl 2 rfl) ?_
        obtain ⟨z217, hz217, ez217⟩ := iI_of (v216 0 29)
        refine x_get (x := .int (v216 0 29)) hE hK hP 0 (by decide) (yG_9 rfl) rfl hin9 29 (by decide) mw_1363 rfl dX9_meets_108 ?_
        refine x_top (y := iI (z217)) ez217 ?_
        refine s_if_eq (a := z217) (tgt := 118) hE.1 hE.2.1 (by omega) dX9_meets_111 (by decide) (fun c218 => ?_) (fun c218 => ?_)
        · skip
          refine lv_aload_n hE.1 hE.2.1 dX9_meets_118 rfl (lv_at hl 2 rfl) ?_
          refine x_get (x := .int (v216 0 29)) hE hK hP 0 (by decide) (yG_9 rfl) rfl hin9 29 (by decide) mw_1363 rfl dX9_meets_119 ?_
          refine x_top (y := iI (z217)) ez217 ?_
          refine lv_iconst (v := iI (3)) hE.1 hE.2.1 dX9_meets_122 (by decide) ?_
          refine s_icmp_ne (a := z217) (b := 3) (tgt := 138) hE.1 hE.2.1 (by omega) (by omega) dX9_meets_123 (by decide) (fun _ => ?_) (fun c219 => False.elim (by omega))
          refine lv_aload_n hE.1 hE.2.1 dX9_meets_138 rfl (lv_at hl 2 rfl) ?_
          refine x_get (x := .int (v216 0 29)) hE hK hP 0 (by decide) (yG_9 rfl) rfl hin9 29 (by decide) mw_1363 rfl dX9_meets_139 ?_
          refine x_top (y := iI (z217)) ez217 ?_
          refine lv_iconst (v := iI (2)) hE.1 hE.2.1 dX9_meets_142 (by decide) ?_
          refine s_icmp_ne (a := z217) (b := 2) (tgt := 153) hE.1 hE.2.1 (by omega) (by omega) dX9_meets_143 (by decide) (fun _ => ?_) (fun c220 => False.elim (by omega))
          refine lv_aload_n hE.1 hE.2.1 dX9_meets_153 rfl (lv_at hl 2 rfl) ?_
          refine x_get (x := .int (v216 0 29)) hE hK hP 0 (by decide) (yG_9 rfl) rfl hin9 29 (by decide) mw_1363 rfl dX9_meets_154 ?_
          refine x_top (y := iI (z217)) ez217 ?_
          refine lv_iconst (v := iI (3)) hE.1 hE.2.1 dX9_meets_157 (by decide) ?_
          refine s_icmp_ne (a := z217) (b := 3) (tgt := 166) hE.1 hE.2.1 (by omega) (by omega) dX9_meets_158 (by decide) (fun _ => ?_) (fun c221 => False.elim (by omega))
          refine lv_iload_n hE.1 hE.2.1 dX9_meets_166 rfl (lv_at hl 1 rfl) ?_
          refine lv_istore_n (lv' := [(3, .int (iI (w_1 - w_4))), (2, .int (iI (z5))), (1, .int (iI (w_1 - w_4))), (0, .ref (ad 0))]) hE.1 hE.2.1 dX9_meets_167 rfl hl (by decide) rfl (fun ls hl => ?_)
          refine lv_aload_n hE.1 hE.2.1 dX9_meets_168 rfl (lv_at hl 3 rfl) ?_
          obtain ⟨z222, hz222, ez222⟩ := YI_get hI 0 33 (-1) 9 (by decide)
          refine x_get (x := .int (v216 0 33)) hE hK hP 0 (by decide) (yG_9 rfl) rfl hin9 33 (by decide) mw_1367 rfl dX9_meets_169 ?_
          refine x_top (y := iI (z222)) ez222 ?_
          refine lv_iconst (v := iI (-1)) hE.1 hE.2.1 dX9_meets_172 (by decide) ?_
          refine s_icmp_eq (a := z222) (b := -1) (tgt := 201) hE.1 hE.2.1 (by omega) (by omega) dX9_meets_173 (by decide) (fun c223 => ?_) (fun c223 => ?_)
          · skip
            refine lv_aload_n hE.1 hE.2.1 dX9_meets_201 rfl (lv_at hl 3 rfl) ?_
            refine lv_iload_n hE.1 hE.2.1 dX9_meets_202 rfl (lv_at hl 0 rfl) ?_
            refine x_put (x := iI (w_1 - w_4)) hE hK hN hP hS 0 (by decide) (yG_9 rfl) rfl hin9 tyX9 tyX9_ok nmX9 32 (by decide) mw_1366 rfl rfl rfl (Nat.le_of_ble_eq_true rfl) (yG_9 rfl) dX9_meets_203 (fun v224 H locs hv224 hP hS => ?_)
            have hI := YI_putN hI hv224 (by decide)
            refine lv_aload_n hE.1 hE.2.1 dX9_meets_206 rfl (lv_at hl 3 rfl) ?_
            refine lv_iload_n hE.1 hE.2.1 dX9_meets_207 rfl (lv_at hl 2 rfl) ?_
            refine x_put (x := iI (w_1 - w_4)) hE hK hN hP hS 0 (by decide) (yG_9 rfl) rfl hin9 tyX9 tyX9_ok nmX9 33 (by decide) mw_1367 rfl rfl rfl (Nat.le_of_ble_eq_true rfl) (yG_9 rfl) dX9_meets_208 (fun v225 H locs hv225 hP hS => ?_)
            have hI := YI_putB (z := w_1 - w_4) hI hv225 (-1) 9 (by omega) (by decide) (by omega)
            refine lv_iconst (v := iI (0)) hE.1 hE.2.1 dX9_meets_211 (by decide) ?_
            refine lv_istore (lv' := [(4, .int (iI (0))), (3, .int (iI (w_1 - w_4))), (2, .int (iI (z5))), (1, .int (iI (w_1 - w_4))), (0, .ref (ad 0))]) hE.1 hE.2.1 dX9_meets_212 hl (by decide) rfl (fun ls hl => ?_)
            have loop226 : ∀ (k226 : Nat) (y226_4 : Int) (vl226 arl226 : sI) (all226 : sL) (H : Heap) (locs : List Loc) (ls : Array Slot), (9 - y226_4).toNat = k226 → (0 ≤ y226_4 ∧ y226_4 ≤ 9) → YI vl226 arl226 → (∀ i j : Nat, (i, j) ∉ ([] : List (Nat × Nat)) → vl226 i j = v225 i j) → (∀ i : Nat, i ∉ ([15] : List Nat) → arl226 i = ar47 i) → (∀ i : Nat, i ∉ ([] : List Nat) → all226 i = al i) → va_P D xcl (wW ad (yG ad K) 21 vl226 arl226 all226) H → va_S (inW ad 21) s.heap H locs → lv_has ls 5 [(4, .int (iI (y226_4))), (3, .int (iI (w_1 - w_4))), (2, .int (iI (z5))), (1, .int (iI (w_1 - w_4))), (0, .ref (ad 0))] → W p l e (rmD 3) s m args below meth c H locs 0 0 Q (F0 m 214 ls []) := by
              intro k226
              induction k226 using Nat.strongRecOn with
              | _ k226 ih226 =>
                intro y226_4  vl226 arl226 all226 H locs ls hk226 hb_y226_4 hI hfr226 hfa226 hfl226 hP hS hl
                refine lv_iload hE.1 hE.2.1 dX9_meets_214 (lv_at hl 0 rfl) ?_
                refine lv_iload_n hE.1 hE.2.1 dX9_meets_216 rfl (lv_at hl 3 rfl) ?_
                refine s_icmp_ge (a := y226_4) (b := w_1 - w_4) (tgt := 245) hE.1 hE.2.1 (by omega) (by omega) dX9_meets_217 (by decide) (fun c227 => ?_) (fun c227 => ?_)
                · skip
                  exact kr vl226 arl226 all226 _ _ _ _ ⟨hI, fun i j h => ((hfr226 i j (fun q => h (mem_sub (by decide) q))).trans ((up_oth hv225 (fun q => h (by rcases q with ⟨rfl, rfl⟩; decide))).trans ((up_oth hv224 (fun q => h (by rcases q with ⟨rfl, rfl⟩; decide))).trans ((up_oth hv216 (fun q => h (by rcases q with ⟨rfl, rfl⟩; decide))).trans ((up_oth hv53 (fun q => h (by rcases q with ⟨rfl, rfl⟩; decide))).trans ((up_oth hv50 (fun q => h (by rcases q with ⟨rfl, rfl⟩; decide))).trans (up_oth hv43 (fun q => h (by rcases q with ⟨rfl, rfl⟩; decide))))))))), fun i h => ((hfa226 i (fun q => h (mem_subn (by decide) q))).trans ((upx_ne ha47 i (fun q => h (by rw [q]; decide))).trans (upx_ne ha4 i (fun q => h (by rw [q]; decide))))), fun i h => (hfl226 i (fun q => h (mem_subn (by decide) q)))⟩ hP hS dX9_meets_245
                · skip
                  refine lv_aload_n hE.1 hE.2.1 dX9_meets_220 rfl (lv_at hl 4 rfl) ?_
                  refine x_get (x := .ref (ad 15)) hE hK hP 0 (by decide) (yG_9 rfl) rfl hin9 34 (by decide) mw_1368 rfl dX9_meets_221 ?_
                  refine lv_iload hE.1 hE.2.1 dX9_meets_224 (lv_at hl 0 rfl) ?_
                  refine lv_aload_n hE.1 hE.2.1 dX9_meets_226 rfl (lv_at hl 4 rfl) ?_
                  refine x_get (x := .ref (ad 12)) hE hK hP 0 (by decide) (yG_9 rfl) rfl hin9 22 (by decide) mw_1356 rfl dX9_meets_227 ?_
                  refine lv_aload_n hE.1 hE.2.1 dX9_meets_230 rfl (lv_at hl 4 rfl) ?_
                  refine x_get (x := .int (vl226 0 31)) hE hK hP 0 (by decide) (yG_9 rfl) rfl hin9 31 (by decide) mw_1365 rfl dX9_meets_231 ?_
                  refine x_top (y := iI (w_4)) ((hfr226 0 31 (by decide)).trans ((up_oth hv225 (by decide)).trans ((up_oth hv224 (by decide)).trans ((up_oth hv216 (by decide)).trans ((up_oth hv53 (by decide)).trans ((up_oth hv50 (by decide)).trans ((up_oth hv43 (by decide)).trans ew_4))))))) ?_
                  refine lv_iload hE.1 hE.2.1 dX9_meets_234 (lv_at hl 0 rfl) ?_
                  refine lv_iadd hE.1 hE.2.1 dX9_meets_236 ?_
                  refine x_top (y := iI (w_4 + y226_4)) ((iI_add (w_4) (y226_4)).trans (congrArg iI (by omega))) ?_
                  refine x_iald (j := iI (w_4 + y226_4)) hE hK hP 12 (by decide) (yG_10 rfl) (iI_in (n := 60) (by omega)) dX9_meets_237 ?_
                  obtain ⟨z229, hz229, ez229⟩ := YI_a12 hI ((iI (w_4 + y226_4)).toNatClampNeg)
                  refine x_top ez229 ?_
                  refine x_iast (j := iI (y226_4)) hE hK hN hP hS 15 (by decide) (fun _ => yG_10 rfl) (iI_in (n := 9) (by omega)) dX9_meets_238 (fun ar230 H locs ha230 hP hS => ?_)
                  have hI := YI_ast hI ha230 (by decide)
                  refine lv_iinc (v := iI (y226_4 + 1)) (lv' := [(4, .int (iI (y226_4 + 1))), (3, .int (iI (w_1 - w_4))), (2, .int (iI (z5))), (1, .int (iI (w_1 - w_4))), (0, .ref (ad 0))]) hE.1 hE.2.1 dX9_meets_239 hl (k := 0) rfl ((iI_add (y226_4) (1)).trans (congrArg iI (by omega))) (by decide) rfl (fun ls hl => ?_)
                  refine lv_goto (tgt := 214) hE.1 hE.2.1 dX9_meets_242 (by decide) ?_
                  exact ih226 _ (by omega) (y226_4 + 1)  vl226 ar230 all226 _ _ _ rfl (by omega)  hI (fun i j h => (hfr226 i j h)) (fun i h => ((upx_ne ha230 i (fun q => h (by rw [q]; decide))).trans (hfa226 i h))) (fun i h => (hfl226 i h)) hP hS (lv_sub hl [0, 1, 2, 3, 4] rfl)
            exact loop226 _ (0)  v225 ar47 al _ _ _ rfl (by omega)  hI (fun _ _ _ => rfl) (fun _ _ => rfl) (fun _ _ => rfl) hP hS hl
          · skip
            refine lv_iload_n hE.1 hE.2.1 dX9_meets_176 rfl (lv_at hl 0 rfl) ?_
            refine lv_aload_n hE.1 hE.2.1 dX9_meets_177 rfl (lv_at hl 3 rfl) ?_
            obtain ⟨z231, hz231, ez231⟩ := iI_of (v216 0 32)
            refine x_get (x := .int (v216 0 32)) hE hK hP 0 (by decide) (yG_9 rfl) rfl hin9 32 (by decide) mw_1366 rfl dX9_meets_178 ?_
            refine x_top (y := iI (z231)) ez231 ?_
            refine s_icmp_lt (a := w_1 - w_4) (b := z231) (tgt := 200) hE.1 hE.2.1 (by omega) (by omega) dX9_meets_181 (by decide) (fun c232 => ?_) (fun c232 => ?_)
            · skip
              exact kr v216 ar47 al _ _ _ _ ⟨hI, fun i j h => ((up_oth hv216 (fun q => h (by rcases q with ⟨rfl, rfl⟩; decide))).trans ((up_oth hv53 (fun q => h (by rcases q with ⟨rfl, rfl⟩; decide))).trans ((up_oth hv50 (fun q => h (by rcases q with ⟨rfl, rfl⟩; decide))).trans (up_oth hv43 (fun q => h (by rcases q with ⟨rfl, rfl⟩; decide)))))), fun i h => ((upx_ne ha47 i (fun q => h (by rw [q]; decide))).trans (upx_ne ha4 i (fun q => h (by rw [q]; decide)))), fun i h => rfl⟩ hP hS dX9_meets_200
            · skip
              refine lv_iload_n hE.1 hE.2.1 dX9_meets_184 rfl (lv_at hl 0 rfl) ?_
              refine lv_aload_n hE.1 hE.2.1 dX9_meets_185 rfl (lv_at hl 3 rfl) ?_
              refine x_get (x := .int (v216 0 32)) hE hK hP 0 (by decide) (yG_9 rfl) rfl hin9 32 (by decide) mw_1366 rfl dX9_meets_186 ?_
              refine x_top (y := iI (z231)) ez231 ?_
              refine s_icmp_ne (a := w_1 - w_4) (b := z231) (tgt := 201) hE.1 hE.2.1 (by omega) (by omega) dX9_meets_189 (by decide) (fun c233 => ?_) (fun c233 => ?_)
              · skip
                refine lv_aload_n hE.1 hE.2.1 dX9_meets_201 rfl (lv_at hl 3 rfl) ?_
                refine lv_iload_n hE.1 hE.2.1 dX9_meets_202 rfl (lv_at hl 0 rfl) ?_
                refine x_put (x := iI (w_1 - w_4)) hE hK hN hP hS 0 (by decide) (yG_9 rfl) rfl hin9 tyX9 tyX9_ok nmX9 32 (by decide) mw_1366 rfl rfl rfl (Nat.le_of_ble_eq_true rfl) (yG_9 rfl) dX9_meets_203 (fun v234 H locs hv234 hP hS => ?_)
                have hI := YI_putN hI hv234 (by decide)
                refine lv_aload_n hE.1 hE.2.1 dX9_meets_206 rfl (lv_at hl 3 rfl) ?_
                refine lv_iload_n hE.1 hE.2.1 dX9_meets_207 rfl (lv_at hl 2 rfl) ?_
                refine x_put (x := iI (w_1 - w_4)) hE hK hN hP hS 0 (by decide) (yG_9 rfl) rfl hin9 tyX9 tyX9_ok nmX9 33 (by decide) mw_1367 rfl rfl rfl (Nat.le_of_ble_eq_true rfl) (yG_9 rfl) dX9_meets_208 (fun v235 H locs hv235 hP hS => ?_)
                have hI := YI_putB (z := w_1 - w_4) hI hv235 (-1) 9 (by omega) (by decide) (by omega)
                refine lv_iconst (v := iI (0)) hE.1 hE.2.1 dX9_meets_211 (by decide) ?_
                refine lv_istore (lv' := [(4, .int (iI (0))), (3, .int (iI (w_1 - w_4))), (2, .int (iI (z5))), (1, .int (iI (w_1 - w_4))), (0, .ref (ad 0))]) hE.1 hE.2.1 dX9_meets_212 hl (by decide) rfl (fun ls hl => ?_)
                have loop236 : ∀ (k236 : Nat) (y236_4 : Int) (vl236 arl236 : sI) (all236 : sL) (H : Heap) (locs : List Loc) (ls : Array Slot), (9 - y236_4).toNat = k236 → (0 ≤ y236_4 ∧ y236_4 ≤ 9) → YI vl236 arl236 → (∀ i j : Nat, (i, j) ∉ ([] : List (Nat × Nat)) → vl236 i j = v235 i j) → (∀ i : Nat, i ∉ ([15] : List Nat) → arl236 i = ar47 i) → (∀ i : Nat, i ∉ ([] : List Nat) → all236 i = al i) → va_P D xcl (wW ad (yG ad K) 21 vl236 arl236 all236) H → va_S (inW ad 21) s.heap H locs → lv_has ls 5 [(4, .int (iI (y236_4))), (3, .int (iI (w_1 - w_4))), (2, .int (iI (z5))), (1, .int (iI (w_1 - w_4))), (0, .ref (ad 0))] → W p l e (rmD 3) s m args below meth c H locs 0 0 Q (F0 m 214 ls []) := by
                  intro k236
                  induction k236 using Nat.strongRecOn with
                  | _ k236 ih236 =>
                    intro y236_4  vl236 arl236 all236 H locs ls hk236 hb_y236_4 hI hfr236 hfa236 hfl236 hP hS hl
                    refine lv_iload hE.1 hE.2.1 dX9_meets_214 (lv_at hl 0 rfl) ?_
                    refine lv_iload_n hE.1 hE.2.1 dX9_meets_216 rfl (lv_at hl 3 rfl) ?_
                    refine s_icmp_ge (a := y236_4) (b := w_1 - w_4) (tgt := 245) hE.1 hE.2.1 (by omega) (by omega) dX9_meets_217 (by decide) (fun c237 => ?_) (fun c237 => ?_)
                    · skip
                      exact kr vl236 arl236 all236 _ _ _ _ ⟨hI, fun i j h => ((hfr236 i j (fun q => h (mem_sub (by decide) q))).trans ((up_oth hv235 (fun q => h (by rcases q with ⟨rfl, rfl⟩; decide))).trans ((up_oth hv234 (fun q => h (by rcases q with ⟨rfl, rfl⟩; decide))).trans ((up_oth hv216 (fun q => h (by rcases q with ⟨rfl, rfl⟩; decide))).trans ((up_oth hv53 (fun q => h (by rcases q with ⟨rfl, rfl⟩; decide))).trans ((up_oth hv50 (fun q => h (by rcases q with ⟨rfl, rfl⟩; decide))).trans (up_oth hv43 (fun q => h (by rcases q with ⟨rfl, rfl⟩; decide))))))))), fun i h => ((hfa236 i (fun q => h (mem_subn (by decide) q))).trans ((upx_ne ha47 i (fun q => h (by rw [q]; decide))).trans (upx_ne ha4 i (fun q => h (by rw [q]; decide))))), fun i h => (hfl236 i (fun q => h (mem_subn (by decide) q)))⟩ hP hS dX9_meets_245
                    · skip
                      refine lv_aload_n hE.1 hE.2.1 dX9_meets_220 rfl (lv_at hl 4 rfl) ?_
                      refine x_get (x := .ref (ad 15)) hE hK hP 0 (by decide) (yG_9 rfl) rfl hin9 34 (by decide) mw_1368 rfl dX9_meets_221 ?_
                      refine lv_iload hE.1 hE.2.1 dX9_meets_224 (lv_at hl 0 rfl) ?_
                      refine lv_aload_n hE.1 hE.2.1 dX9_meets_226 rfl (lv_at hl 4 rfl) ?_
                      refine x_get (x := .ref (ad 12)) hE hK hP 0 (by decide) (yG_9 rfl) rfl hin9 22 (by decide) mw_1356 rfl dX9_meets_227 ?_
                      refine lv_aload_n hE.1 hE.2.1 dX9_meets_230 rfl (lv_at hl 4 rfl) ?_
                      refine x_get (x := .int (vl236 0 31)) hE hK hP 0 (by decide) (yG_9 rfl) rfl hin9 31 (by decide) mw_1365 rfl dX9_meets_231 ?_
                      refine x_top (y := iI (w_4)) ((hfr236 0 31 (by decide)).trans ((up_oth hv235 (by decide)).trans ((up_oth hv234 (by decide)).trans ((up_oth hv216 (by decide)).trans ((up_oth hv53 (by decide)).trans ((up_oth hv50 (by decide)).trans ((up_oth hv43 (by decide)).trans ew_4))))))) ?_
                      refine lv_iload hE.1 hE.2.1 dX9_meets_234 (lv_at hl 0 rfl) ?_
                      refine lv_iadd hE.1 hE.2.1 dX9_meets_236 ?_
                      refine x_top (y := iI (w_4 + y236_4)) ((iI_add (w_4) (y236_4)).trans (congrArg iI (by omega))) ?_
                      refine x_iald (j := iI (w_4 + y236_4)) hE hK hP 12 (by decide) (yG_10 rfl) (iI_in (n := 60) (by omega)) dX9_meets_237 ?_
                      obtain ⟨z239, hz239, ez239⟩ := YI_a12 hI ((iI (w_4 + y236_4)).toNatClampNeg)
                      refine x_top ez239 ?_
                      refine x_iast (j := iI (y236_4)) hE hK hN hP hS 15 (by decide) (fun _ => yG_10 rfl) (iI_in (n := 9) (by omega)) dX9_meets_238 (fun ar240 H locs ha240 hP hS => ?_)
                      have hI := YI_ast hI ha240 (by decide)
                      refine lv_iinc (v := iI (y236_4 + 1)) (lv' := [(4, .int (iI (y236_4 + 1))), (3, .int (iI (w_1 - w_4))), (2, .int (iI (z5))), (1, .int (iI (w_1 - w_4))), (0, .ref (ad 0))]) hE.1 hE.2.1 dX9_meets_239 hl (k := 0) rfl ((iI_add (y236_4) (1)).trans (congrArg iI (by omega))) (by decide) rfl (fun ls hl => ?_)
                      refine lv_goto (tgt := 214) hE.1 hE.2.1 dX9_meets_242 (by decide) ?_
                      exact ih236 _ (by omega) (y236_4 + 1)  vl236 ar240 all236 _ _ _ rfl (by omega)  hI (fun i j h => (hfr236 i j h)) (fun i h => ((upx_ne ha240 i (fun q => h (by rw [q]; decide))).trans (hfa236 i h))) (fun i h => (hfl236 i h)) hP hS (lv_sub hl [0, 1, 2, 3, 4] rfl)
                exact loop236 _ (0)  v235 ar47 al _ _ _ rfl (by omega)  hI (fun _ _ _ => rfl) (fun _ _ => rfl) (fun _ _ => rfl) hP hS hl
              · skip
                refine lv_aload_n hE.1 hE.2.1 dX9_meets_192 rfl (lv_at hl 3 rfl) ?_
                refine lv_iload_n hE.1 hE.2.1 dX9_meets_193 rfl (lv_at hl 2 rfl) ?_
                refine x_vp (nn := 1) (As := [.int (iI (w_1 - w_4))]) (rest := []) hE (s_X9_isAhead_e l D K ad v216 ar47 al hI  (w_1 - w_4) (by omega)) wPre_blind (wPre_now hK hN hP) (x_recv hK hP 0 (by decide) (yG_9 rfl) rfl) rfl mw_1818 mw_1820 mw_90 mw_123 mw_1821 (by decide +kernel) ⟨by decide, by decide⟩ hl.1 rfl (Nat.le_of_ble_eq_true rfl) ⟨Nat.zero_le _, Nat.zero_le _⟩ dX9_meets_194 (fun r241 hr241 => ?_)
                obtain ⟨z241, hz241, rfl⟩ := hr241
                refine s_if_ne (a := z241) (tgt := 201) hE.1 hE.2.1 (by omega) dX9_meets_197 (by decide) (fun c242 => ?_) (fun c242 => ?_)
                · skip
                  refine lv_aload_n hE.1 hE.2.1 dX9_meets_201 rfl (lv_at hl 3 rfl) ?_
                  refine lv_iload_n hE.1 hE.2.1 dX9_meets_202 rfl (lv_at hl 0 rfl) ?_
                  refine x_put (x := iI (w_1 - w_4)) hE hK hN hP hS 0 (by decide) (yG_9 rfl) rfl hin9 tyX9 tyX9_ok nmX9 32 (by decide) mw_1366 rfl rfl rfl (Nat.le_of_ble_eq_true rfl) (yG_9 rfl) dX9_meets_203 (fun v243 H locs hv243 hP hS => ?_)
                  have hI := YI_putN hI hv243 (by decide)
                  refine lv_aload_n hE.1 hE.2.1 dX9_meets_206 rfl (lv_at hl 3 rfl) ?_
                  refine lv_iload_n hE.1 hE.2.1 dX9_meets_207 rfl (lv_at hl 2 rfl) ?_
                  refine x_put (x := iI (w_1 - w_4)) hE hK hN hP hS 0 (by decide) (yG_9 rfl) rfl hin9 tyX9 tyX9_ok nmX9 33 (by decide) mw_1367 rfl rfl rfl (Nat.le_of_ble_eq_true rfl) (yG_9 rfl) dX9_meets_208 (fun v244 H locs hv244 hP hS => ?_)
                  have hI := YI_putB (z := w_1 - w_4) hI hv244 (-1) 9 (by omega) (by decide) (by omega)
                  refine lv_iconst (v := iI (0)) hE.1 hE.2.1 dX9_meets_211 (by decide) ?_
                  refine lv_istore (lv' := [(4, .int (iI (0))), (3, .int (iI (w_1 - w_4))), (2, .int (iI (z5))), (1, .int (iI (w_1 - w_4))), (0, .ref (ad 0))]) hE.1 hE.2.1 dX9_meets_212 hl (by decide) rfl (fun ls hl => ?_)
                  have loop245 : ∀ (k245 : Nat) (y245_4 : Int) (vl245 arl245 : sI) (all245 : sL) (H : Heap) (locs : List Loc) (ls : Array Slot), (9 - y245_4).toNat = k245 → (0 ≤ y245_4 ∧ y245_4 ≤ 9) → YI vl245 arl245 → (∀ i j : Nat, (i, j) ∉ ([] : List (Nat × Nat)) → vl245 i j = v244 i j) → (∀ i : Nat, i ∉ ([15] : List Nat) → arl245 i = ar47 i) → (∀ i : Nat, i ∉ ([] : List Nat) → all245 i = al i) → va_P D xcl (wW ad (yG ad K) 21 vl245 arl245 all245) H → va_S (inW ad 21) s.heap H locs → lv_has ls 5 [(4, .int (iI (y245_4))), (3, .int (iI (w_1 - w_4))), (2, .int (iI (z5))), (1, .int (iI (w_1 - w_4))), (0, .ref (ad 0))] → W p l e (rmD 3) s m args below meth c H locs 0 0 Q (F0 m 214 ls []) := by
                    intro k245
                    induction k245 using Nat.strongRecOn with
                    | _ k245 ih245 =>
                      intro y245_4  vl245 arl245 all245 H locs ls hk245 hb_y245_4 hI hfr245 hfa245 hfl245 hP hS hl
                      refine lv_iload hE.1 hE.2.1 dX9_meets_214 (lv_at hl 0 rfl) ?_
                      refine lv_iload_n hE.1 hE.2.1 dX9_meets_216 rfl (lv_at hl 3 rfl) ?_
                      refine s_icmp_ge (a := y245_4) (b := w_1 - w_4) (tgt := 245) hE.1 hE.2.1 (by omega) (by omega) dX9_meets_217 (by decide) (fun c246 => ?_) (fun c246 => ?_)
                      · skip
                        exact kr vl245 arl245 all245 _ _ _ _ ⟨hI, fun i j h => ((hfr245 i j (fun q => h (mem_sub (by decide) q))).trans ((up_oth hv244 (fun q => h (by rcases q with ⟨rfl, rfl⟩; decide))).trans ((up_oth hv243 (fun q => h (by rcases q with ⟨rfl, rfl⟩; decide))).trans ((up_oth hv216 (fun q => h (by rcases q with ⟨rfl, rfl⟩; decide))).trans ((up_oth hv53 (fun q => h (by rcases q with ⟨rfl, rfl⟩; decide))).trans ((up_oth hv50 (fun q => h (by rcases q with ⟨rfl, rfl⟩; decide))).trans (up_oth hv43 (fun q => h (by rcases q with ⟨rfl, rfl⟩; decide))))))))), fun i h => ((hfa245 i (fun q => h (mem_subn (by decide) q))).trans ((upx_ne ha47 i (fun q => h (by rw [q]; decide))).trans (upx_ne ha4 i (fun q => h (by rw [q]; decide))))), fun i h => (hfl245 i (fun q => h (mem_subn (by decide) q)))⟩ hP hS dX9_meets_245
                      · skip
                        refine lv_aload_n hE.1 hE.2.1 dX9_meets_220 rfl (lv_at hl 4 rfl) ?_
                        refine x_get (x := .ref (ad 15)) hE hK hP 0 (by decide) (yG_9 rfl) rfl hin9 34 (by decide) mw_1368 rfl dX9_meets_221 ?_
                        refine lv_iload hE.1 hE.2.1 dX9_meets_224 (lv_at hl 0 rfl) ?_
                        refine lv_aload_n hE.1 hE.2.1 dX9_meets_226 rfl (lv_at hl 4 rfl) ?_
                        refine x_get (x := .ref (ad 12)) hE hK hP 0 (by decide) (yG_9 rfl) rfl hin9 22 (by decide) mw_1356 rfl dX9_meets_227 ?_
                        refine lv_aload_n hE.1 hE.2.1 dX9_meets_230 rfl (lv_at hl 4 rfl) ?_
                        refine x_get (x := .int (vl245 0 31)) hE hK hP 0 (by decide) (yG_9 rfl) rfl hin9 31 (by decide) mw_1365 rfl dX9_meets_231 ?_
                        refine x_top (y := iI (w_4)) ((hfr245 0 31 (by decide)).trans ((up_oth hv244 (by decide)).trans ((up_oth hv243 (by decide)).trans ((up_oth hv216 (by decide)).trans ((up_oth hv53 (by decide)).trans ((up_oth hv50 (by decide)).trans ((up_oth hv43 (by decide)).trans ew_4))))))) ?_
                        refine lv_iload hE.1 hE.2.1 dX9_meets_234 (lv_at hl 0 rfl) ?_
                        refine lv_iadd hE.1 hE.2.1 dX9_meets_236 ?_
                        refine x_top (y := iI (w_4 + y245_4)) ((iI_add (w_4) (y245_4)).trans (congrArg iI (by omega))) ?_
                        refine x_iald (j := iI (w_4 + y245_4)) hE hK hP 12 (by decide) (yG_10 rfl) (iI_in (n := 60) (by omega)) dX9_meets_237 ?_
                        obtain ⟨z248, hz248, ez248⟩ := YI_a12 hI ((iI (w_4 + y245_4)).toNatClampNeg)
                        refine x_top ez248 ?_
                        refine x_iast (j := iI (y245_4)) hE hK hN hP hS 15 (by decide) (fun _ => yG_10 rfl) (iI_in (n := 9) (by omega)) dX9_meets_238 (fun ar249 H locs ha249 hP hS => ?_)
                        have hI := YI_ast hI ha249 (by decide)
                        refine lv_iinc (v := iI (y245_4 + 1)) (lv' := [(4, .int (iI (y245_4 + 1))), (3, .int (iI (w_1 - w_4))), (2, .int (iI (z5))), (1, .int (iI (w_1 - w_4))), (0, .ref (ad 0))]) hE.1 hE.2.1 dX9_meets_239 hl (k := 0) rfl ((iI_add (y245_4) (1)).trans (congrArg iI (by omega))) (by decide) rfl (fun ls hl => ?_)
                        refine lv_goto (tgt := 214) hE.1 hE.2.1 dX9_meets_242 (by decide) ?_
                        exact ih245 _ (by omega) (y245_4 + 1)  vl245 ar249 all245 _ _ _ rfl (by omega)  hI (fun i j h => (hfr245 i j h)) (fun i h => ((upx_ne ha249 i (fun q => h (by rw [q]; decide))).trans (hfa245 i h))) (fun i h => (hfl245 i h)) hP hS (lv_sub hl [0, 1, 2, 3, 4] rfl)
                  exact loop245 _ (0)  v244 ar47 al _ _ _ rfl (by omega)  hI (fun _ _ _ => rfl) (fun _ _ => rfl) (fun _ _ => rfl) hP hS hl
                · skip
                  exact kr v216 ar47 al _ _ _ _ ⟨hI, fun i j h => ((up_oth hv216 (fun q => h (by rcases q with ⟨rfl, rfl⟩; decide))).trans ((up_oth hv53 (fun q => h (by rcases q with ⟨rfl, rfl⟩; decide))).trans ((up_oth hv50 (fun q => h (by rcases q with ⟨rfl, rfl⟩; decide))).trans (up_oth hv43 (fun q => h (by rcases q with ⟨rfl, rfl⟩; decide)))))), fun i h => ((upx_ne ha47 i (fun q => h (by rw [q]; decide))).trans (upx_ne ha4 i (fun q => h (by rw [q]; decide)))), fun i h => rfl⟩ hP hS dX9_meets_200
        · skip
          refine lv_iload_n hE.1 hE.2.1 dX9_meets_114 rfl (lv_at hl 0 rfl) ?_
          refine s_if_eq (a := z5) (tgt := 137) hE.1 hE.2.1 (by omega) dX9_meets_115 (by decide) (fun c250 => False.elim (by omega)) (fun _ => ?_)
          refine lv_aload_n hE.1 hE.2.1 dX9_meets_118 rfl (lv_at hl 2 rfl) ?_
          refine x_get (x := .int (v216 0 29)) hE hK hP 0 (by decide) (yG_9 rfl) rfl hin9 29 (by decide) mw_1363 rfl dX9_meets_119 ?_
          refine x_top (y := iI (z217)) ez217 ?_
          refine lv_iconst (v := iI (3)) hE.1 hE.2.1 dX9_meets_122 (by decide) ?_
          refine s_icmp_ne (a := z217) (b := 3) (tgt := 138) hE.1 hE.2.1 (by omega) (by omega) dX9_meets_123 (by decide) (fun c251 => ?_) (fun c251 => ?_)
          · skip
            refine lv_aload_n hE.1 hE.2.1 dX9_meets_138 rfl (lv_at hl 2 rfl) ?_
            refine x_get (x := .int (v216 0 29)) hE hK hP 0 (by decide) (yG_9 rfl) rfl hin9 29 (by decide) mw_1363 rfl dX9_meets_139 ?_
            refine x_top (y := iI (z217)) ez217 ?_
            refine lv_iconst (v := iI (2)) hE.1 hE.2.1 dX9_meets_142 (by decide) ?_
            refine s_icmp_ne (a := z217) (b := 2) (tgt := 153) hE.1 hE.2.1 (by omega) (by omega) dX9_meets_143 (by decide) (fun c252 => ?_) (fun c252 => ?_)
            · skip
              refine lv_aload_n hE.1 hE.2.1 dX9_meets_153 rfl (lv_at hl 2 rfl) ?_
              refine x_get (x := .int (v216 0 29)) hE hK hP 0 (by decide) (yG_9 rfl) rfl hin9 29 (by decide) mw_1363 rfl dX9_meets_154 ?_
              refine x_top (y := iI (z217)) ez217 ?_
              refine lv_iconst (v := iI (3)) hE.1 hE.2.1 dX9_meets_157 (by decide) ?_
              refine s_icmp_ne (a := z217) (b := 3) (tgt := 166) hE.1 hE.2.1 (by omega) (by omega) dX9_meets_158 (by decide) (fun c253 => ?_) (fun c253 => ?_)
              · skip
                refine lv_iload_n hE.1 hE.2.1 dX9_meets_166 rfl (lv_at hl 1 rfl) ?_
                refine lv_istore_n (lv' := [(3, .int (iI (w_1 - w_4))), (2, .int (iI (z5))), (1, .int (iI (w_1 - w_4))), (0, .ref (ad 0))]) hE.1 hE.2.1 dX9_meets_167 rfl hl (by decide) rfl (fun ls hl => ?_)
                refine lv_aload_n hE.1 hE.2.1 dX9_meets_168 rfl (lv_at hl 3 rfl) ?_
                obtain ⟨z254, hz254, ez254⟩ := YI_get hI 0 33 (-1) 9 (by decide)
                refine x_get (x := .int (v216 0 33)) hE hK hP 0 (by decide) (yG_9 rfl) rfl hin9 33 (by decide) mw_1367 rfl dX9_meets_169 ?_
                refine x_top (y := iI (z254)) ez254 ?_
                refine lv_iconst (v := iI (-1)) hE.1 hE.2.1 dX9_meets_172 (by decide) ?_
                refine s_icmp_eq (a := z254) (b := -1) (tgt := 201) hE.1 hE.2.1 (by omega) (by omega) dX9_meets_173 (by decide) (fun c255 => ?_) (fun c255 => ?_)
                · skip
                  refine lv_aload_n hE.1 hE.2.1 dX9_meets_201 rfl (lv_at hl 3 rfl) ?_
                  refine lv_iload_n hE.1 hE.2.1 dX9_meets_202 rfl (lv_at hl 0 rfl) ?_
                  refine x_put (x := iI (w_1 - w_4)) hE hK hN hP hS 0 (by decide) (yG_9 rfl) rfl hin9 tyX9 tyX9_ok nmX9 32 (by decide) mw_1366 rfl rfl rfl (Nat.le_of_ble_eq_true rfl) (yG_9 rfl) dX9_meets_203 (fun v256 H locs hv256 hP hS => ?_)
                  have hI := YI_putN hI hv256 (by decide)
                  refine lv_aload_n hE.1 hE.2.1 dX9_meets_206 rfl (lv_at hl 3 rfl) ?_
                  refine lv_iload_n hE.1 hE.2.1 dX9_meets_207 rfl (lv_at hl 2 rfl) ?_
                  refine x_put (x := iI (w_1 - w_4)) hE hK hN hP hS 0 (by decide) (yG_9 rfl) rfl hin9 tyX9 tyX9_ok nmX9 33 (by decide) mw_1367 rfl rfl rfl (Nat.le_of_ble_eq_true rfl) (yG_9 rfl) dX9_meets_208 (fun v257 H locs hv257 hP hS => ?_)
                  have hI := YI_putB (z := w_1 - w_4) hI hv257 (-1) 9 (by omega) (by decide) (by omega)
                  refine lv_iconst (v := iI (0)) hE.1 hE.2.1 dX9_meets_211 (by decide) ?_
                  refine lv_istore (lv' := [(4, .int (iI (0))), (3, .int (iI (w_1 - w_4))), (2, .int (iI (z5))), (1, .int (iI (w_1 - w_4))), (0, .ref (ad 0))]) hE.1 hE.2.1 dX9_meets_212 hl (by decide) rfl (fun ls hl => ?_)
                  have loop258 : ∀ (k258 : Nat) (y258_4 : Int) (vl258 arl258 : sI) (all258 : sL) (H : Heap) (locs : List Loc) (ls : Array Slot), (9 - y258_4).toNat = k258 → (0 ≤ y258_4 ∧ y258_4 ≤ 9) → YI vl258 arl258 → (∀ i j : Nat, (i, j) ∉ ([] : List (Nat × Nat)) → vl258 i j = v257 i j) → (∀ i : Nat, i ∉ ([15] : List Nat) → arl258 i = ar47 i) → (∀ i : Nat, i ∉ ([] : List Nat) → all258 i = al i) → va_P D xcl (wW ad (yG ad K) 21 vl258 arl258 all258) H → va_S (inW ad 21) s.heap H locs → lv_has ls 5 [(4, .int (iI (y258_4))), (3, .int (iI (w_1 - w_4))), (2, .int (iI (z5))), (1, .int (iI (w_1 - w_4))), (0, .ref (ad 0))] → W p l e (rmD 3) s m args below meth c H locs 0 0 Q (F0 m 214 ls []) := by
                    intro k258
                    induction k258 using Nat.strongRecOn with
                    | _ k258 ih258 =>
                      intro y258_4  vl258 arl258 all258 H locs ls hk258 hb_y258_4 hI hfr258 hfa258 hfl258 hP hS hl
                      refine lv_iload hE.1 hE.2.1 dX9_meets_214 (lv_at hl 0 rfl) ?_
                      refine lv_iload_n hE.1 hE.2.1 dX9_meets_216 rfl (lv_at hl 3 rfl) ?_
                      refine s_icmp_ge (a := y258_4) (b := w_1 - w_4) (tgt := 245) hE.1 hE.2.1 (by omega) (by omega) dX9_meets_217 (by decide) (fun c259 => ?_) (fun c259 => ?_)
                      · skip
                        exact kr vl258 arl258 all258 _ _ _ _ ⟨hI, fun i j h => ((hfr258 i j (fun q => h (mem_sub (by decide) q))).trans ((up_oth hv257 (fun q => h (by rcases q with ⟨rfl, rfl⟩; decide))).trans ((up_oth hv256 (fun q => h (by rcases q with ⟨rfl, rfl⟩; decide))).trans ((up_oth hv216 (fun q => h (by rcases q with ⟨rfl, rfl⟩; decide))).trans ((up_oth hv53 (fun q => h (by rcases q with ⟨rfl, rfl⟩; decide))).trans ((up_oth hv50 (fun q => h (by rcases q with ⟨rfl, rfl⟩; decide))).trans (up_oth hv43 (fun q => h (by rcases q with ⟨rfl, rfl⟩; decide))))))))), fun i h => ((hfa258 i (fun q => h (mem_subn (by decide) q))).trans ((upx_ne ha47 i (fun q => h (by rw [q]; decide))).trans (upx_ne ha4 i (fun q => h (by rw [q]; decide))))), fun i h => (hfl258 i (fun q => h (mem_subn (by decide) q)))⟩ hP hS dX9_meets_245
                      · skip
                        refine lv_aload_n hE.1 hE.2.1 dX9_meets_220 rfl (lv_at hl 4 rfl) ?_
                        refine x_get (x := .ref (ad 15)) hE hK hP 0 (by decide) (yG_9 rfl) rfl hin9 34 (by decide) mw_1368 rfl dX9_meets_221 ?_
                        refine lv_iload hE.1 hE.2.1 dX9_meets_224 (lv_at hl 0 rfl) ?_
                        refine lv_aload_n hE.1 hE.2.1 dX9_meets_226 rfl (lv_at hl 4 rfl) ?_
                        refine x_get (x := .ref (ad 12)) hE hK hP 0 (by decide) (yG_9 rfl) rfl hin9 22 (by decide) mw_1356 rfl dX9_meets_227 ?_
                        refine lv_aload_n hE.1 hE.2.1 dX9_meets_230 rfl (lv_at hl 4 rfl) ?_
                        refine x_get (x := .int (vl258 0 31)) hE hK hP 0 (by decide) (yG_9 rfl) rfl hin9 31 (by decide) mw_1365 rfl dX9_meets_231 ?_
                        refine x_top (y := iI (w_4)) ((hfr258 0 31 (by decide)).trans ((up_oth hv257 (by decide)).trans ((up_oth hv256 (by decide)).trans ((up_oth hv216 (by decide)).trans ((up_oth hv53 (by decide)).trans ((up_oth hv50 (by decide)).trans ((up_oth hv43 (by decide)).trans ew_4))))))) ?_
                        refine lv_iload hE.1 hE.2.1 dX9_meets_234 (lv_at hl 0 rfl) ?_
                        refine lv_iadd hE.1 hE.2.1 dX9_meets_236 ?_
                        refine x_top (y := iI (w_4 + y258_4)) ((iI_add (w_4) (y258_4)).trans (congrArg iI (by omega))) ?_
                        refine x_iald (j := iI (w_4 + y258_4)) hE hK hP 12 (by decide) (yG_10 rfl) (iI_in (n := 60) (by omega)) dX9_meets_237 ?_
                        obtain ⟨z261, hz261, ez261⟩ := YI_a12 hI ((iI (w_4 + y258_4)).toNatClampNeg)
                        refine x_top ez261 ?_
                        refine x_iast (j := iI (y258_4)) hE hK hN hP hS 15 (by decide) (fun _ => yG_10 rfl) (iI_in (n := 9) (by omega)) dX9_meets_238 (fun ar262 H locs ha262 hP hS => ?_)
                        have hI := YI_ast hI ha262 (by decide)
                        refine lv_iinc (v := iI (y258_4 + 1)) (lv' := [(4, .int (iI (y258_4 + 1))), (3, .int (iI (w_1 - w_4))), (2, .int (iI (z5))), (1, .int (iI (w_1 - w_4))), (0, .ref (ad 0))]) hE.1 hE.2.1 dX9_meets_239 hl (k := 0) rfl ((iI_add (y258_4) (1)).trans (congrArg iI (by omega))) (by decide) rfl (fun ls hl => ?_)
                        refine lv_goto (tgt := 214) hE.1 hE.2.1 dX9_meets_242 (by decide) ?_
                        exact ih258 _ (by omega) (y258_4 + 1)  vl258 ar262 all258 _ _ _ rfl (by omega)  hI (fun i j h => (hfr258 i j h)) (fun i h => ((upx_ne ha262 i (fun q => h (by rw [q]; decide))).trans (hfa258 i h))) (fun i h => (hfl258 i h)) hP hS (lv_sub hl [0, 1, 2, 3, 4] rfl)
                  exact loop258 _ (0)  v257 ar47 al _ _ _ rfl (by omega)  hI (fun _ _ _ => rfl) (fun _ _ => rfl) (fun _ _ => rfl) hP hS hl
                · skip
                  refine lv_iload_n hE.1 hE.2.1 dX9_meets_176 rfl (lv_at hl 0 rfl) ?_
                  refine lv_aload_n hE.1 hE.2.1 dX9_meets_177 rfl (lv_at hl 3 rfl) ?_
                  obtain ⟨z263, hz263, ez263⟩ := iI_of (v216 0 32)
                  refine x_get (x := .int (v216 0 32)) hE hK hP 0 (by decide) (yG_9 rfl) rfl hin9 32 (by decide) mw_1366 rfl dX9_meets_178 ?_
                  refine x_top (y := iI (z263)) ez263 ?_
                  refine s_icmp_lt (a := w_1 - w_4) (b := z263) (tgt := 200) hE.1 hE.2.1 (by omega) (by omega) dX9_meets_181 (by decide) (fun c264 => ?_) (fun c264 => ?_)
                  · skip
                    exact kr v216 ar47 al _ _ _ _ ⟨hI, fun i j h => ((up_oth hv216 (fun q => h (by rcases q with ⟨rfl, rfl⟩; decide))).trans ((up_oth hv53 (fun q => h (by rcases q with ⟨rfl, rfl⟩; decide))).trans ((up_oth hv50 (fun q => h (by rcases q with ⟨rfl, rfl⟩; decide))).trans (up_oth hv43 (fun q => h (by rcases q with ⟨rfl, rfl⟩; decide)))))), fun i h => ((upx_ne ha47 i (fun q => h (by rw [q]; decide))).trans (upx_ne ha4 i (fun q => h (by rw [q]; decide)))), fun i h => rfl⟩ hP hS dX9_meets_200
                  · skip
                    refine lv_iload_n hE.1 hE.2.1 dX9_meets_184 rfl (lv_at hl 0 rfl) ?_
                    refine lv_aload_n hE.1 hE.2.1 dX9_meets_185 rfl (lv_at hl 3 rfl) ?_
                    refine x_get (x := .int (v216 0 32)) hE hK hP 0 (by decide) (yG_9 rfl) rfl hin9 32 (by decide) mw_1366 rfl dX9_meets_186 ?_
                    refine x_top (y := iI (z263)) ez263 ?_
                    refine s_icmp_ne (a := w_1 - w_4) (b := z263) (tgt := 201) hE.1 hE.2.1 (by omega) (by omega) dX9_meets_189 (by decide) (fun c265 => ?_) (fun c265 => ?_)
                    · skip
                      refine lv_aload_n hE.1 hE.2.1 dX9_meets_201 rfl (lv_at hl 3 rfl) ?_
                      refine lv_iload_n hE.1 hE.2.1 dX9_meets_202 rfl (lv_at hl 0 rfl) ?_
                      refine x_put (x := iI (w_1 - w_4)) hE hK hN hP hS 0 (by decide) (yG_9 rfl) rfl hin9 tyX9 tyX9_ok nmX9 32 (by decide) mw_1366 rfl rfl rfl (Nat.le_of_ble_eq_true rfl) (yG_9 rfl) dX9_meets_203 (fun v266 H locs hv266 hP hS => ?_)
                      have hI := YI_putN hI hv266 (by decide)
                      refine lv_aload_n hE.1 hE.2.1 dX9_meets_206 rfl (lv_at hl 3 rfl) ?_
                      refine lv_iload_n hE.1 hE.2.1 dX9_meets_207 rfl (lv_at hl 2 rfl) ?_
                      refine x_put (x := iI (w_1 - w_4)) hE hK hN hP hS 0 (by decide) (yG_9 rfl) rfl hin9 tyX9 tyX9_ok nmX9 33 (by decide) mw_1367 rfl rfl rfl (Nat.le_of_ble_eq_true rfl) (yG_9 rfl) dX9_meets_208 (fun v267 H locs hv267 hP hS => ?_)
                      have hI := YI_putB (z := w_1 - w_4) hI hv267 (-1) 9 (by omega) (by decide) (by omega)
                      refine lv_iconst (v := iI (0)) hE.1 hE.2.1 dX9_meets_211 (by decide) ?_
                      refine lv_istore (lv' := [(4, .int (iI (0))), (3, .int (iI (w_1 - w_4))), (2, .int (iI (z5))), (1, .int (iI (w_1 - w_4))), (0, .ref (ad 0))]) hE.1 hE.2.1 dX9_meets_212 hl (by decide) rfl (fun ls hl => ?_)
                      have loop268 : ∀ (k268 : Nat) (y268_4 : Int) (vl268 arl268 : sI) (all268 : sL) (H : Heap) (locs : List Loc) (ls : Array Slot), (9 - y268_4).toNat = k268 → (0 ≤ y268_4 ∧ y268_4 ≤ 9) → YI vl268 arl268 → (∀ i j : Nat, (i, j) ∉ ([] : List (Nat × Nat)) → vl268 i j = v267 i j) → (∀ i : Nat, i ∉ ([15] : List Nat) → arl268 i = ar47 i) → (∀ i : Nat, i ∉ ([] : List Nat) → all268 i = al i) → va_P D xcl (wW ad (yG ad K) 21 vl268 arl268 all268) H → va_S (inW ad 21) s.heap H locs → lv_has ls 5 [(4, .int (iI (y268_4))), (3, .int (iI (w_1 - w_4))), (2, .int (iI (z5))), (1, .int (iI (w_1 - w_4))), (0, .ref (ad 0))] → W p l e (rmD 3) s m args below meth c H locs 0 0 Q (F0 m 214 ls []) := by
                        intro k268
                        induction k268 using Nat.strongRecOn with
                        | _ k268 ih268 =>
                          intro y268_4  vl268 arl268 all268 H locs ls hk268 hb_y268_4 hI hfr268 hfa268 hfl268 hP hS hl
                          refine lv_iload hE.1 hE.2.1 dX9_meets_214 (lv_at hl 0 rfl) ?_
                          refine lv_iload_n hE.1 hE.2.1 dX9_meets_216 rfl (lv_at hl 3 rfl) ?_
                          refine s_icmp_ge (a := y268_4) (b := w_1 - w_4) (tgt := 245) hE.1 hE.2.1 (by omega) (by omega) dX9_meets_217 (by decide) (fun c269 => ?_) (fun c269 => ?_)
                          · skip
                            exact kr vl268 arl268 all268 _ _ _ _ ⟨hI, fun i j h => ((hfr268 i j (fun q => h (mem_sub (by decide) q))).trans ((up_oth hv267 (fun q => h (by rcases q with ⟨rfl, rfl⟩; decide))).trans ((up_oth hv266 (fun q => h (by rcases q with ⟨rfl, rfl⟩; decide))).trans ((up_oth hv216 (fun q => h (by rcases q with ⟨rfl, rfl⟩; decide))).trans ((up_oth hv53 (fun q => h (by rcases q with ⟨rfl, rfl⟩; decide))).trans ((up_oth hv50 (fun q => h (by rcases q with ⟨rfl, rfl⟩; decide))).trans (up_oth hv43 (fun q => h (by rcases q with ⟨rfl, rfl⟩; decide))))))))), fun i h => ((hfa268 i (fun q => h (mem_subn (by decide) q))).trans ((upx_ne ha47 i (fun q => h (by rw [q]; decide))).trans (upx_ne ha4 i (fun q => h (by rw [q]; decide))))), fun i h => (hfl268 i (fun q => h (mem_subn (by decide) q)))⟩ hP hS dX9_meets_245
                          · skip
                            refine lv_aload_n hE.1 hE.2.1 dX9_meets_220 rfl (lv_at hl 4 rfl) ?_
                            refine x_get (x := .ref (ad 15)) hE hK hP 0 (by decide) (yG_9 rfl) rfl hin9 34 (by decide) mw_1368 rfl dX9_meets_221 ?_
                            refine lv_iload hE.1 hE.2.1 dX9_meets_224 (lv_at hl 0 rfl) ?_
                            refine lv_aload_n hE.1 hE.2.1 dX9_meets_226 rfl (lv_at hl 4 rfl) ?_
                            refine x_get (x := .ref (ad 12)) hE hK hP 0 (by decide) (yG_9 rfl) rfl hin9 22 (by decide) mw_1356 rfl dX9_meets_227 ?_
                            refine lv_aload_n hE.1 hE.2.1 dX9_meets_230 rfl (lv_at hl 4 rfl) ?_
                            refine x_get (x := .int (vl268 0 31)) hE hK hP 0 (by decide) (yG_9 rfl) rfl hin9 31 (by decide) mw_1365 rfl dX9_meets_231 ?_
                            refine x_top (y := iI (w_4)) ((hfr268 0 31 (by decide)).trans ((up_oth hv267 (by decide)).trans ((up_oth hv266 (by decide)).trans ((up_oth hv216 (by decide)).trans ((up_oth hv53 (by decide)).trans ((up_oth hv50 (by decide)).trans ((up_oth hv43 (by decide)).trans ew_4))))))) ?_
                            refine lv_iload hE.1 hE.2.1 dX9_meets_234 (lv_at hl 0 rfl) ?_
                            refine lv_iadd hE.1 hE.2.1 dX9_meets_236 ?_
                            refine x_top (y := iI (w_4 + y268_4)) ((iI_add (w_4) (y268_4)).trans (congrArg iI (by omega))) ?_
                            refine x_iald (j := iI (w_4 + y268_4)) hE hK hP 12 (by decide) (yG_10 rfl) (iI_in (n := 60) (by omega)) dX9_meets_237 ?_
                            obtain ⟨z271, hz271, ez271⟩ := YI_a12 hI ((iI (w_4 + y268_4)).toNatClampNeg)
                            refine x_top ez271 ?_
                            refine x_iast (j := iI (y268_4)) hE hK hN hP hS 15 (by decide) (fun _ => yG_10 rfl) (iI_in (n := 9) (by omega)) dX9_meets_238 (fun ar272 H locs ha272 hP hS => ?_)
                            have hI := YI_ast hI ha272 (by decide)
                            refine lv_iinc (v := iI (y268_4 + 1)) (lv' := [(4, .int (iI (y268_4 + 1))), (3, .int (iI (w_1 - w_4))), (2, .int (iI (z5))), (1, .int (iI (w_1 - w_4))), (0, .ref (ad 0))]) hE.1 hE.2.1 dX9_meets_239 hl (k := 0) rfl ((iI_add (y268_4) (1)).trans (congrArg iI (by omega))) (by decide) rfl (fun ls hl => ?_)
                            refine lv_goto (tgt := 214) hE.1 hE.2.1 dX9_meets_242 (by decide) ?_
                            exact ih268 _ (by omega) (y268_4 + 1)  vl268 ar272 all268 _ _ _ rfl (by omega)  hI (fun i j h => (hfr268 i j h)) (fun i h => ((upx_ne ha272 i (fun q => h (by rw [q]; decide))).trans (hfa268 i h))) (fun i h => (hfl268 i h)) hP hS (lv_sub hl [0, 1, 2, 3, 4] rfl)
                      exact loop268 _ (0)  v267 ar47 al _ _ _ rfl (by omega)  hI (fun _ _ _ => rfl) (fun _ _ => rfl) (fun _ _ => rfl) hP hS hl
                    · skip
                      refine lv_aload_n hE.1 hE.2.1 dX9_meets_192 rfl (lv_at hl 3 rfl) ?_
                      refine lv_iload_n hE.1 hE.2.1 dX9_meets_193 rfl (lv_at hl 2 rfl) ?_
                      refine x_vp (nn := 1) (As := [.int (iI (w_1 - w_4))]) (rest := []) hE (s_X9_isAhead_e l D K ad v216 ar47 al hI  (w_1 - w_4) (by omega)) wPre_blind (wPre_now hK hN hP) (x_recv hK hP 0 (by decide) (yG_9 rfl) rfl) rfl mw_1818 mw_1820 mw_90 mw_123 mw_1821 (by decide +kernel) ⟨by decide, by decide⟩ hl.1 rfl (Nat.le_of_ble_eq_true rfl) ⟨Nat.zero_le _, Nat.zero_le _⟩ dX9_meets_194 (fun r273 hr273 => ?_)
                      obtain ⟨z273, hz273, rfl⟩ := hr273
                      refine s_if_ne (a := z273) (tgt := 201) hE.1 hE.2.1 (by omega) dX9_meets_197 (by decide) (fun c274 => ?_) (fun c274 => ?_)
                      · skip
                        refine lv_aload_n hE.1 hE.2.1 dX9_meets_201 rfl (lv_at hl 3 rfl) ?_
                        refine lv_iload_n hE.1 hE.2.1 dX9_meets_202 rfl (lv_at hl 0 rfl) ?_
                        refine x_put (x := iI (w_1 - w_4)) hE hK hN hP hS 0 (by decide) (yG_9 rfl) rfl hin9 tyX9 tyX9_ok nmX9 32 (by decide) mw_1366 rfl rfl rfl (Nat.le_of_ble_eq_true rfl) (yG_9 rfl) dX9_meets_203 (fun v275 H locs hv275 hP hS => ?_)
                        have hI := YI_putN hI hv275 (by decide)
                        refine lv_aload_n hE.1 hE.2.1 dX9_meets_206 rfl (lv_at hl 3 rfl) ?_
                        refine lv_iload_n hE.1 hE.2.1 dX9_meets_207 rfl (lv_at hl 2 rfl) ?_
                        refine x_put (x := iI (w_1 - w_4)) hE hK hN hP hS 0 (by decide) (yG_9 rfl) rfl hin9 tyX9 tyX9_ok nmX9 33 (by decide) mw_1367 rfl rfl rfl (Nat.le_of_ble_eq_true rfl) (yG_9 rfl) dX9_meets_208 (fun v276 H locs hv276 hP hS => ?_)
                        have hI := YI_putB (z := w_1 - w_4) hI hv276 (-1) 9 (by omega) (by decide) (by omega)
                        refine lv_iconst (v := iI (0)) hE.1 hE.2.1 dX9_meets_211 (by decide) ?_
                        refine lv_istore (lv' := [(4, .int (iI (0))), (3, .int (iI (w_1 - w_4))), (2, .int (iI (z5))), (1, .int (iI (w_1 - w_4))), (0, .ref (ad 0))]) hE.1 hE.2.1 dX9_meets_212 hl (by decide) rfl (fun ls hl => ?_)
                        have loop277 : ∀ (k277 : Nat) (y277_4 : Int) (vl277 arl277 : sI) (all277 : sL) (H : Heap) (locs : List Loc) (ls : Array Slot), (9 - y277_4).toNat = k277 → (0 ≤ y277_4 ∧ y277_4 ≤ 9) → YI vl277 arl277 → (∀ i j : Nat, (i, j) ∉ ([] : List (Nat × Nat)) → vl277 i j = v276 i j) → (∀ i : Nat, i ∉ ([15] : List Nat) → arl277 i = ar47 i) → (∀ i : Nat, i ∉ ([] : List Nat) → all277 i = al i) → va_P D xcl (wW ad (yG ad K) 21 vl277 arl277 all277) H → va_S (inW ad 21) s.heap H locs → lv_has ls 5 [(4, .int (iI (y277_4))), (3, .int (iI (w_1 - w_4))), (2, .int (iI (z5))), (1, .int (iI (w_1 - w_4))), (0, .ref (ad 0))] → W p l e (rmD 3) s m args below meth c H locs 0 0 Q (F0 m 214 ls []) := by
                          intro k277
                          induction k277 using Nat.strongRecOn with
                          | _ k277 ih277 =>
                            intro y277_4  vl277 arl277 all277 H locs ls hk277 hb_y277_4 hI hfr277 hfa277 hfl277 hP hS hl
                            refine lv_iload hE.1 hE.2.1 dX9_meets_214 (lv_at hl 0 rfl) ?_
                            refine lv_iload_n hE.1 hE.2.1 dX9_meets_216 rfl (lv_at hl 3 rfl) ?_
                            refine s_icmp_ge (a := y277_4) (b := w_1 - w_4) (tgt := 245) hE.1 hE.2.1 (by omega) (by omega) dX9_meets_217 (by decide) (fun c278 => ?_) (fun c278 => ?_)
                            · skip
                              exact kr vl277 arl277 all277 _ _ _ _ ⟨hI, fun i j h => ((hfr277 i j (fun q => h (mem_sub (by decide) q))).trans ((up_oth hv276 (fun q => h (by rcases q with ⟨rfl, rfl⟩; decide))).trans ((up_oth hv275 (fun q => h (by rcases q with ⟨rfl, rfl⟩; decide))).trans ((up_oth hv216 (fun q => h (by rcases q with ⟨rfl, rfl⟩; decide))).trans ((up_oth hv53 (fun q => h (by rcases q with ⟨rfl, rfl⟩; decide))).trans ((up_oth hv50 (fun q => h (by rcases q with ⟨rfl, rfl⟩; decide))).trans (up_oth hv43 (fun q => h (by rcases q with ⟨rfl, rfl⟩; decide))))))))), fun i h => ((hfa277 i (fun q => h (mem_subn (by decide) q))).trans ((upx_ne ha47 i (fun q => h (by rw [q]; decide))).trans (upx_ne ha4 i (fun q => h (by rw [q]; decide))))), fun i h => (hfl277 i (fun q => h (mem_subn (by decide) q)))⟩ hP hS dX9_meets_245
                            · skip
                              refine lv_aload_n hE.1 hE.2.1 dX9_meets_220 rfl (lv_at hl 4 rfl) ?_
                              refine x_get (x := .ref (ad 15)) hE hK hP 0 (by decide) (yG_9 rfl) rfl hin9 34 (by decide) mw_1368 rfl dX9_meets_221 ?_
                              refine lv_iload hE.1 hE.2.1 dX9_meets_224 (lv_at hl 0 rfl) ?_
                              refine lv_aload_n hE.1 hE.2.1 dX9_meets_226 rfl (lv_at hl 4 rfl) ?_
                              refine x_get (x := .ref (ad 12)) hE hK hP 0 (by decide) (yG_9 rfl) rfl hin9 22 (by decide) mw_1356 rfl dX9_meets_227 ?_
                              refine lv_aload_n hE.1 hE.2.1 dX9_meets_230 rfl (lv_at hl 4 rfl) ?_
                              refine x_get (x := .int (vl277 0 31)) hE hK hP 0 (by decide) (yG_9 rfl) rfl hin9 31 (by decide) mw_1365 rfl dX9_meets_231 ?_
                              refine x_top (y := iI (w_4)) ((hfr277 0 31 (by decide)).trans ((up_oth hv276 (by decide)).trans ((up_oth hv275 (by decide)).trans ((up_oth hv216 (by decide)).trans ((up_oth hv53 (by decide)).trans ((up_oth hv50 (by decide)).trans ((up_oth hv43 (by decide)).trans ew_4))))))) ?_
                              refine lv_iload hE.1 hE.2.1 dX9_meets_234 (lv_at hl 0 rfl) ?_
                              refine lv_iadd hE.1 hE.2.1 dX9_meets_236 ?_
                              refine x_top (y := iI (w_4 + y277_4)) ((iI_add (w_4) (y277_4)).trans (congrArg iI (by omega))) ?_
                              refine x_iald (j := iI (w_4 + y277_4)) hE hK hP 12 (by decide) (yG_10 rfl) (iI_in (n := 60) (by omega)) dX9_meets_237 ?_
                              obtain ⟨z280, hz280, ez280⟩ := YI_a12 hI ((iI (w_4 + y277_4)).toNatClampNeg)
                              refine x_top ez280 ?_
                              refine x_iast (j := iI (y277_4)) hE hK hN hP hS 15 (by decide) (fun _ => yG_10 rfl) (iI_in (n := 9) (by omega)) dX9_meets_238 (fun ar281 H locs ha281 hP hS => ?_)
                              have hI := YI_ast hI ha281 (by decide)
                              refine lv_iinc (v := iI (y277_4 + 1)) (lv' := [(4, .int (iI (y277_4 + 1))), (3, .int (iI (w_1 - w_4))), (2, .int (iI (z5))), (1, .int (iI (w_1 - w_4))), (0, .ref (ad 0))]) hE.1 hE.2.1 dX9_meets_239 hl (k := 0) rfl ((iI_add (y277_4) (1)).trans (congrArg iI (by omega))) (by decide) rfl (fun ls hl => ?_)
                              refine lv_goto (tgt := 214) hE.1 hE.2.1 dX9_meets_242 (by decide) ?_
                              exact ih277 _ (by omega) (y277_4 + 1)  vl277 ar281 all277 _ _ _ rfl (by omega)  hI (fun i j h => (hfr277 i j h)) (fun i h => ((upx_ne ha281 i (fun q => h (by rw [q]; decide))).trans (hfa277 i h))) (fun i h => (hfl277 i h)) hP hS (lv_sub hl [0, 1, 2, 3, 4] rfl)
                        exact loop277 _ (0)  v276 ar47 al _ _ _ rfl (by omega)  hI (fun _ _ _ => rfl) (fun _ _ => rfl) (fun _ _ => rfl) hP hS hl
                      · skip
                        exact kr v216 ar47 al _ _ _ _ ⟨hI, fun i j h => ((up_oth hv216 (fun q => h (by rcases q with ⟨rfl, rfl⟩; decide))).trans ((up_oth hv53 (fun q => h (by rcases q with ⟨rfl, rfl⟩; decide))).trans ((up_oth hv50 (fun q => h (by rcases q with ⟨rfl, rfl⟩; decide))).trans (up_oth hv43 (fun q => h (by rcases q with ⟨rfl, rfl⟩; decide)))))), fun i h => ((upx_ne ha47 i (fun q => h (by rw [q]; decide))).trans (upx_ne ha4 i (fun q => h (by rw [q]; decide)))), fun i h => rfl⟩ hP hS dX9_meets_200
              · skip
                refine lv_iload_n hE.1 hE.2.1 dX9_meets_161 rfl (lv_at hl 1 rfl) ?_
                refine lv_ineg hE.1 hE.2.1 dX9_meets_162 ?_
                obtain ⟨z282, hz282, ez282⟩ := iI_of (-iI (w_1 - w_4))
                refine x_top ez282 ?_
                refine lv_goto (tgt := 167) hE.1 hE.2.1 dX9_meets_163 (by decide) ?_
                refine lv_istore_n (lv' := [(3, .int (iI (z282))), (2, .int (iI (z5))), (1, .int (iI (w_1 - w_4))), (0, .ref (ad 0))]) hE.1 hE.2.1 dX9_meets_167 rfl hl (by decide) rfl (fun ls hl => ?_)
                refine lv_aload_n hE.1 hE.2.1 dX9_meets_168 rfl (lv_at hl 3 rfl) ?_
                obtain ⟨z283, hz283, ez283⟩ := YI_get hI 0 33 (-1) 9 (by decide)
                refine x_get (x := .int (v216 0 33)) hE hK hP 0 (by decide) (yG_9 rfl) rfl hin9 33 (by decide) mw_1367 rfl dX9_meets_169 ?_
                refine x_top (y := iI (z283)) ez283 ?_
                refine lv_iconst (v := iI (-1)) hE.1 hE.2.1 dX9_meets_172 (by decide) ?_
                refine s_icmp_eq (a := z283) (b := -1) (tgt := 201) hE.1 hE.2.1 (by omega) (by omega) dX9_meets_173 (by decide) (fun c284 => ?_) (fun c284 => ?_)
                · skip
                  refine lv_aload_n hE.1 hE.2.1 dX9_meets_201 rfl (lv_at hl 3 rfl) ?_
                  refine lv_iload_n hE.1 hE.2.1 dX9_meets_202 rfl (lv_at hl 0 rfl) ?_
                  refine x_put (x := iI (z282)) hE hK hN hP hS 0 (by decide) (yG_9 rfl) rfl hin9 tyX9 tyX9_ok nmX9 32 (by decide) mw_1366 rfl rfl rfl (Nat.le_of_ble_eq_true rfl) (yG_9 rfl) dX9_meets_203 (fun v285 H locs hv285 hP hS => ?_)
                  have hI := YI_putN hI hv285 (by decide)
                  refine lv_aload_n hE.1 hE.2.1 dX9_meets_206 rfl (lv_at hl 3 rfl) ?_
                  refine lv_iload_n hE.1 hE.2.1 dX9_meets_207 rfl (lv_at hl 2 rfl) ?_
                  refine x_put (x := iI (w_1 - w_4)) hE hK hN hP hS 0 (by decide) (yG_9 rfl) rfl hin9 tyX9 tyX9_ok nmX9 33 (by decide) mw_1367 rfl rfl rfl (Nat.le_of_ble_eq_true rfl) (yG_9 rfl) dX9_meets_208 (fun v286 H locs hv286 hP hS => ?_)
                  have hI := YI_putB (z := w_1 - w_4) hI hv286 (-1) 9 (by omega) (by decide) (by omega)
                  refine lv_iconst (v := iI (0)) hE.1 hE.2.1 dX9_meets_211 (by decide) ?_
                  refine lv_istore (lv' := [(4, .int (iI (0))), (3, .int (iI (z282))), (2, .int (iI (z5))), (1, .int (iI (w_1 - w_4))), (0, .ref (ad 0))]) hE.1 hE.2.1 dX9_meets_212 hl (by decide) rfl (fun ls hl => ?_)
                  have loop287 : ∀ (k287 : Nat) (y287_4 : Int) (vl287 arl287 : sI) (all287 : sL) (H : Heap) (locs : List Loc) (ls : Array Slot), (9 - y287_4).toNat = k287 → (0 ≤ y287_4 ∧ y287_4 ≤ 9) → YI vl287 arl287 → (∀ i j : Nat, (i, j) ∉ ([] : List (Nat × Nat)) → vl287 i j = v286 i j) → (∀ i : Nat, i ∉ ([15] : List Nat) → arl287 i = ar47 i) → (∀ i : Nat, i ∉ ([] : List Nat) → all287 i = al i) → va_P D xcl (wW ad (yG ad K) 21 vl287 arl287 all287) H → va_S (inW ad 21) s.heap H locs → lv_has ls 5 [(4, .int (iI (y287_4))), (3, .int (iI (z282))), (2, .int (iI (z5))), (1, .int (iI (w_1 - w_4))), (0, .ref (ad 0))] → W p l e (rmD 3) s m args below meth c H locs 0 0 Q (F0 m 214 ls []) := by
                    intro k287
                    induction k287 using Nat.strongRecOn with
                    | _ k287 ih287 =>
                      intro y287_4  vl287 arl287 all287 H locs ls hk287 hb_y287_4 hI hfr287 hfa287 hfl287 hP hS hl
                      refine lv_iload hE.1 hE.2.1 dX9_meets_214 (lv_at hl 0 rfl) ?_
                      refine lv_iload_n hE.1 hE.2.1 dX9_meets_216 rfl (lv_at hl 3 rfl) ?_
                      refine s_icmp_ge (a := y287_4) (b := w_1 - w_4) (tgt := 245) hE.1 hE.2.1 (by omega) (by omega) dX9_meets_217 (by decide) (fun c288 => ?_) (fun c288 => ?_)
                      · skip
                        exact kr vl287 arl287 all287 _ _ _ _ ⟨hI, fun i j h => ((hfr287 i j (fun q => h (mem_sub (by decide) q))).trans ((up_oth hv286 (fun q => h (by rcases q with ⟨rfl, rfl⟩; decide))).trans ((up_oth hv285 (fun q => h (by rcases q with ⟨rfl, rfl⟩; decide))).trans ((up_oth hv216 (fun q => h (by rcases q with ⟨rfl, rfl⟩; decide))).trans ((up_oth hv53 (fun q => h (by rcases q with ⟨rfl, rfl⟩; decide))).trans ((up_oth hv50 (fun q => h (by rcases q with ⟨rfl, rfl⟩; decide))).trans (up_oth hv43 (fun q => h (by rcases q with ⟨rfl, rfl⟩; decide))))))))), fun i h => ((hfa287 i (fun q => h (mem_subn (by decide) q))).trans ((upx_ne ha47 i (fun q => h (by rw [q]; decide))).trans (upx_ne ha4 i (fun q => h (by rw [q]; decide))))), fun i h => (hfl287 i (fun q => h (mem_subn (by decide) q)))⟩ hP hS dX9_meets_245
                      · skip
                        refine lv_aload_n hE.1 hE.2.1 dX9_meets_220 rfl (lv_at hl 4 rfl) ?_
                        refine x_get (x := .ref (ad 15)) hE hK hP 0 (by decide) (yG_9 rfl) rfl hin9 34 (by decide) mw_1368 rfl dX9_meets_221 ?_
                        refine lv_iload hE.1 hE.2.1 dX9_meets_224 (lv_at hl 0 rfl) ?_
                        refine lv_aload_n hE.1 hE.2.1 dX9_meets_226 rfl (lv_at hl 4 rfl) ?_
                        refine x_get (x := .ref (ad 12)) hE hK hP 0 (by decide) (yG_9 rfl) rfl hin9 22 (by decide) mw_1356 rfl dX9_meets_227 ?_
                        refine lv_aload_n hE.1 hE.2.1 dX9_meets_230 rfl (lv_at hl 4 rfl) ?_
                        refine x_get (x := .int (vl287 0 31)) hE hK hP 0 (by decide) (yG_9 rfl) rfl hin9 31 (by decide) mw_1365 rfl dX9_meets_231 ?_
                        refine x_top (y := iI (w_4)) ((hfr287 0 31 (by decide)).trans ((up_oth hv286 (by decide)).trans ((up_oth hv285 (by decide)).trans ((up_oth hv216 (by decide)).trans ((up_oth hv53 (by decide)).trans ((up_oth hv50 (by decide)).trans ((up_oth hv43 (by decide)).trans ew_4))))))) ?_
                        refine lv_iload hE.1 hE.2.1 dX9_meets_234 (lv_at hl 0 rfl) ?_
                        refine lv_iadd hE.1 hE.2.1 dX9_meets_236 ?_
                        refine x_top (y := iI (w_4 + y287_4)) ((iI_add (w_4) (y287_4)).trans (congrArg iI (by omega))) ?_
                        refine x_iald (j := iI (w_4 + y287_4)) hE hK hP 12 (by decide) (yG_10 rfl) (iI_in (n := 60) (by omega)) dX9_meets_237 ?_
                        obtain ⟨z290, hz290, ez290⟩ := YI_a12 hI ((iI (w_4 + y287_4)).toNatClampNeg)
                        refine x_top ez290 ?_
                        refine x_iast (j := iI (y287_4)) hE hK hN hP hS 15 (by decide) (fun _ => yG_10 rfl) (iI_in (n := 9) (by omega)) dX9_meets_238 (fun ar291 H locs ha291 hP hS => ?_)
                        have hI := YI_ast hI ha291 (by decide)
                        refine lv_iinc (v := iI (y287_4 + 1)) (lv' := [(4, .int (iI (y287_4 + 1))), (3, .int (iI (z282))), (2, .int (iI (z5))), (1, .int (iI (w_1 - w_4))), (0, .ref (ad 0))]) hE.1 hE.2.1 dX9_meets_239 hl (k := 0) rfl ((iI_add (y287_4) (1)).trans (congrArg iI (by omega))) (by decide) rfl (fun ls hl => ?_)
                        refine lv_goto (tgt := 214) hE.1 hE.2.1 dX9_meets_242 (by decide) ?_
                        exact ih287 _ (by omega) (y287_4 + 1)  vl287 ar291 all287 _ _ _ rfl (by omega)  hI (fun i j h => (hfr287 i j h)) (fun i h => ((upx_ne ha291 i (fun q => h (by rw [q]; decide))).trans (hfa287 i h))) (fun i h => (hfl287 i h)) hP hS (lv_sub hl [0, 1, 2, 3, 4] rfl)
                  exact loop287 _ (0)  v286 ar47 al _ _ _ rfl (by omega)  hI (fun _ _ _ => rfl) (fun _ _ => rfl) (fun _ _ => rfl) hP hS hl
                · skip
                  refine lv_iload_n hE.1 hE.2.1 dX9_meets_176 rfl (lv_at hl 0 rfl) ?_
                  refine lv_aload_n hE.1 hE.2.1 dX9_meets_177 rfl (lv_at hl 3 rfl) ?_
                  obtain ⟨z292, hz292, ez292⟩ := iI_of (v216 0 32)
                  refine x_get (x := .int (v216 0 32)) hE hK hP 0 (by decide) (yG_9 rfl) rfl hin9 32 (by decide) mw_1366 rfl dX9_meets_178 ?_
                  refine x_top (y := iI (z292)) ez292 ?_
                  refine s_icmp_lt (a := z282) (b := z292) (tgt := 200) hE.1 hE.2.1 (by omega) (by omega) dX9_meets_181 (by decide) (fun c293 => ?_) (fun c293 => ?_)
                  · skip
                    exact kr v216 ar47 al _ _ _ _ ⟨hI, fun i j h => ((up_oth hv216 (fun q => h (by rcases q with ⟨rfl, rfl⟩; decide))).trans ((up_oth hv53 (fun q => h (by rcases q with ⟨rfl, rfl⟩; decide))).trans ((up_oth hv50 (fun q => h (by rcases q with ⟨rfl, rfl⟩; decide))).trans (up_oth hv43 (fun q => h (by rcases q with ⟨rfl, rfl⟩; decide)))))), fun i h => ((upx_ne ha47 i (fun q => h (by rw [q]; decide))).trans (upx_ne ha4 i (fun q => h (by rw [q]; decide)))), fun i h => rfl⟩ hP hS dX9_meets_200
                  · skip
                    refine lv_iload_n hE.1 hE.2.1 dX9_meets_184 rfl (lv_at hl 0 rfl) ?_
                    refine lv_aload_n hE.1 hE.2.1 dX9_meets_185 rfl (lv_at hl 3 rfl) ?_
                    refine x_get (x := .int (v216 0 32)) hE hK hP 0 (by decide) (yG_9 rfl) rfl hin9 32 (by decide) mw_1366 rfl dX9_meets_186 ?_
                    refine x_top (y := iI (z292)) ez292 ?_
                    refine s_icmp_ne (a := z282) (b := z292) (tgt := 201) hE.1 hE.2.1 (by omega) (by omega) dX9_meets_189 (by decide) (fun c294 => ?_) (fun c294 => ?_)
                    · skip
                      refine lv_aload_n hE.1 hE.2.1 dX9_meets_201 rfl (lv_at hl 3 rfl) ?_
                      refine lv_iload_n hE.1 hE.2.1 dX9_meets_202 rfl (lv_at hl 0 rfl) ?_
                      refine x_put (x := iI (z282)) hE hK hN hP hS 0 (by decide) (yG_9 rfl) rfl hin9 tyX9 tyX9_ok nmX9 32 (by decide) mw_1366 rfl rfl rfl (Nat.le_of_ble_eq_true rfl) (yG_9 rfl) dX9_meets_203 (fun v295 H locs hv295 hP hS => ?_)
                      have hI := YI_putN hI hv295 (by decide)
                      refine lv_aload_n hE.1 hE.2.1 dX9_meets_206 rfl (lv_at hl 3 rfl) ?_
                      refine lv_iload_n hE.1 hE.2.1 dX9_meets_207 rfl (lv_at hl 2 rfl) ?_
                      refine x_put (x := iI (w_1 - w_4)) hE hK hN hP hS 0 (by decide) (yG_9 rfl) rfl hin9 tyX9 tyX9_ok nmX9 33 (by decide) mw_1367 rfl rfl rfl (Nat.le_of_ble_eq_true rfl) (yG_9 rfl) dX9_meets_208 (fun v296 H locs hv296 hP hS => ?_)
                      have hI := YI_putB (z := w_1 - w_4) hI hv296 (-1) 9 (by omega) (by decide) (by omega)
                      refine lv_iconst (v := iI (0)) hE.1 hE.2.1 dX9_meets_211 (by decide) ?_
                      refine lv_istore (lv' := [(4, .int (iI (0))), (3, .int (iI (z282))), (2, .int (iI (z5))), (1, .int (iI (w_1 - w_4))), (0, .ref (ad 0))]) hE.1 hE.2.1 dX9_meets_212 hl (by decide) rfl (fun ls hl => ?_)
                      have loop297 : ∀ (k297 : Nat) (y297_4 : Int) (vl297 arl297 : sI) (all297 : sL) (H : Heap) (locs : List Loc) (ls : Array Slot), (9 - y297_4).toNat = k297 → (0 ≤ y297_4 ∧ y297_4 ≤ 9) → YI vl297 arl297 → (∀ i j : Nat, (i, j) ∉ ([] : List (Nat × Nat)) → vl297 i j = v296 i j) → (∀ i : Nat, i ∉ ([15] : List Nat) → arl297 i = ar47 i) → (∀ i : Nat, i ∉ ([] : List Nat) → all297 i = al i) → va_P D xcl (wW ad (yG ad K) 21 vl297 arl297 all297) H → va_S (inW ad 21) s.heap H locs → lv_has ls 5 [(4, .int (iI (y297_4))), (3, .int (iI (z282))), (2, .int (iI (z5))), (1, .int (iI (w_1 - w_4))), (0, .ref (ad 0))] → W p l e (rmD 3) s m args below meth c H locs 0 0 Q (F0 m 214 ls []) := by
                        intro k297
                        induction k297 using Nat.strongRecOn with
                        | _ k297 ih297 =>
                          intro y297_4  vl297 arl297 all297 H locs ls hk297 hb_y297_4 hI hfr297 hfa297 hfl297 hP hS hl
                          refine lv_iload hE.1 hE.2.1 dX9_meets_214 (lv_at hl 0 rfl) ?_
                          refine lv_iload_n hE.1 hE.2.1 dX9_meets_216 rfl (lv_at hl 3 rfl) ?_
                          refine s_icmp_ge (a := y297_4) (b := w_1 - w_4) (tgt := 245) hE.1 hE.2.1 (by omega) (by omega) dX9_meets_217 (by decide) (fun c298 => ?_) (fun c298 => ?_)
                          · skip
                            exact kr vl297 arl297 all297 _ _ _ _ ⟨hI, fun i j h => ((hfr297 i j (fun q => h (mem_sub (by decide) q))).trans ((up_oth hv296 (fun q => h (by rcases q with ⟨rfl, rfl⟩; decide))).trans ((up_oth hv295 (fun q => h (by rcases q with ⟨rfl, rfl⟩; decide))).trans ((up_oth hv216 (fun q => h (by rcases q with ⟨rfl, rfl⟩; decide))).trans ((up_oth hv53 (fun q => h (by rcases q with ⟨rfl, rfl⟩; decide))).trans ((up_oth hv50 (fun q => h (by rcases q with ⟨rfl, rfl⟩; decide))).trans (up_oth hv43 (fun q => h (by rcases q with ⟨rfl, rfl⟩; decide))))))))), fun i h => ((hfa297 i (fun q => h (mem_subn (by decide) q))).trans ((upx_ne ha47 i (fun q => h (by rw [q]; decide))).trans (upx_ne ha4 i (fun q => h (by rw [q]; decide))))), fun i h => (hfl297 i (fun q => h (mem_subn (by decide) q)))⟩ hP hS dX9_meets_245
                          · skip
                            refine lv_aload_n hE.1 hE.2.1 dX9_meets_220 rfl (lv_at hl 4 rfl) ?_
                            refine x_get (x := .ref (ad 15)) hE hK hP 0 (by decide) (yG_9 rfl) rfl hin9 34 (by decide) mw_1368 rfl dX9_meets_221 ?_
                            refine lv_iload hE.1 hE.2.1 dX9_meets_224 (lv_at hl 0 rfl) ?_
                            refine lv_aload_n hE.1 hE.2.1 dX9_meets_226 rfl (lv_at hl 4 rfl) ?_
                            refine x_get (x := .ref (ad 12)) hE hK hP 0 (by decide) (yG_9 rfl) rfl hin9 22 (by decide) mw_1356 rfl dX9_meets_227 ?_
                            refine lv_aload_n hE.1 hE.2.1 dX9_meets_230 rfl (lv_at hl 4 rfl) ?_
                            refine x_get (x := .int (vl297 0 31)) hE hK hP 0 (by decide) (yG_9 rfl) rfl hin9 31 (by decide) mw_1365 rfl dX9_meets_231 ?_
                            refine x_top (y := iI (w_4)) ((hfr297 0 31 (by decide)).trans ((up_oth hv296 (by decide)).trans ((up_oth hv295 (by decide)).trans ((up_oth hv216 (by decide)).trans ((up_oth hv53 (by decide)).trans ((up_oth hv50 (by decide)).trans ((up_oth hv43 (by decide)).trans ew_4))))))) ?_
                            refine lv_iload hE.1 hE.2.1 dX9_meets_234 (lv_at hl 0 rfl) ?_
                            refine lv_iadd hE.1 hE.2.1 dX9_meets_236 ?_
                            refine x_top (y := iI (w_4 + y297_4)) ((iI_add (w_4) (y297_4)).trans (congrArg iI (by omega))) ?_
                            refine x_iald (j := iI (w_4 + y297_4)) hE hK hP 12 (by decide) (yG_10 rfl) (iI_in (n := 60) (by omega)) dX9_meets_237 ?_
                            obtain ⟨z300, hz300, ez300⟩ := YI_a12 hI ((iI (w_4 + y297_4)).toNatClampNeg)
                            refine x_top ez300 ?_
                            refine x_iast (j := iI (y297_4)) hE hK hN hP hS 15 (by decide) (fun _ => yG_10 rfl) (iI_in (n := 9) (by omega)) dX9_meets_238 (fun ar301 H locs ha301 hP hS => ?_)
                            have hI := YI_ast hI ha301 (by decide)
                            refine lv_iinc (v := iI (y297_4 + 1)) (lv' := [(4, .int (iI (y297_4 + 1))), (3, .int (iI (z282))), (2, .int (iI (z5))), (1, .int (iI (w_1 - w_4))), (0, .ref (ad 0))]) hE.1 hE.2.1 dX9_meets_239 hl (k := 0) rfl ((iI_add (y297_4) (1)).trans (congrArg iI (by omega))) (by decide) rfl (fun ls hl => ?_)
                            refine lv_goto (tgt := 214) hE.1 hE.2.1 dX9_meets_242 (by decide) ?_
                            exact ih297 _ (by omega) (y297_4 + 1)  vl297 ar301 all297 _ _ _ rfl (by omega)  hI (fun i j h => (hfr297 i j h)) (fun i h => ((upx_ne ha301 i (fun q => h (by rw [q]; decide))).trans (hfa297 i h))) (fun i h => (hfl297 i h)) hP hS (lv_sub hl [0, 1, 2, 3, 4] rfl)
                      exact loop297 _ (0)  v296 ar47 al _ _ _ rfl (by omega)  hI (fun _ _ _ => rfl) (fun _ _ => rfl) (fun _ _ => rfl) hP hS hl
                    · skip
                      refine lv_aload_n hE.1 hE.2.1 dX9_meets_192 rfl (lv_at hl 3 rfl) ?_
                      refine lv_iload_n hE.1 hE.2.1 dX9_meets_193 rfl (lv_at hl 2 rfl) ?_
                      refine x_vp (nn := 1) (As := [.int (iI (w_1 - w_4))]) (rest := []) hE (s_X9_isAhead_e l D K ad v216 ar47 al hI  (w_1 - w_4) (by omega)) wPre_blind (wPre_now hK hN hP) (x_recv hK hP 0 (by decide) (yG_9 rfl) rfl) rfl mw_1818 mw_1820 mw_90 mw_123 mw_1821 (by decide +kernel) ⟨by decide, by decide⟩ hl.1 rfl (Nat.le_of_ble_eq_true rfl) ⟨Nat.zero_le _, Nat.zero_le _⟩ dX9_meets_194 (fun r302 hr302 => ?_)
                      obtain ⟨z302, hz302, rfl⟩ := hr302
                      refine s_if_ne (a := z302) (tgt := 201) hE.1 hE.2.1 (by omega) dX9_meets_197 (by decide) (fun c303 => ?_) (fun c303 => ?_)
                      · skip
                        refine lv_aload_n hE.1 hE.2.1 dX9_meets_201 rfl (lv_at hl 3 rfl) ?_
                        refine lv_iload_n hE.1 hE.2.1 dX9_meets_202 rfl (lv_at hl 0 rfl) ?_
                        refine x_put (x := iI (z282)) hE hK hN hP hS 0 (by decide) (yG_9 rfl) rfl hin9 tyX9 tyX9_ok nmX9 32 (by decide) mw_1366 rfl rfl rfl (Nat.le_of_ble_eq_true rfl) (yG_9 rfl) dX9_meets_203 (fun v304 H locs hv304 hP hS => ?_)
                        have hI := YI_putN hI hv304 (by decide)
                        refine lv_aload_n hE.1 hE.2.1 dX9_meets_206 rfl (lv_at hl 3 rfl) ?_
                        refine lv_iload_n hE.1 hE.2.1 dX9_meets_207 rfl (lv_at hl 2 rfl) ?_
                        refine x_put (x := iI (w_1 - w_4)) hE hK hN hP hS 0 (by decide) (yG_9 rfl) rfl hin9 tyX9 tyX9_ok nmX9 33 (by decide) mw_1367 rfl rfl rfl (Nat.le_of_ble_eq_true rfl) (yG_9 rfl) dX9_meets_208 (fun v305 H locs hv305 hP hS => ?_)
                        have hI := YI_putB (z := w_1 - w_4) hI hv305 (-1) 9 (by omega) (by decide) (by omega)
                        refine lv_iconst (v := iI (0)) hE.1 hE.2.1 dX9_meets_211 (by decide) ?_
                        refine lv_istore (lv' := [(4, .int (iI (0))), (3, .int (iI (z282))), (2, .int (iI (z5))), (1, .int (iI (w_1 - w_4))), (0, .ref (ad 0))]) hE.1 hE.2.1 dX9_meets_212 hl (by decide) rfl (fun ls hl => ?_)
                        have loop306 : ∀ (k306 : Nat) (y306_4 : Int) (vl306 arl306 : sI) (all306 : sL) (H : Heap) (locs : List Loc) (ls : Array Slot), (9 - y306_4).toNat = k306 → (0 ≤ y306_4 ∧ y306_4 ≤ 9) → YI vl306 arl306 → (∀ i j : Nat, (i, j) ∉ ([] : List (Nat × Nat)) → vl306 i j = v305 i j) → (∀ i : Nat, i ∉ ([15] : List Nat) → arl306 i = ar47 i) → (∀ i : Nat, i ∉ ([] : List Nat) → all306 i = al i) → va_P D xcl (wW ad (yG ad K) 21 vl306 arl306 all306) H → va_S (inW ad 21) s.heap H locs → lv_has ls 5 [(4, .int (iI (y306_4))), (3, .int (iI (z282))), (2, .int (iI (z5))), (1, .int (iI (w_1 - w_4))), (0, .ref (ad 0))] → W p l e (rmD 3) s m args below meth c H locs 0 0 Q (F0 m 214 ls []) := by
                          intro k306
                          induction k306 using Nat.strongRecOn with
                          | _ k306 ih306 =>
                            intro y306_4  vl306 arl306 all306 H locs ls hk306 hb_y306_4 hI hfr306 hfa306 hfl306 hP hS hl
                            refine lv_iload hE.1 hE.2.1 dX9_meets_214 (lv_at hl 0 rfl) ?_
                            refine lv_iload_n hE.1 hE.2.1 dX9_meets_216 rfl (lv_at hl 3 rfl) ?_
                            refine s_icmp_ge (a := y306_4) (b := w_1 - w_4) (tgt := 245) hE.1 hE.2.1 (by omega) (by omega) dX9_meets_217 (by decide) (fun c307 => ?_) (fun c307 => ?_)
                            · skip
                              exact kr vl306 arl306 all306 _ _ _ _ ⟨hI, fun i j h => ((hfr306 i j (fun q => h (mem_sub (by decide) q))).trans ((up_oth hv305 (fun q => h (by rcases q with ⟨rfl, rfl⟩; decide))).trans ((up_oth hv304 (fun q => h (by rcases q with ⟨rfl, rfl⟩; decide))).trans ((up_oth hv216 (fun q => h (by rcases q with ⟨rfl, rfl⟩; decide))).trans ((up_oth hv53 (fun q => h (by rcases q with ⟨rfl, rfl⟩; decide))).trans ((up_oth hv50 (fun q => h (by rcases q with ⟨rfl, rfl⟩; decide))).trans (up_oth hv43 (fun q => h (by rcases q with ⟨rfl, rfl⟩; decide))))))))), fun i h => ((hfa306 i (fun q => h (mem_subn (by decide) q))).trans ((upx_ne ha47 i (fun q => h (by rw [q]; decide))).trans (upx_ne ha4 i (fun q => h (by rw [q]; decide))))), fun i h => (hfl306 i (fun q => h (mem_subn (by decide) q)))⟩ hP hS dX9_meets_245
                            · skip
                              refine lv_aload_n hE.1 hE.2.1 dX9_meets_220 rfl (lv_at hl 4 rfl) ?_
                              refine x_get (x := .ref (ad 15)) hE hK hP 0 (by decide) (yG_9 rfl) rfl hin9 34 (by decide) mw_1368 rfl dX9_meets_221 ?_
                              refine lv_iload hE.1 hE.2.1 dX9_meets_224 (lv_at hl 0 rfl) ?_
                              refine lv_aload_n hE.1 hE.2.1 dX9_meets_226 rfl (lv_at hl 4 rfl) ?_
                              refine x_get (x := .ref (ad 12)) hE hK hP 0 (by decide) (yG_9 rfl) rfl hin9 22 (by decide) mw_1356 rfl dX9_meets_227 ?_
                              refine lv_aload_n hE.1 hE.2.1 dX9_meets_230 rfl (lv_at hl 4 rfl) ?_
                              refine x_get (x := .int (vl306 0 31)) hE hK hP 0 (by decide) (yG_9 rfl) rfl hin9 31 (by decide) mw_1365 rfl dX9_meets_231 ?_
                              refine x_top (y := iI (w_4)) ((hfr306 0 31 (by decide)).trans ((up_oth hv305 (by decide)).trans ((up_oth hv304 (by decide)).trans ((up_oth hv216 (by decide)).trans ((up_oth hv53 (by decide)).trans ((up_oth hv50 (by decide)).trans ((up_oth hv43 (by decide)).trans ew_4))))))) ?_
                              refine lv_iload hE.1 hE.2.1 dX9_meets_234 (lv_at hl 0 rfl) ?_
                              refine lv_iadd hE.1 hE.2.1 dX9_meets_236 ?_
                              refine x_top (y := iI (w_4 + y306_4)) ((iI_add (w_4) (y306_4)).trans (congrArg iI (by omega))) ?_
                              refine x_iald (j := iI (w_4 + y306_4)) hE hK hP 12 (by decide) (yG_10 rfl) (iI_in (n := 60) (by omega)) dX9_meets_237 ?_
                              obtain ⟨z309, hz309, ez309⟩ := YI_a12 hI ((iI (w_4 + y306_4)).toNatClampNeg)
                              refine x_top ez309 ?_
                              refine x_iast (j := iI (y306_4)) hE hK hN hP hS 15 (by decide) (fun _ => yG_10 rfl) (iI_in (n := 9) (by omega)) dX9_meets_238 (fun ar310 H locs ha310 hP hS => ?_)
                              have hI := YI_ast hI ha310 (by decide)
                              refine lv_iinc (v := iI (y306_4 + 1)) (lv' := [(4, .int (iI (y306_4 + 1))), (3, .int (iI (z282))), (2, .int (iI (z5))), (1, .int (iI (w_1 - w_4))), (0, .ref (ad 0))]) hE.1 hE.2.1 dX9_meets_239 hl (k := 0) rfl ((iI_add (y306_4) (1)).trans (congrArg iI (by omega))) (by decide) rfl (fun ls hl => ?_)
                              refine lv_goto (tgt := 214) hE.1 hE.2.1 dX9_meets_242 (by decide) ?_
                              exact ih306 _ (by omega) (y306_4 + 1)  vl306 ar310 all306 _ _ _ rfl (by omega)  hI (fun i j h => (hfr306 i j h)) (fun i h => ((upx_ne ha310 i (fun q => h (by rw [q]; decide))).trans (hfa306 i h))) (fun i h => (hfl306 i h)) hP hS (lv_sub hl [0, 1, 2, 3, 4] rfl)
                        exact loop306 _ (0)  v305 ar47 al _ _ _ rfl (by omega)  hI (fun _ _ _ => rfl) (fun _ _ => rfl) (fun _ _ => rfl) hP hS hl
                      · skip
                        exact kr v216 ar47 al _ _ _ _ ⟨hI, fun i j h => ((up_oth hv216 (fun q => h (by rcases q with ⟨rfl, rfl⟩; decide))).trans ((up_oth hv53 (fun q => h (by rcases q with ⟨rfl, rfl⟩; decide))).trans ((up_oth hv50 (fun q => h (by rcases q with ⟨rfl, rfl⟩; decide))).trans (up_oth hv43 (fun q => h (by rcases q with ⟨rfl, rfl⟩; decide)))))), fun i h => ((upx_ne ha47 i (fun q => h (by rw [q]; decide))).trans (upx_ne ha4 i (fun q => h (by rw [q]; decide)))), fun i h => rfl⟩ hP hS dX9_meets_200
            · skip
              refine lv_aload_n hE.1 hE.2.1 dX9_meets_146 rfl (lv_at hl 2 rfl) ?_
              obtain ⟨z311, hz311, ez311⟩ := iI_of (v216 0 27)
              refine x_get (x := .int (v216 0 27)) hE hK hP 0 (by decide) (yG_9 rfl) rfl hin9 27 (by decide) mw_1361 rfl dX9_meets_147 ?_
              refine x_top (y := iI (z311)) ez311 ?_
              refine lv_goto (tgt := 167) hE.1 hE.2.1 dX9_meets_150 (by decide) ?_
              refine lv_istore_n (lv' := [(3, .int (iI (z311))), (2, .int (iI (z5))), (1, .int (iI (w_1 - w_4))), (0, .ref (ad 0))]) hE.1 hE.2.1 dX9_meets_167 rfl hl (by decide) rfl (fun ls hl => ?_)
              refine lv_aload_n hE.1 hE.2.1 dX9_meets_168 rfl (lv_at hl 3 rfl) ?_
              obtain ⟨z312, hz312, ez312⟩ := YI_get hI 0 33 (-1) 9 (by decide)
              refine x_get (x := .int (v216 0 33)) hE hK hP 0 (by decide) (yG_9 rfl) rfl hin9 33 (by decide) mw_1367 rfl dX9_meets_169 ?_
              refine x_top (y := iI (z312)) ez312 ?_
              refine lv_iconst (v := iI (-1)) hE.1 hE.2.1 dX9_meets_172 (by decide) ?_
              refine s_icmp_eq (a := z312) (b := -1) (tgt := 201) hE.1 hE.2.1 (by omega) (by omega) dX9_meets_173 (by decide) (fun c313 => ?_) (fun c313 => ?_)
              · skip
                refine lv_aload_n hE.1 hE.2.1 dX9_meets_201 rfl (lv_at hl 3 rfl) ?_
                refine lv_iload_n hE.1 hE.2.1 dX9_meets_202 rfl (lv_at hl 0 rfl) ?_
                refine x_put (x := iI (z311)) hE hK hN hP hS 0 (by decide) (yG_9 rfl) rfl hin9 tyX9 tyX9_ok nmX9 32 (by decide) mw_1366 rfl rfl rfl (Nat.le_of_ble_eq_true rfl) (yG_9 rfl) dX9_meets_203 (fun v314 H locs hv314 hP hS => ?_)
                have hI := YI_putN hI hv314 (by decide)
                refine lv_aload_n hE.1 hE.2.1 dX9_meets_206 rfl (lv_at hl 3 rfl) ?_
                refine lv_iload_n hE.1 hE.2.1 dX9_meets_207 rfl (lv_at hl 2 rfl) ?_
                refine x_put (x := iI (w_1 - w_4)) hE hK hN hP hS 0 (by decide) (yG_9 rfl) rfl hin9 tyX9 tyX9_ok nmX9 33 (by decide) mw_1367 rfl rfl rfl (Nat.le_of_ble_eq_true rfl) (yG_9 rfl) dX9_meets_208 (fun v315 H locs hv315 hP hS => ?_)
                have hI := YI_putB (z := w_1 - w_4) hI hv315 (-1) 9 (by omega) (by decide) (by omega)
                refine lv_iconst (v := iI (0)) hE.1 hE.2.1 dX9_meets_211 (by decide) ?_
                refine lv_istore (lv' := [(4, .int (iI (0))), (3, .int (iI (z311))), (2, .int (iI (z5))), (1, .int (iI (w_1 - w_4))), (0, .ref (ad 0))]) hE.1 hE.2.1 dX9_meets_212 hl (by decide) rfl (fun ls hl => ?_)
                have loop316 : ∀ (k316 : Nat) (y316_4 : Int) (vl316 arl316 : sI) (all316 : sL) (H : Heap) (locs : List Loc) (ls : Array Slot), (9 - y316_4).toNat = k316 → (0 ≤ y316_4 ∧ y316_4 ≤ 9) → YI vl316 arl316 → (∀ i j : Nat, (i, j) ∉ ([] : List (Nat × Nat)) → vl316 i j = v315 i j) → (∀ i : Nat, i ∉ ([15] : List Nat) → arl316 i = ar47 i) → (∀ i : Nat, i ∉ ([] : List Nat) → all316 i = al i) → va_P D xcl (wW ad (yG ad K) 21 vl316 arl316 all316) H → va_S (inW ad 21) s.heap H locs → lv_has ls 5 [(4, .int (iI (y316_4))), (3, .int (iI (z311))), (2, .int (iI (z5))), (1, .int (iI (w_1 - w_4))), (0, .ref (ad 0))] → W p l e (rmD 3) s m args below meth c H locs 0 0 Q (F0 m 214 ls []) := by
                  intro k316
                  induction k316 using Nat.strongRecOn with
                  | _ k316 ih316 =>
                    intro y316_4  vl316 arl316 all316 H locs ls hk316 hb_y316_4 hI hfr316 hfa316 hfl316 hP hS hl
                    refine lv_iload hE.1 hE.2.1 dX9_meets_214 (lv_at hl 0 rfl) ?_
                    refine lv_iload_n hE.1 hE.2.1 dX9_meets_216 rfl (lv_at hl 3 rfl) ?_
                    refine s_icmp_ge (a := y316_4) (b := w_1 - w_4) (tgt := 245) hE.1 hE.2.1 (by omega) (by omega) dX9_meets_217 (by decide) (fun c317 => ?_) (fun c317 => ?_)
                    · skip
                      exact kr vl316 arl316 all316 _ _ _ _ ⟨hI, fun i j h => ((hfr316 i j (fun q => h (mem_sub (by decide) q))).trans ((up_oth hv315 (fun q => h (by rcases q with ⟨rfl, rfl⟩; decide))).trans ((up_oth hv314 (fun q => h (by rcases q with ⟨rfl, rfl⟩; decide))).trans ((up_oth hv216 (fun q => h (by rcases q with ⟨rfl, rfl⟩; decide))).trans ((up_oth hv53 (fun q => h (by rcases q with ⟨rfl, rfl⟩; decide))).trans ((up_oth hv50 (fun q => h (by rcases q with ⟨rfl, rfl⟩; decide))).trans (up_oth hv43 (fun q => h (by rcases q with ⟨rfl, rfl⟩; decide))))))))), fun i h => ((hfa316 i (fun q => h (mem_subn (by decide) q))).trans ((upx_ne ha47 i (fun q => h (by rw [q]; decide))).trans (upx_ne ha4 i (fun q => h (by rw [q]; decide))))), fun i h => (hfl316 i (fun q => h (mem_subn (by decide) q)))⟩ hP hS dX9_meets_245
                    · skip
                      refine lv_aload_n hE.1 hE.2.1 dX9_meets_220 rfl (lv_at hl 4 rfl) ?_
                      refine x_get (x := .ref (ad 15)) hE hK hP 0 (by decide) (yG_9 rfl) rfl hin9 34 (by decide) mw_1368 rfl dX9_meets_221 ?_
                      refine lv_iload hE.1 hE.2.1 dX9_meets_224 (lv_at hl 0 rfl) ?_
                      refine lv_aload_n hE.1 hE.2.1 dX9_meets_226 rfl (lv_at hl 4 rfl) ?_
                      refine x_get (x := .ref (ad 12)) hE hK hP 0 (by decide) (yG_9 rfl) rfl hin9 22 (by decide) mw_1356 rfl dX9_meets_227 ?_
                      refine lv_aload_n hE.1 hE.2.1 dX9_meets_230 rfl (lv_at hl 4 rfl) ?_
                      refine x_get (x := .int (vl316 0 31)) hE hK hP 0 (by decide) (yG_9 rfl) rfl hin9 31 (by decide) mw_1365 rfl dX9_meets_231 ?_
                      refine x_top (y := iI (w_4)) ((hfr316 0 31 (by decide)).trans ((up_oth hv315 (by decide)).trans ((up_oth hv314 (by decide)).trans ((up_oth hv216 (by decide)).trans ((up_oth hv53 (by decide)).trans ((up_oth hv50 (by decide)).trans ((up_oth hv43 (by decide)).trans ew_4))))))) ?_
                      refine lv_iload hE.1 hE.2.1 dX9_meets_234 (lv_at hl 0 rfl) ?_
                      refine lv_iadd hE.1 hE.2.1 dX9_meets_236 ?_
                      refine x_top (y := iI (w_4 + y316_4)) ((iI_add (w_4) (y316_4)).trans (congrArg iI (by omega))) ?_
                      refine x_iald (j := iI (w_4 + y316_4)) hE hK hP 12 (by decide) (yG_10 rfl) (iI_in (n := 60) (by omega)) dX9_meets_237 ?_
                      obtain ⟨z319, hz319, ez319⟩ := YI_a12 hI ((iI (w_4 + y316_4)).toNatClampNeg)
                      refine x_top ez319 ?_
                      refine x_iast (j := iI (y316_4)) hE hK hN hP hS 15 (by decide) (fun _ => yG_10 rfl) (iI_in (n := 9) (by omega)) dX9_meets_238 (fun ar320 H locs ha320 hP hS => ?_)
                      have hI := YI_ast hI ha320 (by decide)
                      refine lv_iinc (v := iI (y316_4 + 1)) (lv' := [(4, .int (iI (y316_4 + 1))), (3, .int (iI (z311))), (2, .int (iI (z5))), (1, .int (iI (w_1 - w_4))), (0, .ref (ad 0))]) hE.1 hE.2.1 dX9_meets_239 hl (k := 0) rfl ((iI_add (y316_4) (1)).trans (congrArg iI (by omega))) (by decide) rfl (fun ls hl => ?_)
                      refine lv_goto (tgt := 214) hE.1 hE.2.1 dX9_meets_242 (by decide) ?_
                      exact ih316 _ (by omega) (y316_4 + 1)  vl316 ar320 all316 _ _ _ rfl (by omega)  hI (fun i j h => (hfr316 i j h)) (fun i h => ((upx_ne ha320 i (fun q => h (by rw [q]; decide))).trans (hfa316 i h))) (fun i h => (hfl316 i h)) hP hS (lv_sub hl [0, 1, 2, 3, 4] rfl)
                exact loop316 _ (0)  v315 ar47 al _ _ _ rfl (by omega)  hI (fun _ _ _ => rfl) (fun _ _ => rfl) (fun _ _ => rfl) hP hS hl
              · skip
                refine lv_iload_n hE.1 hE.2.1 dX9_meets_176 rfl (lv_at hl 0 rfl) ?_
                refine lv_aload_n hE.1 hE.2.1 dX9_meets_177 rfl (lv_at hl 3 rfl) ?_
                obtain ⟨z321, hz321, ez321⟩ := iI_of (v216 0 32)
                refine x_get (x := .int (v216 0 32)) hE hK hP 0 (by decide) (yG_9 rfl) rfl hin9 32 (by decide) mw_1366 rfl dX9_meets_178 ?_
                refine x_top (y := iI (z321)) ez321 ?_
                refine s_icmp_lt (a := z311) (b := z321) (tgt := 200) hE.1 hE.2.1 (by omega) (by omega) dX9_meets_181 (by decide) (fun c322 => ?_) (fun c322 => ?_)
                · skip
                  exact kr v216 ar47 al _ _ _ _ ⟨hI, fun i j h => ((up_oth hv216 (fun q => h (by rcases q with ⟨rfl, rfl⟩; decide))).trans ((up_oth hv53 (fun q => h (by rcases q with ⟨rfl, rfl⟩; decide))).trans ((up_oth hv50 (fun q => h (by rcases q with ⟨rfl, rfl⟩; decide))).trans (up_oth hv43 (fun q => h (by rcases q with ⟨rfl, rfl⟩; decide)))))), fun i h => ((upx_ne ha47 i (fun q => h (by rw [q]; decide))).trans (upx_ne ha4 i (fun q => h (by rw [q]; decide)))), fun i h => rfl⟩ hP hS dX9_meets_200
                · skip
                  refine lv_iload_n hE.1 hE.2.1 dX9_meets_184 rfl (lv_at hl 0 rfl) ?_
                  refine lv_aload_n hE.1 hE.2.1 dX9_meets_185 rfl (lv_at hl 3 rfl) ?_
                  refine x_get (x := .int (v216 0 32)) hE hK hP 0 (by decide) (yG_9 rfl) rfl hin9 32 (by decide) mw_1366 rfl dX9_meets_186 ?_
                  refine x_top (y := iI (z321)) ez321 ?_
                  refine s_icmp_ne (a := z311) (b := z321) (tgt := 201) hE.1 hE.2.1 (by omega) (by omega) dX9_meets_189 (by decide) (fun c323 => ?_) (fun c323 => ?_)
                  · skip
                    refine lv_aload_n hE.1 hE.2.1 dX9_meets_201 rfl (lv_at hl 3 rfl) ?_
                    refine lv_iload_n hE.1 hE.2.1 dX9_meets_202 rfl (lv_at hl 0 rfl) ?_
                    refine x_put (x := iI (z311)) hE hK hN hP hS 0 (by decide) (yG_9 rfl) rfl hin9 tyX9 tyX9_ok nmX9 32 (by decide) mw_1366 rfl rfl rfl (Nat.le_of_ble_eq_true rfl) (yG_9 rfl) dX9_meets_203 (fun v324 H locs hv324 hP hS => ?_)
                    have hI := YI_putN hI hv324 (by decide)
                    refine lv_aload_n hE.1 hE.2.1 dX9_meets_206 rfl (lv_at hl 3 rfl) ?_
                    refine lv_iload_n hE.1 hE.2.1 dX9_meets_207 rfl (lv_at hl 2 rfl) ?_
                    refine x_put (x := iI (w_1 - w_4)) hE hK hN hP hS 0 (by decide) (yG_9 rfl) rfl hin9 tyX9 tyX9_ok nmX9 33 (by decide) mw_1367 rfl rfl rfl (Nat.le_of_ble_eq_true rfl) (yG_9 rfl) dX9_meets_208 (fun v325 H locs hv325 hP hS => ?_)
                    have hI := YI_putB (z := w_1 - w_4) hI hv325 (-1) 9 (by omega) (by decide) (by omega)
                    refine lv_iconst (v := iI (0)) hE.1 hE.2.1 dX9_meets_211 (by decide) ?_
                    refine lv_istore (lv' := [(4, .int (iI (0))), (3, .int (iI (z311))), (2, .int (iI (z5))), (1, .int (iI (w_1 - w_4))), (0, .ref (ad 0))]) hE.1 hE.2.1 dX9_meets_212 hl (by decide) rfl (fun ls hl => ?_)
                    have loop326 : ∀ (k326 : Nat) (y326_4 : Int) (vl326 arl326 : sI) (all326 : sL) (H : Heap) (locs : List Loc) (ls : Array Slot), (9 - y326_4).toNat = k326 → (0 ≤ y326_4 ∧ y326_4 ≤ 9) → YI vl326 arl326 → (∀ i j : Nat, (i, j) ∉ ([] : List (Nat × Nat)) → vl326 i j = v325 i j) → (∀ i : Nat, i ∉ ([15] : List Nat) → arl326 i = ar47 i) → (∀ i : Nat, i ∉ ([] : List Nat) → all326 i = al i) → va_P D xcl (wW ad (yG ad K) 21 vl326 arl326 all326) H → va_S (inW ad 21) s.heap H locs → lv_has ls 5 [(4, .int (iI (y326_4))), (3, .int (iI (z311))), (2, .int (iI (z5))), (1, .int (iI (w_1 - w_4))), (0, .ref (ad 0))] → W p l e (rmD 3) s m args below meth c H locs 0 0 Q (F0 m 214 ls []) := by
                      intro k326
                      induction k326 using Nat.strongRecOn with
                      | _ k326 ih326 =>
                        intro y326_4  vl326 arl326 all326 H locs ls hk326 hb_y326_4 hI hfr326 hfa326 hfl326 hP hS hl
                        refine lv_iload hE.1 hE.2.1 dX9_meets_214 (lv_at hl 0 rfl) ?_
                        refine lv_iload_n hE.1 hE.2.1 dX9_meets_216 rfl (lv_at hl 3 rfl) ?_
                        refine s_icmp_ge (a := y326_4) (b := w_1 - w_4) (tgt := 245) hE.1 hE.2.1 (by omega) (by omega) dX9_meets_217 (by decide) (fun c327 => ?_) (fun c327 => ?_)
                        · skip
                          exact kr vl326 arl326 all326 _ _ _ _ ⟨hI, fun i j h => ((hfr326 i j (fun q => h (mem_sub (by decide) q))).trans ((up_oth hv325 (fun q => h (by rcases q with ⟨rfl, rfl⟩; decide))).trans ((up_oth hv324 (fun q => h (by rcases q with ⟨rfl, rfl⟩; decide))).trans ((up_oth hv216 (fun q => h (by rcases q with ⟨rfl, rfl⟩; decide))).trans ((up_oth hv53 (fun q => h (by rcases q with ⟨rfl, rfl⟩; decide))).trans ((up_oth hv50 (fun q => h (by rcases q with ⟨rfl, rfl⟩; decide))).trans (up_oth hv43 (fun q => h (by rcases q with ⟨rfl, rfl⟩; decide))))))))), fun i h => ((hfa326 i (fun q => h (mem_subn (by decide) q))).trans ((upx_ne ha47 i (fun q => h (by rw [q]; decide))).trans (upx_ne ha4 i (fun q => h (by rw [q]; decide))))), fun i h => (hfl326 i (fun q => h (mem_subn (by decide) q)))⟩ hP hS dX9_meets_245
                        · skip
                          refine lv_aload_n hE.1 hE.2.1 dX9_meets_220 rfl (lv_at hl 4 rfl) ?_
                          refine x_get (x := .ref (ad 15)) hE hK hP 0 (by decide) (yG_9 rfl) rfl hin9 34 (by decide) mw_1368 rfl dX9_meets_221 ?_
                          refine lv_iload hE.1 hE.2.1 dX9_meets_224 (lv_at hl 0 rfl) ?_
                          refine lv_aload_n hE.1 hE.2.1 dX9_meets_226 rfl (lv_at hl 4 rfl) ?_
                          refine x_get (x := .ref (ad 12)) hE hK hP 0 (by decide) (yG_9 rfl) rfl hin9 22 (by decide) mw_1356 rfl dX9_meets_227 ?_
                          refine lv_aload_n hE.1 hE.2.1 dX9_meets_230 rfl (lv_at hl 4 rfl) ?_
                          refine x_get (x := .int (vl326 0 31)) hE hK hP 0 (by decide) (yG_9 rfl) rfl hin9 31 (by decide) mw_1365 rfl dX9_meets_231 ?_
                          refine x_top (y := iI (w_4)) ((hfr326 0 31 (by decide)).trans ((up_oth hv325 (by decide)).trans ((up_oth hv324 (by decide)).trans ((up_oth hv216 (by decide)).trans ((up_oth hv53 (by decide)).trans ((up_oth hv50 (by decide)).trans ((up_oth hv43 (by decide)).trans ew_4))))))) ?_
                          refine lv_iload hE.1 hE.2.1 dX9_meets_234 (lv_at hl 0 rfl) ?_
                          refine lv_iadd hE.1 hE.2.1 dX9_meets_236 ?_
                          refine x_top (y := iI (w_4 + y326_4)) ((iI_add (w_4) (y326_4)).trans (congrArg iI (by omega))) ?_
                          refine x_iald (j := iI (w_4 + y326_4)) hE hK hP 12 (by decide) (yG_10 rfl) (iI_in (n := 60) (by omega)) dX9_meets_237 ?_
                          obtain ⟨z329, hz329, ez329⟩ := YI_a12 hI ((iI (w_4 + y326_4)).toNatClampNeg)
                          refine x_top ez329 ?_
                          refine x_iast (j := iI (y326_4)) hE hK hN hP hS 15 (by decide) (fun _ => yG_10 rfl) (iI_in (n := 9) (by omega)) dX9_meets_238 (fun ar330 H locs ha330 hP hS => ?_)
                          have hI := YI_ast hI ha330 (by decide)
                          refine lv_iinc (v := iI (y326_4 + 1)) (lv' := [(4, .int (iI (y326_4 + 1))), (3, .int (iI (z311))), (2, .int (iI (z5))), (1, .int (iI (w_1 - w_4))), (0, .ref (ad 0))]) hE.1 hE.2.1 dX9_meets_239 hl (k := 0) rfl ((iI_add (y326_4) (1)).trans (congrArg iI (by omega))) (by decide) rfl (fun ls hl => ?_)
                          refine lv_goto (tgt := 214) hE.1 hE.2.1 dX9_meets_242 (by decide) ?_
                          exact ih326 _ (by omega) (y326_4 + 1)  vl326 ar330 all326 _ _ _ rfl (by omega)  hI (fun i j h => (hfr326 i j h)) (fun i h => ((upx_ne ha330 i (fun q => h (by rw [q]; decide))).trans (hfa326 i h))) (fun i h => (hfl326 i h)) hP hS (lv_sub hl [0, 1, 2, 3, 4] rfl)
                    exact loop326 _ (0)  v325 ar47 al _ _ _ rfl (by omega)  hI (fun _ _ _ => rfl) (fun _ _ => rfl) (fun _ _ => rfl) hP hS hl
                  · skip
                    refine lv_aload_n hE.1 hE.2.1 dX9_meets_192 rfl (lv_at hl 3 rfl) ?_
                    refine lv_iload_n hE.1 hE.2.1 dX9_meets_193 rfl (lv_at hl 2 rfl) ?_
                    refine x_vp (nn := 1) (As := [.int (iI (w_1 - w_4))]) (rest := []) hE (s_X9_isAhead_e l D K ad v216 ar47 al hI  (w_1 - w_4) (by omega)) wPre_blind (wPre_now hK hN hP) (x_recv hK hP 0 (by decide) (yG_9 rfl) rfl) rfl mw_1818 mw_1820 mw_90 mw_123 mw_1821 (by decide +kernel) ⟨by decide, by decide⟩ hl.1 rfl (Nat.le_of_ble_eq_true rfl) ⟨Nat.zero_le _, Nat.zero_le _⟩ dX9_meets_194 (fun r331 hr331 => ?_)
                    obtain ⟨z331, hz331, rfl⟩ := hr331
                    refine s_if_ne (a := z331) (tgt := 201) hE.1 hE.2.1 (by omega) dX9_meets_197 (by decide) (fun c332 => ?_) (fun c332 => ?_)
                    · skip
                      refine lv_aload_n hE.1 hE.2.1 dX9_meets_201 rfl (lv_at hl 3 rfl) ?_
                      refine lv_iload_n hE.1 hE.2.1 dX9_meets_202 rfl (lv_at hl 0 rfl) ?_
                      refine x_put (x := iI (z311)) hE hK hN hP hS 0 (by decide) (yG_9 rfl) rfl hin9 tyX9 tyX9_ok nmX9 32 (by decide) mw_1366 rfl rfl rfl (Nat.le_of_ble_eq_true rfl) (yG_9 rfl) dX9_meets_203 (fun v333 H locs hv333 hP hS => ?_)
                      have hI := YI_putN hI hv333 (by decide)
                      refine lv_aload_n hE.1 hE.2.1 dX9_meets_206 rfl (lv_at hl 3 rfl) ?_
                      refine lv_iload_n hE.1 hE.2.1 dX9_meets_207 rfl (lv_at hl 2 rfl) ?_
                      refine x_put (x := iI (w_1 - w_4)) hE hK hN hP hS 0 (by decide) (yG_9 rfl) rfl hin9 tyX9 tyX9_ok nmX9 33 (by decide) mw_1367 rfl rfl rfl (Nat.le_of_ble_eq_true rfl) (yG_9 rfl) dX9_meets_208 (fun v334 H locs hv334 hP hS => ?_)
                      have hI := YI_putB (z := w_1 - w_4) hI hv334 (-1) 9 (by omega) (by decide) (by omega)
                      refine lv_iconst (v := iI (0)) hE.1 hE.2.1 dX9_meets_211 (by decide) ?_
                      refine lv_istore (lv' := [(4, .int (iI (0))), (3, .int (iI (z311))), (2, .int (iI (z5))), (1, .int (iI (w_1 - w_4))), (0, .ref (ad 0))]) hE.1 hE.2.1 dX9_meets_212 hl (by decide) rfl (fun ls hl => ?_)
                      have loop335 : ∀ (k335 : Nat) (y335_4 : Int) (vl335 arl335 : sI) (all335 : sL) (H : Heap) (locs : List Loc) (ls : Array Slot), (9 - y335_4).toNat = k335 → (0 ≤ y335_4 ∧ y335_4 ≤ 9) → YI vl335 arl335 → (∀ i j : Nat, (i, j) ∉ ([] : List (Nat × Nat)) → vl335 i j = v334 i j) → (∀ i : Nat, i ∉ ([15] : List Nat) → arl335 i = ar47 i) → (∀ i : Nat, i ∉ ([] : List Nat) → all335 i = al i) → va_P D xcl (wW ad (yG ad K) 21 vl335 arl335 all335) H → va_S (inW ad 21) s.heap H locs → lv_has ls 5 [(4, .int (iI (y335_4))), (3, .int (iI (z311))), (2, .int (iI (z5))), (1, .int (iI (w_1 - w_4))), (0, .ref (ad 0))] → W p l e (rmD 3) s m args below meth c H locs 0 0 Q (F0 m 214 ls []) := by
                        intro k335
                        induction k335 using Nat.strongRecOn with
                        | _ k335 ih335 =>
                          intro y335_4  vl335 arl335 all335 H locs ls hk335 hb_y335_4 hI hfr335 hfa335 hfl335 hP hS hl
                          refine lv_iload hE.1 hE.2.1 dX9_meets_214 (lv_at hl 0 rfl) ?_
                          refine lv_iload_n hE.1 hE.2.1 dX9_meets_216 rfl (lv_at hl 3 rfl) ?_
                          refine s_icmp_ge (a := y335_4) (b := w_1 - w_4) (tgt := 245) hE.1 hE.2.1 (by omega) (by omega) dX9_meets_217 (by decide) (fun c336 => ?_) (fun c336 => ?_)
                          · skip
                            exact kr vl335 arl335 all335 _ _ _ _ ⟨hI, fun i j h => ((hfr335 i j (fun q => h (mem_sub (by decide) q))).trans ((up_oth hv334 (fun q => h (by rcases q with ⟨rfl, rfl⟩; decide))).trans ((up_oth hv333 (fun q => h (by rcases q with ⟨rfl, rfl⟩; decide))).trans ((up_oth hv216 (fun q => h (by rcases q with ⟨rfl, rfl⟩; decide))).trans ((up_oth hv53 (fun q => h (by rcases q with ⟨rfl, rfl⟩; decide))).trans ((up_oth hv50 (fun q => h (by rcases q with ⟨rfl, rfl⟩; decide))).trans (up_oth hv43 (fun q => h (by rcases q with ⟨rfl, rfl⟩; decide))))))))), fun i h => ((hfa335 i (fun q => h (mem_subn (by decide) q))).trans ((upx_ne ha47 i (fun q => h (by rw [q]; decide))).trans (upx_ne ha4 i (fun q => h (by rw [q]; decide))))), fun i h => (hfl335 i (fun q => h (mem_subn (by decide) q)))⟩ hP hS dX9_meets_245
                          · skip
                            refine lv_aload_n hE.1 hE.2.1 dX9_meets_220 rfl (lv_at hl 4 rfl) ?_
                            refine x_get (x := .ref (ad 15)) hE hK hP 0 (by decide) (yG_9 rfl) rfl hin9 34 (by decide) mw_1368 rfl dX9_meets_221 ?_
                            refine lv_iload hE.1 hE.2.1 dX9_meets_224 (lv_at hl 0 rfl) ?_
                            refine lv_aload_n hE.1 hE.2.1 dX9_meets_226 rfl (lv_at hl 4 rfl) ?_
                            refine x_get (x := .ref (ad 12)) hE hK hP 0 (by decide) (yG_9 rfl) rfl hin9 22 (by decide) mw_1356 rfl dX9_meets_227 ?_
                            refine lv_aload_n hE.1 hE.2.1 dX9_meets_230 rfl (lv_at hl 4 rfl) ?_
                            refine x_get (x := .int (vl335 0 31)) hE hK hP 0 (by decide) (yG_9 rfl) rfl hin9 31 (by decide) mw_1365 rfl dX9_meets_231 ?_
                            refine x_top (y := iI (w_4)) ((hfr335 0 31 (by decide)).trans ((up_oth hv334 (by decide)).trans ((up_oth hv333 (by decide)).trans ((up_oth hv216 (by decide)).trans ((up_oth hv53 (by decide)).trans ((up_oth hv50 (by decide)).trans ((up_oth hv43 (by decide)).trans ew_4))))))) ?_
                            refine lv_iload hE.1 hE.2.1 dX9_meets_234 (lv_at hl 0 rfl) ?_
                            refine lv_iadd hE.1 hE.2.1 dX9_meets_236 ?_
                            refine x_top (y := iI (w_4 + y335_4)) ((iI_add (w_4) (y335_4)).trans (congrArg iI (by omega))) ?_
                            refine x_iald (j := iI (w_4 + y335_4)) hE hK hP 12 (by decide) (yG_10 rfl) (iI_in (n := 60) (by omega)) dX9_meets_237 ?_
                            obtain ⟨z338, hz338, ez338⟩ := YI_a12 hI ((iI (w_4 + y335_4)).toNatClampNeg)
                            refine x_top ez338 ?_
                            refine x_iast (j := iI (y335_4)) hE hK hN hP hS 15 (by decide) (fun _ => yG_10 rfl) (iI_in (n := 9) (by omega)) dX9_meets_238 (fun ar339 H locs ha339 hP hS => ?_)
                            have hI := YI_ast hI ha339 (by decide)
                            refine lv_iinc (v := iI (y335_4 + 1)) (lv' := [(4, .int (iI (y335_4 + 1))), (3, .int (iI (z311))), (2, .int (iI (z5))), (1, .int (iI (w_1 - w_4))), (0, .ref (ad 0))]) hE.1 hE.2.1 dX9_meets_239 hl (k := 0) rfl ((iI_add (y335_4) (1)).trans (congrArg iI (by omega))) (by decide) rfl (fun ls hl => ?_)
                            refine lv_goto (tgt := 214) hE.1 hE.2.1 dX9_meets_242 (by decide) ?_
                            exact ih335 _ (by omega) (y335_4 + 1)  vl335 ar339 all335 _ _ _ rfl (by omega)  hI (fun i j h => (hfr335 i j h)) (fun i h => ((upx_ne ha339 i (fun q => h (by rw [q]; decide))).trans (hfa335 i h))) (fun i h => (hfl335 i h)) hP hS (lv_sub hl [0, 1, 2, 3, 4] rfl)
                      exact loop335 _ (0)  v334 ar47 al _ _ _ rfl (by omega)  hI (fun _ _ _ => rfl) (fun _ _ => rfl) (fun _ _ => rfl) hP hS hl
                    · skip
                      exact kr v216 ar47 al _ _ _ _ ⟨hI, fun i j h => ((up_oth hv216 (fun q => h (by rcases q with ⟨rfl, rfl⟩; decide))).trans ((up_oth hv53 (fun q => h (by rcases q with ⟨rfl, rfl⟩; decide))).trans ((up_oth hv50 (fun q => h (by rcases q with ⟨rfl, rfl⟩; decide))).trans (up_oth hv43 (fun q => h (by rcases q with ⟨rfl, rfl⟩; decide)))))), fun i h => ((upx_ne ha47 i (fun q => h (by rw [q]; decide))).trans (upx_ne ha4 i (fun q => h (by rw [q]; decide)))), fun i h => rfl⟩ hP hS dX9_meets_200
          · skip
            refine lv_aload_n hE.1 hE.2.1 dX9_meets_126 rfl (lv_at hl 2 rfl) ?_
            obtain ⟨z340, hz340, ez340⟩ := iI_of (v216 0 27)
            refine x_get (x := .int (v216 0 27)) hE hK hP 0 (by decide) (yG_9 rfl) rfl hin9 27 (by decide) mw_1361 rfl dX9_meets_127 ?_
            refine x_top (y := iI (z340)) ez340 ?_
            refine lv_aload_n hE.1 hE.2.1 dX9_meets_130 rfl (lv_at hl 2 rfl) ?_
            obtain ⟨z341, hz341, ez341⟩ := iI_of (v216 0 30)
            refine x_get (x := .int (v216 0 30)) hE hK hP 0 (by decide) (yG_9 rfl) rfl hin9 30 (by decide) mw_1364 rfl dX9_meets_131 ?_
            refine x_top (y := iI (z341)) ez341 ?_
            refine s_icmp_ge (a := z340) (b := z341) (tgt := 138) hE.1 hE.2.1 (by omega) (by omega) dX9_meets_134 (by decide) (fun c342 => ?_) (fun c342 => ?_)
            · skip
              refine lv_aload_n hE.1 hE.2.1 dX9_meets_138 rfl (lv_at hl 2 rfl) ?_
              refine x_get (x := .int (v216 0 29)) hE hK hP 0 (by decide) (yG_9 rfl) rfl hin9 29 (by decide) mw_1363 rfl dX9_meets_139 ?_
              refine x_top (y := iI (z217)) ez217 ?_
              refine lv_iconst (v := iI (2)) hE.1 hE.2.1 dX9_meets_142 (by decide) ?_
              refine s_icmp_ne (a := z217) (b := 2) (tgt := 153) hE.1 hE.2.1 (by omega) (by omega) dX9_meets_143 (by decide) (fun _ => ?_) (fun c343 => False.elim (by omega))
              refine lv_aload_n hE.1 hE.2.1 dX9_meets_153 rfl (lv_at hl 2 rfl) ?_
              refine x_get (x := .int (v216 0 29)) hE hK hP 0 (by decide) (yG_9 rfl) rfl hin9 29 (by decide) mw_1363 rfl dX9_meets_154 ?_
              refine x_top (y := iI (z217)) ez217 ?_
              refine lv_iconst (v := iI (3)) hE.1 hE.2.1 dX9_meets_157 (by decide) ?_
              refine s_icmp_ne (a := z217) (b := 3) (tgt := 166) hE.1 hE.2.1 (by omega) (by omega) dX9_meets_158 (by decide) (fun c344 => False.elim (by omega)) (fun _ => ?_)
              refine lv_iload_n hE.1 hE.2.1 dX9_meets_161 rfl (lv_at hl 1 rfl) ?_
              refine lv_ineg hE.1 hE.2.1 dX9_meets_162 ?_
              obtain ⟨z345, hz345, ez345⟩ := iI_of (-iI (w_1 - w_4))
              refine x_top ez345 ?_
              refine lv_goto (tgt := 167) hE.1 hE.2.1 dX9_meets_163 (by decide) ?_
              refine lv_istore_n (lv' := [(3, .int (iI (z345))), (2, .int (iI (z5))), (1, .int (iI (w_1 - w_4))), (0, .ref (ad 0))]) hE.1 hE.2.1 dX9_meets_167 rfl hl (by decide) rfl (fun ls hl => ?_)
              refine lv_aload_n hE.1 hE.2.1 dX9_meets_168 rfl (lv_at hl 3 rfl) ?_
              obtain ⟨z346, hz346, ez346⟩ := YI_get hI 0 33 (-1) 9 (by decide)
              refine x_get (x := .int (v216 0 33)) hE hK hP 0 (by decide) (yG_9 rfl) rfl hin9 33 (by decide) mw_1367 rfl dX9_meets_169 ?_
              refine x_top (y := iI (z346)) ez346 ?_
              refine lv_iconst (v := iI (-1)) hE.1 hE.2.1 dX9_meets_172 (by decide) ?_
              refine s_icmp_eq (a := z346) (b := -1) (tgt := 201) hE.1 hE.2.1 (by omega) (by omega) dX9_meets_173 (by decide) (fun c347 => ?_) (fun c347 => ?_)
              · skip
                refine lv_aload_n hE.1 hE.2.1 dX9_meets_201 rfl (lv_at hl 3 rfl) ?_
                refine lv_iload_n hE.1 hE.2.1 dX9_meets_202 rfl (lv_at hl 0 rfl) ?_
                refine x_put (x := iI (z345)) hE hK hN hP hS 0 (by decide) (yG_9 rfl) rfl hin9 tyX9 tyX9_ok nmX9 32 (by decide) mw_1366 rfl rfl rfl (Nat.le_of_ble_eq_true rfl) (yG_9 rfl) dX9_meets_203 (fun v348 H locs hv348 hP hS => ?_)
                have hI := YI_putN hI hv348 (by decide)
                refine lv_aload_n hE.1 hE.2.1 dX9_meets_206 rfl (lv_at hl 3 rfl) ?_
                refine lv_iload_n hE.1 hE.2.1 dX9_meets_207 rfl (lv_at hl 2 rfl) ?_
                refine x_put (x := iI (w_1 - w_4)) hE hK hN hP hS 0 (by decide) (yG_9 rfl) rfl hin9 tyX9 tyX9_ok nmX9 33 (by decide) mw_1367 rfl rfl rfl (Nat.le_of_ble_eq_true rfl) (yG_9 rfl) dX9_meets_208 (fun v349 H locs hv349 hP hS => ?_)
                have hI := YI_putB (z := w_1 - w_4) hI hv349 (-1) 9 (by omega) (by decide) (by omega)
                refine lv_iconst (v := iI (0)) hE.1 hE.2.1 dX9_meets_211 (by decide) ?_
                refine lv_istore (lv' := [(4, .int (iI (0))), (3, .int (iI (z345))), (2, .int (iI (z5))), (1, .int (iI (w_1 - w_4))), (0, .ref (ad 0))]) hE.1 hE.2.1 dX9_meets_212 hl (by decide) rfl (fun ls hl => ?_)
                have loop350 : ∀ (k350 : Nat) (y350_4 : Int) (vl350 arl350 : sI) (all350 : sL) (H : Heap) (locs : List Loc) (ls : Array Slot), (9 - y350_4).toNat = k350 → (0 ≤ y350_4 ∧ y350_4 ≤ 9) → YI vl350 arl350 → (∀ i j : Nat, (i, j) ∉ ([] : List (Nat × Nat)) → vl350 i j = v349 i j) → (∀ i : Nat, i ∉ ([15] : List Nat) → arl350 i = ar47 i) → (∀ i : Nat, i ∉ ([] : List Nat) → all350 i = al i) → va_P D xcl (wW ad (yG ad K) 21 vl350 arl350 all350) H → va_S (inW ad 21) s.heap H locs → lv_has ls 5 [(4, .int (iI (y350_4))), (3, .int (iI (z345))), (2, .int (iI (z5))), (1, .int (iI (w_1 - w_4))), (0, .ref (ad 0))] → W p l e (rmD 3) s m args below meth c H locs 0 0 Q (F0 m 214 ls []) := by
                  intro k350
                  induction k350 using Nat.strongRecOn with
                  | _ k350 ih350 =>
                    intro y350_4  vl350 arl350 all350 H locs ls hk350 hb_y350_4 hI hfr350 hfa350 hfl350 hP hS hl
                    refine lv_iload hE.1 hE.2.1 dX9_meets_214 (lv_at hl 0 rfl) ?_
                    refine lv_iload_n hE.1 hE.2.1 dX9_meets_216 rfl (lv_at hl 3 rfl) ?_
                    refine s_icmp_ge (a := y350_4) (b := w_1 - w_4) (tgt := 245) hE.1 hE.2.1 (by omega) (by omega) dX9_meets_217 (by decide) (fun c351 => ?_) (fun c351 => ?_)
                    · skip
                      exact kr vl350 arl350 all350 _ _ _ _ ⟨hI, fun i j h => ((hfr350 i j (fun q => h (mem_sub (by decide) q))).trans ((up_oth hv349 (fun q => h (by rcases q with ⟨rfl, rfl⟩; decide))).trans ((up_oth hv348 (fun q => h (by rcases q with ⟨rfl, rfl⟩; decide))).trans ((up_oth hv216 (fun q => h (by rcases q with ⟨rfl, rfl⟩; decide))).trans ((up_oth hv53 (fun q => h (by rcases q with ⟨rfl, rfl⟩; decide))).trans ((up_oth hv50 (fun q => h (by rcases q with ⟨rfl, rfl⟩; decide))).trans (up_oth hv43 (fun q => h (by rcases q with ⟨rfl, rfl⟩; decide))))))))), fun i h => ((hfa350 i (fun q => h (mem_subn (by decide) q))).trans ((upx_ne ha47 i (fun q => h (by rw [q]; decide))).trans (upx_ne ha4 i (fun q => h (by rw [q]; decide))))), fun i h => (hfl350 i (fun q => h (mem_subn (by decide) q)))⟩ hP hS dX9_meets_245
                    · skip
                      refine lv_aload_n hE.1 hE.2.1 dX9_meets_220 rfl (lv_at hl 4 rfl) ?_
                      refine x_get (x := .ref (ad 15)) hE hK hP 0 (by decide) (yG_9 rfl) rfl hin9 34 (by decide) mw_1368 rfl dX9_meets_221 ?_
                      refine lv_iload hE.1 hE.2.1 dX9_meets_224 (lv_at hl 0 rfl) ?_
                      refine lv_aload_n hE.1 hE.2.1 dX9_meets_226 rfl (lv_at hl 4 rfl) ?_
                      refine x_get (x := .ref (ad 12)) hE hK hP 0 (by decide) (yG_9 rfl) rfl hin9 22 (by decide) mw_1356 rfl dX9_meets_227 ?_
                      refine lv_aload_n hE.1 hE.2.1 dX9_meets_230 rfl (lv_at hl 4 rfl) ?_
                      refine x_get (x := .int (vl350 0 31)) hE hK hP 0 (by decide) (yG_9 rfl) rfl hin9 31 (by decide) mw_1365 rfl dX9_meets_231 ?_
                      refine x_top (y := iI (w_4)) ((hfr350 0 31 (by decide)).trans ((up_oth hv349 (by decide)).trans ((up_oth hv348 (by decide)).trans ((up_oth hv216 (by decide)).trans ((up_oth hv53 (by decide)).trans ((up_oth hv50 (by decide)).trans ((up_oth hv43 (by decide)).trans ew_4))))))) ?_
                      refine lv_iload hE.1 hE.2.1 dX9_meets_234 (lv_at hl 0 rfl) ?_
                      refine lv_iadd hE.1 hE.2.1 dX9_meets_236 ?_
                      refine x_top (y := iI (w_4 + y350_4)) ((iI_add (w_4) (y350_4)).trans (congrArg iI (by omega))) ?_
                      refine x_iald (j := iI (w_4 + y350_4)) hE hK hP 12 (by decide) (yG_10 rfl) (iI_in (n := 60) (by omega)) dX9_meets_237 ?_
                      obtain ⟨z353, hz353, ez353⟩ := YI_a12 hI ((iI (w_4 + y350_4)).toNatClampNeg)
                      refine x_top ez353 ?_
                      refine x_iast (j := iI (y350_4)) hE hK hN hP hS 15 (by decide) (fun _ => yG_10 rfl) (iI_in (n := 9) (by omega)) dX9_meets_238 (fun ar354 H locs ha354 hP hS => ?_)
                      have hI := YI_ast hI ha354 (by decide)
                      refine lv_iinc (v := iI (y350_4 + 1)) (lv' := [(4, .int (iI (y350_4 + 1))), (3, .int (iI (z345))), (2, .int (iI (z5))), (1, .int (iI (w_1 - w_4))), (0, .ref (ad 0))]) hE.1 hE.2.1 dX9_meets_239 hl (k := 0) rfl ((iI_add (y350_4) (1)).trans (congrArg iI (by omega))) (by decide) rfl (fun ls hl => ?_)
                      refine lv_goto (tgt := 214) hE.1 hE.2.1 dX9_meets_242 (by decide) ?_
                      exact ih350 _ (by omega) (y350_4 + 1)  vl350 ar354 all350 _ _ _ rfl (by omega)  hI (fun i j h => (hfr350 i j h)) (fun i h => ((upx_ne ha354 i (fun q => h (by rw [q]; decide))).trans (hfa350 i h))) (fun i h => (hfl350 i h)) hP hS (lv_sub hl [0, 1, 2, 3, 4] rfl)
                exact loop350 _ (0)  v349 ar47 al _ _ _ rfl (by omega)  hI (fun _ _ _ => rfl) (fun _ _ => rfl) (fun _ _ => rfl) hP hS hl
              · skip
                refine lv_iload_n hE.1 hE.2.1 dX9_meets_176 rfl (lv_at hl 0 rfl) ?_
                refine lv_aload_n hE.1 hE.2.1 dX9_meets_177 rfl (lv_at hl 3 rfl) ?_
                obtain ⟨z355, hz355, ez355⟩ := iI_of (v216 0 32)
                refine x_get (x := .int (v216 0 32)) hE hK hP 0 (by decide) (yG_9 rfl) rfl hin9 32 (by decide) mw_1366 rfl dX9_meets_178 ?_
                refine x_top (y := iI (z355)) ez355 ?_
                refine s_icmp_lt (a := z345) (b := z355) (tgt := 200) hE.1 hE.2.1 (by omega) (by omega) dX9_meets_181 (by decide) (fun c356 => ?_) (fun c356 => ?_)
                · skip
                  exact kr v216 ar47 al _ _ _ _ ⟨hI, fun i j h => ((up_oth hv216 (fun q => h (by rcases q with ⟨rfl, rfl⟩; decide))).trans ((up_oth hv53 (fun q => h (by rcases q with ⟨rfl, rfl⟩; decide))).trans ((up_oth hv50 (fun q => h (by rcases q with ⟨rfl, rfl⟩; decide))).trans (up_oth hv43 (fun q => h (by rcases q with ⟨rfl, rfl⟩; decide)))))), fun i h => ((upx_ne ha47 i (fun q => h (by rw [q]; decide))).trans (upx_ne ha4 i (fun q => h (by rw [q]; decide)))), fun i h => rfl⟩ hP hS dX9_meets_200
                · skip
                  refine lv_iload_n hE.1 hE.2.1 dX9_meets_184 rfl (lv_at hl 0 rfl) ?_
                  refine lv_aload_n hE.1 hE.2.1 dX9_meets_185 rfl (lv_at hl 3 rfl) ?_
                  refine x_get (x := .int (v216 0 32)) hE hK hP 0 (by decide) (yG_9 rfl) rfl hin9 32 (by decide) mw_1366 rfl dX9_meets_186 ?_
                  refine x_top (y := iI (z355)) ez355 ?_
                  refine s_icmp_ne (a := z345) (b := z355) (tgt := 201) hE.1 hE.2.1 (by omega) (by omega) dX9_meets_189 (by decide) (fun c357 => ?_) (fun c357 => ?_)
                  · skip
                    refine lv_aload_n hE.1 hE.2.1 dX9_meets_201 rfl (lv_at hl 3 rfl) ?_
                    refine lv_iload_n hE.1 hE.2.1 dX9_meets_202 rfl (lv_at hl 0 rfl) ?_
                    refine x_put (x := iI (z345)) hE hK hN hP hS 0 (by decide) (yG_9 rfl) rfl hin9 tyX9 tyX9_ok nmX9 32 (by decide) mw_1366 rfl rfl rfl (Nat.le_of_ble_eq_true rfl) (yG_9 rfl) dX9_meets_203 (fun v358 H locs hv358 hP hS => ?_)
                    have hI := YI_putN hI hv358 (by decide)
                    refine lv_aload_n hE.1 hE.2.1 dX9_meets_206 rfl (lv_at hl 3 rfl) ?_
                    refine lv_iload_n hE.1 hE.2.1 dX9_meets_207 rfl (lv_at hl 2 rfl) ?_
                    refine x_put (x := iI (w_1 - w_4)) hE hK hN hP hS 0 (by decide) (yG_9 rfl) rfl hin9 tyX9 tyX9_ok nmX9 33 (by decide) mw_1367 rfl rfl rfl (Nat.le_of_ble_eq_true rfl) (yG_9 rfl) dX9_meets_208 (fun v359 H locs hv359 hP hS => ?_)
                    have hI := YI_putB (z := w_1 - w_4) hI hv359 (-1) 9 (by omega) (by decide) (by omega)
                    refine lv_iconst (v := iI (0)) hE.1 hE.2.1 dX9_meets_211 (by decide) ?_
                    refine lv_istore (lv' := [(4, .int (iI (0))), (3, .int (iI (z345))), (2, .int (iI (z5))), (1, .int (iI (w_1 - w_4))), (0, .ref (ad 0))]) hE.1 hE.2.1 dX9_meets_212 hl (by decide) rfl (fun ls hl => ?_)
                    have loop360 : ∀ (k360 : Nat) (y360_4 : Int) (vl360 arl360 : sI) (all360 : sL) (H : Heap) (locs : List Loc) (ls : Array Slot), (9 - y360_4).toNat = k360 → (0 ≤ y360_4 ∧ y360_4 ≤ 9) → YI vl360 arl360 → (∀ i j : Nat, (i, j) ∉ ([] : List (Nat × Nat)) → vl360 i j = v359 i j) → (∀ i : Nat, i ∉ ([15] : List Nat) → arl360 i = ar47 i) → (∀ i : Nat, i ∉ ([] : List Nat) → all360 i = al i) → va_P D xcl (wW ad (yG ad K) 21 vl360 arl360 all360) H → va_S (inW ad 21) s.heap H locs → lv_has ls 5 [(4, .int (iI (y360_4))), (3, .int (iI (z345))), (2, .int (iI (z5))), (1, .int (iI (w_1 - w_4))), (0, .ref (ad 0))] → W p l e (rmD 3) s m args below meth c H locs 0 0 Q (F0 m 214 ls []) := by
                      intro k360
                      induction k360 using Nat.strongRecOn with
                      | _ k360 ih360 =>
                        intro y360_4  vl360 arl360 all360 H locs ls hk360 hb_y360_4 hI hfr360 hfa360 hfl360 hP hS hl
                        refine lv_iload hE.1 hE.2.1 dX9_meets_214 (lv_at hl 0 rfl) ?_
                        refine lv_iload_n hE.1 hE.2.1 dX9_meets_216 rfl (lv_at hl 3 rfl) ?_
                        refine s_icmp_ge (a := y360_4) (b := w_1 - w_4) (tgt := 245) hE.1 hE.2.1 (by omega) (by omega) dX9_meets_217 (by decide) (fun c361 => ?_) (fun c361 => ?_)
                        · skip
                          exact kr vl360 arl360 all360 _ _ _ _ ⟨hI, fun i j h => ((hfr360 i j (fun q => h (mem_sub (by decide) q))).trans ((up_oth hv359 (fun q => h (by rcases q with ⟨rfl, rfl⟩; decide))).trans ((up_oth hv358 (fun q => h (by rcases q with ⟨rfl, rfl⟩; decide))).trans ((up_oth hv216 (fun q => h (by rcases q with ⟨rfl, rfl⟩; decide))).trans ((up_oth hv53 (fun q => h (by rcases q with ⟨rfl, rfl⟩; decide))).trans ((up_oth hv50 (fun q => h (by rcases q with ⟨rfl, rfl⟩; decide))).trans (up_oth hv43 (fun q => h (by rcases q with ⟨rfl, rfl⟩; decide))))))))), fun i h => ((hfa360 i (fun q => h (mem_subn (by decide) q))).trans ((upx_ne ha47 i (fun q => h (by rw [q]; decide))).trans (upx_ne ha4 i (fun q => h (by rw [q]; decide))))), fun i h => (hfl360 i (fun q => h (mem_subn (by decide) q)))⟩ hP hS dX9_meets_245
                        · skip
                          refine lv_aload_n hE.1 hE.2.1 dX9_meets_220 rfl (lv_at hl 4 rfl) ?_
                          refine x_get (x := .ref (ad 15)) hE hK hP 0 (by decide) (yG_9 rfl) rfl hin9 34 (by decide) mw_1368 rfl dX9_meets_221 ?_
                          refine lv_iload hE.1 hE.2.1 dX9_meets_224 (lv_at hl 0 rfl) ?_
                          refine lv_aload_n hE.1 hE.2.1 dX9_meets_226 rfl (lv_at hl 4 rfl) ?_
                          refine x_get (x := .ref (ad 12)) hE hK hP 0 (by decide) (yG_9 rfl) rfl hin9 22 (by decide) mw_1356 rfl dX9_meets_227 ?_
                          refine lv_aload_n hE.1 hE.2.1 dX9_meets_230 rfl (lv_at hl 4 rfl) ?_
                          refine x_get (x := .int (vl360 0 31)) hE hK hP 0 (by decide) (yG_9 rfl) rfl hin9 31 (by decide) mw_1365 rfl dX9_meets_231 ?_
                          refine x_top (y := iI (w_4)) ((hfr360 0 31 (by decide)).trans ((up_oth hv359 (by decide)).trans ((up_oth hv358 (by decide)).trans ((up_oth hv216 (by decide)).trans ((up_oth hv53 (by decide)).trans ((up_oth hv50 (by decide)).trans ((up_oth hv43 (by decide)).trans ew_4))))))) ?_
                          refine lv_iload hE.1 hE.2.1 dX9_meets_234 (lv_at hl 0 rfl) ?_
                          refine lv_iadd hE.1 hE.2.1 dX9_meets_236 ?_
                          refine x_top (y := iI (w_4 + y360_4)) ((iI_add (w_4) (y360_4)).trans (congrArg iI (by omega))) ?_
                          refine x_iald (j := iI (w_4 + y360_4)) hE hK hP 12 (by decide) (yG_10 rfl) (iI_in (n := 60) (by omega)) dX9_meets_237 ?_
                          obtain ⟨z363, hz363, ez363⟩ := YI_a12 hI ((iI (w_4 + y360_4)).toNatClampNeg)
                          refine x_top ez363 ?_
                          refine x_iast (j := iI (y360_4)) hE hK hN hP hS 15 (by decide) (fun _ => yG_10 rfl) (iI_in (n := 9) (by omega)) dX9_meets_238 (fun ar364 H locs ha364 hP hS => ?_)
                          have hI := YI_ast hI ha364 (by decide)
                          refine lv_iinc (v := iI (y360_4 + 1)) (lv' := [(4, .int (iI (y360_4 + 1))), (3, .int (iI (z345))), (2, .int (iI (z5))), (1, .int (iI (w_1 - w_4))), (0, .ref (ad 0))]) hE.1 hE.2.1 dX9_meets_239 hl (k := 0) rfl ((iI_add (y360_4) (1)).trans (congrArg iI (by omega))) (by decide) rfl (fun ls hl => ?_)
                          refine lv_goto (tgt := 214) hE.1 hE.2.1 dX9_meets_242 (by decide) ?_
                          exact ih360 _ (by omega) (y360_4 + 1)  vl360 ar364 all360 _ _ _ rfl (by omega)  hI (fun i j h => (hfr360 i j h)) (fun i h => ((upx_ne ha364 i (fun q => h (by rw [q]; decide))).trans (hfa360 i h))) (fun i h => (hfl360 i h)) hP hS (lv_sub hl [0, 1, 2, 3, 4] rfl)
                    exact loop360 _ (0)  v359 ar47 al _ _ _ rfl (by omega)  hI (fun _ _ _ => rfl) (fun _ _ => rfl) (fun _ _ => rfl) hP hS hl
                  · skip
                    refine lv_aload_n hE.1 hE.2.1 dX9_meets_192 rfl (lv_at hl 3 rfl) ?_
                    refine lv_iload_n hE.1 hE.2.1 dX9_meets_193 rfl (lv_at hl 2 rfl) ?_
                    refine x_vp (nn := 1) (As := [.int (iI (w_1 - w_4))]) (rest := []) hE (s_X9_isAhead_e l D K ad v216 ar47 al hI  (w_1 - w_4) (by omega)) wPre_blind (wPre_now hK hN hP) (x_recv hK hP 0 (by decide) (yG_9 rfl) rfl) rfl mw_1818 mw_1820 mw_90 mw_123 mw_1821 (by decide +kernel) ⟨by decide, by decide⟩ hl.1 rfl (Nat.le_of_ble_eq_true rfl) ⟨Nat.zero_le _, Nat.zero_le _⟩ dX9_meets_194 (fun r365 hr365 => ?_)
                    obtain ⟨z365, hz365, rfl⟩ := hr365
                    refine s_if_ne (a := z365) (tgt := 201) hE.1 hE.2.1 (by omega) dX9_meets_197 (by decide) (fun c366 => ?_) (fun c366 => ?_)
                    · skip
                      refine lv_aload_n hE.1 hE.2.1 dX9_meets_201 rfl (lv_at hl 3 rfl) ?_
                      refine lv_iload_n hE.1 hE.2.1 dX9_meets_202 rfl (lv_at hl 0 rfl) ?_
                      refine x_put (x := iI (z345)) hE hK hN hP hS 0 (by decide) (yG_9 rfl) rfl hin9 tyX9 tyX9_ok nmX9 32 (by decide) mw_1366 rfl rfl rfl (Nat.le_of_ble_eq_true rfl) (yG_9 rfl) dX9_meets_203 (fun v367 H locs hv367 hP hS => ?_)
                      have hI := YI_putN hI hv367 (by decide)
                      refine lv_aload_n hE.1 hE.2.1 dX9_meets_206 rfl (lv_at hl 3 rfl) ?_
                      refine lv_iload_n hE.1 hE.2.1 dX9_meets_207 rfl (lv_at hl 2 rfl) ?_
                      refine x_put (x := iI (w_1 - w_4)) hE hK hN hP hS 0 (by decide) (yG_9 rfl) rfl hin9 tyX9 tyX9_ok nmX9 33 (by decide) mw_1367 rfl rfl rfl (Nat.le_of_ble_eq_true rfl) (yG_9 rfl) dX9_meets_208 (fun v368 H locs hv368 hP hS => ?_)
                      have hI := YI_putB (z := w_1 - w_4) hI hv368 (-1) 9 (by omega) (by decide) (by omega)
                      refine lv_iconst (v := iI (0)) hE.1 hE.2.1 dX9_meets_211 (by decide) ?_
                      refine lv_istore (lv' := [(4, .int (iI (0))), (3, .int (iI (z345))), (2, .int (iI (z5))), (1, .int (iI (w_1 - w_4))), (0, .ref (ad 0))]) hE.1 hE.2.1 dX9_meets_212 hl (by decide) rfl (fun ls hl => ?_)
                      have loop369 : ∀ (k369 : Nat) (y369_4 : Int) (vl369 arl369 : sI) (all369 : sL) (H : Heap) (locs : List Loc) (ls : Array Slot), (9 - y369_4).toNat = k369 → (0 ≤ y369_4 ∧ y369_4 ≤ 9) → YI vl369 arl369 → (∀ i j : Nat, (i, j) ∉ ([] : List (Nat × Nat)) → vl369 i j = v368 i j) → (∀ i : Nat, i ∉ ([15] : List Nat) → arl369 i = ar47 i) → (∀ i : Nat, i ∉ ([] : List Nat) → all369 i = al i) → va_P D xcl (wW ad (yG ad K) 21 vl369 arl369 all369) H → va_S (inW ad 21) s.heap H locs → lv_has ls 5 [(4, .int (iI (y369_4))), (3, .int (iI (z345))), (2, .int (iI (z5))), (1, .int (iI (w_1 - w_4))), (0, .ref (ad 0))] → W p l e (rmD 3) s m args below meth c H locs 0 0 Q (F0 m 214 ls []) := by
                        intro k369
                        induction k369 using Nat.strongRecOn with
                        | _ k369 ih369 =>
                          intro y369_4  vl369 arl369 all369 H locs ls hk369 hb_y369_4 hI hfr369 hfa369 hfl369 hP hS hl
                          refine lv_iload hE.1 hE.2.1 dX9_meets_214 (lv_at hl 0 rfl) ?_
                          refine lv_iload_n hE.1 hE.2.1 dX9_meets_216 rfl (lv_at hl 3 rfl) ?_
                          refine s_icmp_ge (a := y369_4) (b := w_1 - w_4) (tgt := 245) hE.1 hE.2.1 (by omega) (by omega) dX9_meets_217 (by decide) (fun c370 => ?_) (fun c370 => ?_)
                          · skip
                            exact kr vl369 arl369 all369 _ _ _ _ ⟨hI, fun i j h => ((hfr369 i j (fun q => h (mem_sub (by decide) q))).trans ((up_oth hv368 (fun q => h (by rcases q with ⟨rfl, rfl⟩; decide))).trans ((up_oth hv367 (fun q => h (by rcases q with ⟨rfl, rfl⟩; decide))).trans ((up_oth hv216 (fun q => h (by rcases q with ⟨rfl, rfl⟩; decide))).trans ((up_oth hv53 (fun q => h (by rcases q with ⟨rfl, rfl⟩; decide))).trans ((up_oth hv50 (fun q => h (by rcases q with ⟨rfl, rfl⟩; decide))).trans (up_oth hv43 (fun q => h (by rcases q with ⟨rfl, rfl⟩; decide))))))))), fun i h => ((hfa369 i (fun q => h (mem_subn (by decide) q))).trans ((upx_ne ha47 i (fun q => h (by rw [q]; decide))).trans (upx_ne ha4 i (fun q => h (by rw [q]; decide))))), fun i h => (hfl369 i (fun q => h (mem_subn (by decide) q)))⟩ hP hS dX9_meets_245
                          · skip
                            refine lv_aload_n hE.1 hE.2.1 dX9_meets_220 rfl (lv_at hl 4 rfl) ?_
                            refine x_get (x := .ref (ad 15)) hE hK hP 0 (by decide) (yG_9 rfl) rfl hin9 34 (by decide) mw_1368 rfl dX9_meets_221 ?_
                            refine lv_iload hE.1 hE.2.1 dX9_meets_224 (lv_at hl 0 rfl) ?_
                            refine lv_aload_n hE.1 hE.2.1 dX9_meets_226 rfl (lv_at hl 4 rfl) ?_
                            refine x_get (x := .ref (ad 12)) hE hK hP 0 (by decide) (yG_9 rfl) rfl hin9 22 (by decide) mw_1356 rfl dX9_meets_227 ?_
                            refine lv_aload_n hE.1 hE.2.1 dX9_meets_230 rfl (lv_at hl 4 rfl) ?_
                            refine x_get (x := .int (vl369 0 31)) hE hK hP 0 (by decide) (yG_9 rfl) rfl hin9 31 (by decide) mw_1365 rfl dX9_meets_231 ?_
                            refine x_top (y := iI (w_4)) ((hfr369 0 31 (by decide)).trans ((up_oth hv368 (by decide)).trans ((up_oth hv367 (by decide)).trans ((up_oth hv216 (by decide)).trans ((up_oth hv53 (by decide)).trans ((up_oth hv50 (by decide)).trans ((up_oth hv43 (by decide)).trans ew_4))))))) ?_
                            refine lv_iload hE.1 hE.2.1 dX9_meets_234 (lv_at hl 0 rfl) ?_
                            refine lv_iadd hE.1 hE.2.1 dX9_meets_236 ?_
                            refine x_top (y := iI (w_4 + y369_4)) ((iI_add (w_4) (y369_4)).trans (congrArg iI (by omega))) ?_
                            refine x_iald (j := iI (w_4 + y369_4)) hE hK hP 12 (by decide) (yG_10 rfl) (iI_in (n := 60) (by omega)) dX9_meets_237 ?_
                            obtain ⟨z372, hz372, ez372⟩ := YI_a12 hI ((iI (w_4 + y369_4)).toNatClampNeg)
                            refine x_top ez372 ?_
                            refine x_iast (j := iI (y369_4)) hE hK hN hP hS 15 (by decide) (fun _ => yG_10 rfl) (iI_in (n := 9) (by omega)) dX9_meets_238 (fun ar373 H locs ha373 hP hS => ?_)
                            have hI := YI_ast hI ha373 (by decide)
                            refine lv_iinc (v := iI (y369_4 + 1)) (lv' := [(4, .int (iI (y369_4 + 1))), (3, .int (iI (z345))), (2, .int (iI (z5))), (1, .int (iI (w_1 - w_4))), (0, .ref (ad 0))]) hE.1 hE.2.1 dX9_meets_239 hl (k := 0) rfl ((iI_add (y369_4) (1)).trans (congrArg iI (by omega))) (by decide) rfl (fun ls hl => ?_)
                            refine lv_goto (tgt := 214) hE.1 hE.2.1 dX9_meets_242 (by decide) ?_
                            exact ih369 _ (by omega) (y369_4 + 1)  vl369 ar373 all369 _ _ _ rfl (by omega)  hI (fun i j h => (hfr369 i j h)) (fun i h => ((upx_ne ha373 i (fun q => h (by rw [q]; decide))).trans (hfa369 i h))) (fun i h => (hfl369 i h)) hP hS (lv_sub hl [0, 1, 2, 3, 4] rfl)
                      exact loop369 _ (0)  v368 ar47 al _ _ _ rfl (by omega)  hI (fun _ _ _ => rfl) (fun _ _ => rfl) (fun _ _ => rfl) hP hS hl
                    · skip
                      exact kr v216 ar47 al _ _ _ _ ⟨hI, fun i j h => ((up_oth hv216 (fun q => h (by rcases q with ⟨rfl, rfl⟩; decide))).trans ((up_oth hv53 (fun q => h (by rcases q with ⟨rfl, rfl⟩; decide))).trans ((up_oth hv50 (fun q => h (by rcases q with ⟨rfl, rfl⟩; decide))).trans (up_oth hv43 (fun q => h (by rcases q with ⟨rfl, rfl⟩; decide)))))), fun i h => ((upx_ne ha47 i (fun q => h (by rw [q]; decide))).trans (upx_ne ha4 i (fun q => h (by rw [q]; decide)))), fun i h => rfl⟩ hP hS dX9_meets_200
            · skip
              exact kr v216 ar47 al _ _ _ _ ⟨hI, fun i j h => ((up_oth hv216 (fun q => h (by rcases q with ⟨rfl, rfl⟩; decide))).trans ((up_oth hv53 (fun q => h (by rcases q with ⟨rfl, rfl⟩; decide))).trans ((up_oth hv50 (fun q => h (by rcases q with ⟨rfl, rfl⟩; decide))).trans (up_oth hv43 (fun q => h (by rcases q with ⟨rfl, rfl⟩; decide)))))), fun i h => ((upx_ne ha47 i (fun q => h (by rw [q]; decide))).trans (upx_ne ha4 i (fun q => h (by rw [q]; decide)))), fun i h => rfl⟩ hP hS dX9_meets_137
      · skip
        refine lv_iconst (v := iI (1)) hE.1 hE.2.1 dX9_meets_98 (by decide) ?_
        refine lv_goto (tgt := 103) hE.1 hE.2.1 dX9_meets_99 (by decide) ?_
        refine lv_iadd hE.1 hE.2.1 dX9_meets_103 ?_
        obtain ⟨z374, hz374, ez374⟩ := iI_of (iI (z54) + iI (1))
        refine x_top ez374 ?_
        refine x_put (x := iI (z374)) hE hK hN hP hS 0 (by decide) (yG_9 rfl) rfl hin9 tyX9 tyX9_ok nmX9 40 (by decide) mw_1374 rfl rfl rfl (Nat.le_of_ble_eq_true rfl) (yG_9 rfl) dX9_meets_104 (fun v375 H locs hv375 hP hS => ?_)
        have hI := YI_putN hI hv375 (by decide)
        refine lv_aload_n hE.1 hE.2.1 dX9_meets_107 rfl (lv_at hl 2 rfl) ?_
        obtain ⟨z376, hz376, ez376⟩ := iI_of (v375 0 29)
        refine x_get (x := .int (v375 0 29)) hE hK hP 0 (by decide) (yG_9 rfl) rfl hin9 29 (by decide) mw_1363 rfl dX9_meets_108 ?_
        refine x_top (y := iI (z376)) ez376 ?_
        refine s_if_eq (a := z376) (tgt := 118) hE.1 hE.2.1 (by omega) dX9_meets_111 (by decide) (fun c377 => ?_) (fun c377 => ?_)
        · skip
          refine lv_aload_n hE.1 hE.2.1 dX9_meets_118 rfl (lv_at hl 2 rfl) ?_
          refine x_get (x := .int (v375 0 29)) hE hK hP 0 (by decide) (yG_9 rfl) rfl hin9 29 (by decide) mw_1363 rfl dX9_meets_119 ?_
          refine x_top (y := iI (z376)) ez376 ?_
          refine lv_iconst (v := iI (3)) hE.1 hE.2.1 dX9_meets_122 (by decide) ?_
          refine s_icmp_ne (a := z376) (b := 3) (tgt := 138) hE.1 hE.2.1 (by omega) (by omega) dX9_meets_123 (by decide) (fun _ => ?_) (fun c378 => False.elim (by omega))
          refine lv_aload_n hE.1 hE.2.1 dX9_meets_138 rfl (lv_at hl 2 rfl) ?_
          refine x_get (x := .int (v375 0 29)) hE hK hP 0 (by decide) (yG_9 rfl) rfl hin9 29 (by decide) mw_1363 rfl dX9_meets_139 ?_
          refine x_top (y := iI (z376)) ez376 ?_
          refine lv_iconst (v := iI (2)) hE.1 hE.2.1 dX9_meets_142 (by decide) ?_
          refine s_icmp_ne (a := z376) (b := 2) (tgt := 153) hE.1 hE.2.1 (by omega) (by omega) dX9_meets_143 (by decide) (fun _ => ?_) (fun c379 => False.elim (by omega))
          refine lv_aload_n hE.1 hE.2.1 dX9_meets_153 rfl (lv_at hl 2 rfl) ?_
          refine x_get (x := .int (v375 0 29)) hE hK hP 0 (by decide) (yG_9 rfl) rfl hin9 29 (by decide) mw_1363 rfl dX9_meets_154 ?_
          refine x_top (y := iI (z376)) ez376 ?_
          refine lv_iconst (v := iI (3)) hE.1 hE.2.1 dX9_meets_157 (by decide) ?_
          refine s_icmp_ne (a := z376) (b := 3) (tgt := 166) hE.1 hE.2.1 (by omega) (by omega) dX9_meets_158 (by decide) (fun _ => ?_) (fun c380 => False.elim (by omega))
          refine lv_iload_n hE.1 hE.2.1 dX9_meets_166 rfl (lv_at hl 1 rfl) ?_
          refine lv_istore_n (lv' := [(3, .int (iI (w_1 - w_4))), (2, .int (iI (z5))), (1, .int (iI (w_1 - w_4))), (0, .ref (ad 0))]) hE.1 hE.2.1 dX9_meets_167 rfl hl (by decide) rfl (fun ls hl => ?_)
          refine lv_aload_n hE.1 hE.2.1 dX9_meets_168 rfl (lv_at hl 3 rfl) ?_
          obtain ⟨z381, hz381, ez381⟩ := YI_get hI 0 33 (-1) 9 (by decide)
          refine x_get (x := .int (v375 0 33)) hE hK hP 0 (by decide) (yG_9 rfl) rfl hin9 33 (by decide) mw_1367 rfl dX9_meets_169 ?_
          refine x_top (y := iI (z381)) ez381 ?_
          refine lv_iconst (v := iI (-1)) hE.1 hE.2.1 dX9_meets_172 (by decide) ?_
          refine s_icmp_eq (a := z381) (b := -1) (tgt := 201) hE.1 hE.2.1 (by omega) (by omega) dX9_meets_173 (by decide) (fun c382 => ?_) (fun c382 => ?_)
          · skip
            refine lv_aload_n hE.1 hE.2.1 dX9_meets_201 rfl (lv_at hl 3 rfl) ?_
            refine lv_iload_n hE.1 hE.2.1 dX9_meets_202 rfl (lv_at hl 0 rfl) ?_
            refine x_put (x := iI (w_1 - w_4)) hE hK hN hP hS 0 (by decide) (yG_9 rfl) rfl hin9 tyX9 tyX9_ok nmX9 32 (by decide) mw_1366 rfl rfl rfl (Nat.le_of_ble_eq_true rfl) (yG_9 rfl) dX9_meets_203 (fun v383 H locs hv383 hP hS => ?_)
            have hI := YI_putN hI hv383 (by decide)
            refine lv_aload_n hE.1 hE.2.1 dX9_meets_206 rfl (lv_at hl 3 rfl) ?_
            refine lv_iload_n hE.1 hE.2.1 dX9_meets_207 rfl (lv_at hl 2 rfl) ?_
            refine x_put (x := iI (w_1 - w_4)) hE hK hN hP hS 0 (by decide) (yG_9 rfl) rfl hin9 tyX9 tyX9_ok nmX9 33 (by decide) mw_1367 rfl rfl rfl (Nat.le_of_ble_eq_true rfl) (yG_9 rfl) dX9_meets_208 (fun v384 H locs hv384 hP hS => ?_)
            have hI := YI_putB (z := w_1 - w_4) hI hv384 (-1) 9 (by omega) (by decide) (by omega)
            refine lv_iconst (v := iI (0)) hE.1 hE.2.1 dX9_meets_211 (by decide) ?_
            refine lv_istore (lv' := [(4, .int (iI (0))), (3, .int (iI (w_1 - w_4))), (2, .int (iI (z5))), (1, .int (iI (w_1 - w_4))), (0, .ref (ad 0))]) hE.1 hE.2.1 dX9_meets_212 hl (by decide) rfl (fun ls hl => ?_)
            have loop385 : ∀ (k385 : Nat) (y385_4 : Int) (vl385 arl385 : sI) (all385 : sL) (H : Heap) (locs : List Loc) (ls : Array Slot), (9 - y385_4).toNat = k385 → (0 ≤ y385_4 ∧ y385_4 ≤ 9) → YI vl385 arl385 → (∀ i j : Nat, (i, j) ∉ ([] : List (Nat × Nat)) → vl385 i j = v384 i j) → (∀ i : Nat, i ∉ ([15] : List Nat) → arl385 i = ar47 i) → (∀ i : Nat, i ∉ ([] : List Nat) → all385 i = al i) → va_P D xcl (wW ad (yG ad K) 21 vl385 arl385 all385) H → va_S (inW ad 21) s.heap H locs → lv_has ls 5 [(4, .int (iI (y385_4))), (3, .int (iI (w_1 - w_4))), (2, .int (iI (z5))), (1, .int (iI (w_1 - w_4))), (0, .ref (ad 0))] → W p l e (rmD 3) s m args below meth c H locs 0 0 Q (F0 m 214 ls []) := by
              intro k385
              induction k385 using Nat.strongRecOn with
              | _ k385 ih385 =>
                intro y385_4  vl385 arl385 all385 H locs ls hk385 hb_y385_4 hI hfr385 hfa385 hfl385 hP hS hl
                refine lv_iload hE.1 hE.2.1 dX9_meets_214 (lv_at hl 0 rfl) ?_
                refine lv_iload_n hE.1 hE.2.1 dX9_meets_216 rfl (lv_at hl 3 rfl) ?_
                refine s_icmp_ge (a := y385_4) (b := w_1 - w_4) (tgt := 245) hE.1 hE.2.1 (by omega) (by omega) dX9_meets_217 (by decide) (fun c386 => ?_) (fun c386 => ?_)
                · skip
                  exact kr vl385 arl385 all385 _ _ _ _ ⟨hI, fun i j h => ((hfr385 i j (fun q => h (mem_sub (by decide) q))).trans ((up_oth hv384 (fun q => h (by rcases q with ⟨rfl, rfl⟩; decide))).trans ((up_oth hv383 (fun q => h (by rcases q with ⟨rfl, rfl⟩; decide))).trans ((up_oth hv375 (fun q => h (by rcases q with ⟨rfl, rfl⟩; decide))).trans ((up_oth hv53 (fun q => h (by rcases q with ⟨rfl, rfl⟩; decide))).trans ((up_oth hv50 (fun q => h (by rcases q with ⟨rfl, rfl⟩; decide))).trans (up_oth hv43 (fun q => h (by rcases q with ⟨rfl, rfl⟩; decide))))))))), fun i h => ((hfa385 i (fun q => h (mem_subn (by decide) q))).trans ((upx_ne ha47 i (fun q => h (by rw [q]; decide))).trans (upx_ne ha4 i (fun q => h (by rw [q]; decide))))), fun i h => (hfl385 i (fun q => h (mem_subn (by decide) q)))⟩ hP hS dX9_meets_245
                · skip
                  refine lv_aload_n hE.1 hE.2.1 dX9_meets_220 rfl (lv_at hl 4 rfl) ?_
                  refine x_get (x := .ref (ad 15)) hE hK hP 0 (by decide) (yG_9 rfl) rfl hin9 34 (by decide) mw_1368 rfl dX9_meets_221 ?_
                  refine lv_iload hE.1 hE.2.1 dX9_meets_224 (lv_at hl 0 rfl) ?_
                  refine lv_aload_n hE.1 hE.2.1 dX9_meets_226 rfl (lv_at hl 4 rfl) ?_
                  refine x_get (x := .ref (ad 12)) hE hK hP 0 (by decide) (yG_9 rfl) rfl hin9 22 (by decide) mw_1356 rfl dX9_meets_227 ?_
                  refine lv_aload_n hE.1 hE.2.1 dX9_meets_230 rfl (lv_at hl 4 rfl) ?_
                  refine x_get (x := .int (vl385 0 31)) hE hK hP 0 (by decide) (yG_9 rfl) rfl hin9 31 (by decide) mw_1365 rfl dX9_meets_231 ?_
                  refine x_top (y := iI (w_4)) ((hfr385 0 31 (by decide)).trans ((up_oth hv384 (by decide)).trans ((up_oth hv383 (by decide)).trans ((up_oth hv375 (by decide)).trans ((up_oth hv53 (by decide)).trans ((up_oth hv50 (by decide)).trans ((up_oth hv43 (by decide)).trans ew_4))))))) ?_
                  refine lv_iload hE.1 hE.2.1 dX9_meets_234 (lv_at hl 0 rfl) ?_
                  refine lv_iadd hE.1 hE.2.1 dX9_meets_236 ?_
                  refine x_top (y := iI (w_4 + y385_4)) ((iI_add (w_4) (y385_4)).trans (congrArg iI (by omega))) ?_
                  refine x_iald (j := iI (w_4 + y385_4)) hE hK hP 12 (by decide) (yG_10 rfl) (iI_in (n := 60) (by omega)) dX9_meets_237 ?_
                  obtain ⟨z388, hz388, ez388⟩ := YI_a12 hI ((iI (w_4 + y385_4)).toNatClampNeg)
                  refine x_top ez388 ?_
                  refine x_iast (j := iI (y385_4)) hE hK hN hP hS 15 (by decide) (fun _ => yG_10 rfl) (iI_in (n := 9) (by omega)) dX9_meets_238 (fun ar389 H locs ha389 hP hS => ?_)
                  have hI := YI_ast hI ha389 (by decide)
                  refine lv_iinc (v := iI (y385_4 + 1)) (lv' := [(4, .int (iI (y385_4 + 1))), (3, .int (iI (w_1 - w_4))), (2, .int (iI (z5))), (1, .int (iI (w_1 - w_4))), (0, .ref (ad 0))]) hE.1 hE.2.1 dX9_meets_239 hl (k := 0) rfl ((iI_add (y385_4) (1)).trans (congrArg iI (by omega))) (by decide) rfl (fun ls hl => ?_)
                  refine lv_goto (tgt := 214) hE.1 hE.2.1 dX9_meets_242 (by decide) ?_
                  exact ih385 _ (by omega) (y385_4 + 1)  vl385 ar389 all385 _ _ _ rfl (by omega)  hI (fun i j h => (hfr385 i j h)) (fun i h => ((upx_ne ha389 i (fun q => h (by rw [q]; decide))).trans (hfa385 i h))) (fun i h => (hfl385 i h)) hP hS (lv_sub hl [0, 1, 2, 3, 4] rfl)
            exact loop385 _ (0)  v384 ar47 al _ _ _ rfl (by omega)  hI (fun _ _ _ => rfl) (fun _ _ => rfl) (fun _ _ => rfl) hP hS hl
          · skip
            refine lv_iload_n hE.1 hE.2.1 dX9_meets_176 rfl (lv_at hl 0 rfl) ?_
            refine lv_aload_n hE.1 hE.2.1 dX9_meets_177 rfl (lv_at hl 3 rfl) ?_
            obtain ⟨z390, hz390, ez390⟩ := iI_of (v375 0 32)
            refine x_get (x := .int (v375 0 32)) hE hK hP 0 (by decide) (yG_9 rfl) rfl hin9 32 (by decide) mw_1366 rfl dX9_meets_178 ?_
            refine x_top (y := iI (z390)) ez390 ?_
            refine s_icmp_lt (a := w_1 - w_4) (b := z390) (tgt := 200) hE.1 hE.2.1 (by omega) (by omega) dX9_meets_181 (by decide) (fun c391 => ?_) (fun c391 => ?_)
            · skip
              exact kr v375 ar47 al _ _ _ _ ⟨hI, fun i j h => ((up_oth hv375 (fun q => h (by rcases q with ⟨rfl, rfl⟩; decide))).trans ((up_oth hv53 (fun q => h (by rcases q with ⟨rfl, rfl⟩; decide))).trans ((up_oth hv50 (fun q => h (by rcases q with ⟨rfl, rfl⟩; decide))).trans (up_oth hv43 (fun q => h (by rcases q with ⟨rfl, rfl⟩; decide)))))), fun i h => ((upx_ne ha47 i (fun q => h (by rw [q]; decide))).trans (upx_ne ha4 i (fun q => h (by rw [q]; decide)))), fun i h => rfl⟩ hP hS dX9_meets_200
            · skip
              refine lv_iload_n hE.1 hE.2.1 dX9_meets_184 rfl (lv_at hl 0 rfl) ?_
              refine lv_aload_n hE.1 hE.2.1 dX9_meets_185 rfl (lv_at hl 3 rfl) ?_
              refine x_get (x := .int (v375 0 32)) hE hK hP 0 (by decide) (yG_9 rfl) rfl hin9 32 (by decide) mw_1366 rfl dX9_meets_186 ?_
              refine x_top (y := iI (z390)) ez390 ?_
              refine s_icmp_ne (a := w_1 - w_4) (b := z390) (tgt := 201) hE.1 hE.2.1 (by omega) (by omega) dX9_meets_189 (by decide) (fun c392 => ?_) (fun c392 => ?_)
              · skip
                refine lv_aload_n hE.1 hE.2.1 dX9_meets_201 rfl (lv_at hl 3 rfl) ?_
                refine lv_iload_n hE.1 hE.2.1 dX9_meets_202 rfl (lv_at hl 0 rfl) ?_
                refine x_put (x := iI (w_1 - w_4)) hE hK hN hP hS 0 (by decide) (yG_9 rfl) rfl hin9 tyX9 tyX9_ok nmX9 32 (by decide) mw_1366 rfl rfl rfl (Nat.le_of_ble_eq_true rfl) (yG_9 rfl) dX9_meets_203 (fun v393 H locs hv393 hP hS => ?_)
                have hI := YI_putN hI hv393 (by decide)
                refine lv_aload_n hE.1 hE.2.1 dX9_meets_206 rfl (lv_at hl 3 rfl) ?_
                refine lv_iload_n hE.1 hE.2.1 dX9_meets_207 rfl (lv_at hl 2 rfl) ?_
                refine x_put (x := iI (w_1 - w_4)) hE hK hN hP hS 0 (by decide) (yG_9 rfl) rfl hin9 tyX9 tyX9_ok nmX9 33 (by decide) mw_1367 rfl rfl rfl (Nat.le_of_ble_eq_true rfl) (yG_9 rfl) dX9_meets_208 (fun v394 H locs hv394 hP hS => ?_)
                have hI := YI_putB (z := w_1 - w_4) hI hv394 (-1) 9 (by omega) (by decide) (by omega)
                refine lv_iconst (v := iI (0)) hE.1 hE.2.1 dX9_meets_211 (by decide) ?_
                refine lv_istore (lv' := [(4, .int (iI (0))), (3, .int (iI (w_1 - w_4))), (2, .int (iI (z5))), (1, .int (iI (w_1 - w_4))), (0, .ref (ad 0))]) hE.1 hE.2.1 dX9_meets_212 hl (by decide) rfl (fun ls hl => ?_)
                have loop395 : ∀ (k395 : Nat) (y395_4 : Int) (vl395 arl395 : sI) (all395 : sL) (H : Heap) (locs : List Loc) (ls : Array Slot), (9 - y395_4).toNat = k395 → (0 ≤ y395_4 ∧ y395_4 ≤ 9) → YI vl395 arl395 → (∀ i j : Nat, (i, j) ∉ ([] : List (Nat × Nat)) → vl395 i j = v394 i j) → (∀ i : Nat, i ∉ ([15] : List Nat) → arl395 i = ar47 i) → (∀ i : Nat, i ∉ ([] : List Nat) → all395 i = al i) → va_P D xcl (wW ad (yG ad K) 21 vl395 arl395 all395) H → va_S (inW ad 21) s.heap H locs → lv_has ls 5 [(4, .int (iI (y395_4))), (3, .int (iI (w_1 - w_4))), (2, .int (iI (z5))), (1, .int (iI (w_1 - w_4))), (0, .ref (ad 0))] → W p l e (rmD 3) s m args below meth c H locs 0 0 Q (F0 m 214 ls []) := by
                  intro k395
                  induction k395 using Nat.strongRecOn with
                  | _ k395 ih395 =>
                    intro y395_4  vl395 arl395 all395 H locs ls hk395 hb_y395_4 hI hfr395 hfa395 hfl395 hP hS hl
                    refine lv_iload hE.1 hE.2.1 dX9_meets_214 (lv_at hl 0 rfl) ?_
                    refine lv_iload_n hE.1 hE.2.1 dX9_meets_216 rfl (lv_at hl 3 rfl) ?_
                    refine s_icmp_ge (a := y395_4) (b := w_1 - w_4) (tgt := 245) hE.1 hE.2.1 (by omega) (by omega) dX9_meets_217 (by decide) (fun c396 => ?_) (fun c396 => ?_)
                    · skip
                      exact kr vl395 arl395 all395 _ _ _ _ ⟨hI, fun i j h => ((hfr395 i j (fun q => h (mem_sub (by decide) q))).trans ((up_oth hv394 (fun q => h (by rcases q with ⟨rfl, rfl⟩; decide))).trans ((up_oth hv393 (fun q => h (by rcases q with ⟨rfl, rfl⟩; decide))).trans ((up_oth hv375 (fun q => h (by rcases q with ⟨rfl, rfl⟩; decide))).trans ((up_oth hv53 (fun q => h (by rcases q with ⟨rfl, rfl⟩; decide))).trans ((up_oth hv50 (fun q => h (by rcases q with ⟨rfl, rfl⟩; decide))).trans (up_oth hv43 (fun q => h (by rcases q with ⟨rfl, rfl⟩; decide))))))))), fun i h => ((hfa395 i (fun q => h (mem_subn (by decide) q))).trans ((upx_ne ha47 i (fun q => h (by rw [q]; decide))).trans (upx_ne ha4 i (fun q => h (by rw [q]; decide))))), fun i h => (hfl395 i (fun q => h (mem_subn (by decide) q)))⟩ hP hS dX9_meets_245
                    · skip
                      refine lv_aload_n hE.1 hE.2.1 dX9_meets_220 rfl (lv_at hl 4 rfl) ?_
                      refine x_get (x := .ref (ad 15)) hE hK hP 0 (by decide) (yG_9 rfl) rfl hin9 34 (by decide) mw_1368 rfl dX9_meets_221 ?_
                      refine lv_iload hE.1 hE.2.1 dX9_meets_224 (lv_at hl 0 rfl) ?_
                      refine lv_aload_n hE.1 hE.2.1 dX9_meets_226 rfl (lv_at hl 4 rfl) ?_
                      refine x_get (x := .ref (ad 12)) hE hK hP 0 (by decide) (yG_9 rfl) rfl hin9 22 (by decide) mw_1356 rfl dX9_meets_227 ?_
                      refine lv_aload_n hE.1 hE.2.1 dX9_meets_230 rfl (lv_at hl 4 rfl) ?_
                      refine x_get (x := .int (vl395 0 31)) hE hK hP 0 (by decide) (yG_9 rfl) rfl hin9 31 (by decide) mw_1365 rfl dX9_meets_231 ?_
                      refine x_top (y := iI (w_4)) ((hfr395 0 31 (by decide)).trans ((up_oth hv394 (by decide)).trans ((up_oth hv393 (by decide)).trans ((up_oth hv375 (by decide)).trans ((up_oth hv53 (by decide)).trans ((up_oth hv50 (by decide)).trans ((up_oth hv43 (by decide)).trans ew_4))))))) ?_
                      refine lv_iload hE.1 hE.2.1 dX9_meets_234 (lv_at hl 0 rfl) ?_
                      refine lv_iadd hE.1 hE.2.1 dX9_meets_236 ?_
                      refine x_top (y := iI (w_4 + y395_4)) ((iI_add (w_4) (y395_4)).trans (congrArg iI (by omega))) ?_
                      refine x_iald (j := iI (w_4 + y395_4)) hE hK hP 12 (by decide) (yG_10 rfl) (iI_in (n := 60) (by omega)) dX9_meets_237 ?_
                      obtain ⟨z398, hz398, ez398⟩ := YI_a12 hI ((iI (w_4 + y395_4)).toNatClampNeg)
                      refine x_top ez398 ?_
                      refine x_iast (j := iI (y395_4)) hE hK hN hP hS 15 (by decide) (fun _ => yG_10 rfl) (iI_in (n := 9) (by omega)) dX9_meets_238 (fun ar399 H locs ha399 hP hS => ?_)
                      have hI := YI_ast hI ha399 (by decide)
                      refine lv_iinc (v := iI (y395_4 + 1)) (lv' := [(4, .int (iI (y395_4 + 1))), (3, .int (iI (w_1 - w_4))), (2, .int (iI (z5))), (1, .int (iI (w_1 - w_4))), (0, .ref (ad 0))]) hE.1 hE.2.1 dX9_meets_239 hl (k := 0) rfl ((iI_add (y395_4) (1)).trans (congrArg iI (by omega))) (by decide) rfl (fun ls hl => ?_)
                      refine lv_goto (tgt := 214) hE.1 hE.2.1 dX9_meets_242 (by decide) ?_
                      exact ih395 _ (by omega) (y395_4 + 1)  vl395 ar399 all395 _ _ _ rfl (by omega)  hI (fun i j h => (hfr395 i j h)) (fun i h => ((upx_ne ha399 i (fun q => h (by rw [q]; decide))).trans (hfa395 i h))) (fun i h => (hfl395 i h)) hP hS (lv_sub hl [0, 1, 2, 3, 4] rfl)
                exact loop395 _ (0)  v394 ar47 al _ _ _ rfl (by omega)  hI (fun _ _ _ => rfl) (fun _ _ => rfl) (fun _ _ => rfl) hP hS hl
              · skip
                refine lv_aload_n hE.1 hE.2.1 dX9_meets_192 rfl (lv_at hl 3 rfl) ?_
                refine lv_iload_n hE.1 hE.2.1 dX9_meets_193 rfl (lv_at hl 2 rfl) ?_
                refine x_vp (nn := 1) (As := [.int (iI (w_1 - w_4))]) (rest := []) hE (s_X9_isAhead_e l D K ad v375 ar47 al hI  (w_1 - w_4) (by omega)) wPre_blind (wPre_now hK hN hP) (x_recv hK hP 0 (by decide) (yG_9 rfl) rfl) rfl mw_1818 mw_1820 mw_90 mw_123 mw_1821 (by decide +kernel) ⟨by decide, by decide⟩ hl.1 rfl (Nat.le_of_ble_eq_true rfl) ⟨Nat.zero_le _, Nat.zero_le _⟩ dX9_meets_194 (fun r400 hr400 => ?_)
                obtain ⟨z400, hz400, rfl⟩ := hr400
                refine s_if_ne (a := z400) (tgt := 201) hE.1 hE.2.1 (by omega) dX9_meets_197 (by decide) (fun c401 => ?_) (fun c401 => ?_)
                · skip
                  refine lv_aload_n hE.1 hE.2.1 dX9_meets_201 rfl (lv_at hl 3 rfl) ?_
                  refine lv_iload_n hE.1 hE.2.1 dX9_meets_202 rfl (lv_at hl 0 rfl) ?_
                  refine x_put (x := iI (w_1 - w_4)) hE hK hN hP hS 0 (by decide) (yG_9 rfl) rfl hin9 tyX9 tyX9_ok nmX9 32 (by decide) mw_1366 rfl rfl rfl (Nat.le_of_ble_eq_true rfl) (yG_9 rfl) dX9_meets_203 (fun v402 H locs hv402 hP hS => ?_)
                  have hI := YI_putN hI hv402 (by decide)
                  refine lv_aload_n hE.1 hE.2.1 dX9_meets_206 rfl (lv_at hl 3 rfl) ?_
                  refine lv_iload_n hE.1 hE.2.1 dX9_meets_207 rfl (lv_at hl 2 rfl) ?_
                  refine x_put (x := iI (w_1 - w_4)) hE hK hN hP hS 0 (by decide) (yG_9 rfl) rfl hin9 tyX9 tyX9_ok nmX9 33 (by decide) mw_1367 rfl rfl rfl (Nat.le_of_ble_eq_true rfl) (yG_9 rfl) dX9_meets_208 (fun v403 H locs hv403 hP hS => ?_)
                  have hI := YI_putB (z := w_1 - w_4) hI hv403 (-1) 9 (by omega) (by decide) (by omega)
                  refine lv_iconst (v := iI (0)) hE.1 hE.2.1 dX9_meets_211 (by decide) ?_
                  refine lv_istore (lv' := [(4, .int (iI (0))), (3, .int (iI (w_1 - w_4))), (2, .int (iI (z5))), (1, .int (iI (w_1 - w_4))), (0, .ref (ad 0))]) hE.1 hE.2.1 dX9_meets_212 hl (by decide) rfl (fun ls hl => ?_)
                  have loop404 : ∀ (k404 : Nat) (y404_4 : Int) (vl404 arl404 : sI) (all404 : sL) (H : Heap) (locs : List Loc) (ls : Array Slot), (9 - y404_4).toNat = k404 → (0 ≤ y404_4 ∧ y404_4 ≤ 9) → YI vl404 arl404 → (∀ i j : Nat, (i, j) ∉ ([] : List (Nat × Nat)) → vl404 i j = v403 i j) → (∀ i : Nat, i ∉ ([15] : List Nat) → arl404 i = ar47 i) → (∀ i : Nat, i ∉ ([] : List Nat) → all404 i = al i) → va_P D xcl (wW ad (yG ad K) 21 vl404 arl404 all404) H → va_S (inW ad 21) s.heap H locs → lv_has ls 5 [(4, .int (iI (y404_4))), (3, .int (iI (w_1 - w_4))), (2, .int (iI (z5))), (1, .int (iI (w_1 - w_4))), (0, .ref (ad 0))] → W p l e (rmD 3) s m args below meth c H locs 0 0 Q (F0 m 214 ls []) := by
                    intro k404
                    induction k404 using Nat.strongRecOn with
                    | _ k404 ih404 =>
                      intro y404_4  vl404 arl404 all404 H locs ls hk404 hb_y404_4 hI hfr404 hfa404 hfl404 hP hS hl
                      refine lv_iload hE.1 hE.2.1 dX9_meets_214 (lv_at hl 0 rfl) ?_
                      refine lv_iload_n hE.1 hE.2.1 dX9_meets_216 rfl (lv_at hl 3 rfl) ?_
                      refine s_icmp_ge (a := y404_4) (b := w_1 - w_4) (tgt := 245) hE.1 hE.2.1 (by omega) (by omega) dX9_meets_217 (by decide) (fun c405 => ?_) (fun c405 => ?_)
                      · skip
                        exact kr vl404 arl404 all404 _ _ _ _ ⟨hI, fun i j h => ((hfr404 i j (fun q => h (mem_sub (by decide) q))).trans ((up_oth hv403 (fun q => h (by rcases q with ⟨rfl, rfl⟩; decide))).trans ((up_oth hv402 (fun q => h (by rcases q with ⟨rfl, rfl⟩; decide))).trans ((up_oth hv375 (fun q => h (by rcases q with ⟨rfl, rfl⟩; decide))).trans ((up_oth hv53 (fun q => h (by rcases q with ⟨rfl, rfl⟩; decide))).trans ((up_oth hv50 (fun q => h (by rcases q with ⟨rfl, rfl⟩; decide))).trans (up_oth hv43 (fun q => h (by rcases q with ⟨rfl, rfl⟩; decide))))))))), fun i h => ((hfa404 i (fun q => h (mem_subn (by decide) q))).trans ((upx_ne ha47 i (fun q => h (by rw [q]; decide))).trans (upx_ne ha4 i (fun q => h (by rw [q]; decide))))), fun i h => (hfl404 i (fun q => h (mem_subn (by decide) q)))⟩ hP hS dX9_meets_245
                      · skip
                        refine lv_aload_n hE.1 hE.2.1 dX9_meets_220 rfl (lv_at hl 4 rfl) ?_
                        refine x_get (x := .ref (ad 15)) hE hK hP 0 (by decide) (yG_9 rfl) rfl hin9 34 (by decide) mw_1368 rfl dX9_meets_221 ?_
                        refine lv_iload hE.1 hE.2.1 dX9_meets_224 (lv_at hl 0 rfl) ?_
                        refine lv_aload_n hE.1 hE.2.1 dX9_meets_226 rfl (lv_at hl 4 rfl) ?_
                        refine x_get (x := .ref (ad 12)) hE hK hP 0 (by decide) (yG_9 rfl) rfl hin9 22 (by decide) mw_1356 rfl dX9_meets_227 ?_
                        refine lv_aload_n hE.1 hE.2.1 dX9_meets_230 rfl (lv_at hl 4 rfl) ?_
                        refine x_get (x := .int (vl404 0 31)) hE hK hP 0 (by decide) (yG_9 rfl) rfl hin9 31 (by decide) mw_1365 rfl dX9_meets_231 ?_
                        refine x_top (y := iI (w_4)) ((hfr404 0 31 (by decide)).trans ((up_oth hv403 (by decide)).trans ((up_oth hv402 (by decide)).trans ((up_oth hv375 (by decide)).trans ((up_oth hv53 (by decide)).trans ((up_oth hv50 (by decide)).trans ((up_oth hv43 (by decide)).trans ew_4))))))) ?_
                        refine lv_iload hE.1 hE.2.1 dX9_meets_234 (lv_at hl 0 rfl) ?_
                        refine lv_iadd hE.1 hE.2.1 dX9_meets_236 ?_
                        refine x_top (y := iI (w_4 + y404_4)) ((iI_add (w_4) (y404_4)).trans (congrArg iI (by omega))) ?_
                        refine x_iald (j := iI (w_4 + y404_4)) hE hK hP 12 (by decide) (yG_10 rfl) (iI_in (n := 60) (by omega)) dX9_meets_237 ?_
                        obtain ⟨z407, hz407, ez407⟩ := YI_a12 hI ((iI (w_4 + y404_4)).toNatClampNeg)
                        refine x_top ez407 ?_
                        refine x_iast (j := iI (y404_4)) hE hK hN hP hS 15 (by decide) (fun _ => yG_10 rfl) (iI_in (n := 9) (by omega)) dX9_meets_238 (fun ar408 H locs ha408 hP hS => ?_)
                        have hI := YI_ast hI ha408 (by decide)
                        refine lv_iinc (v := iI (y404_4 + 1)) (lv' := [(4, .int (iI (y404_4 + 1))), (3, .int (iI (w_1 - w_4))), (2, .int (iI (z5))), (1, .int (iI (w_1 - w_4))), (0, .ref (ad 0))]) hE.1 hE.2.1 dX9_meets_239 hl (k := 0) rfl ((iI_add (y404_4) (1)).trans (congrArg iI (by omega))) (by decide) rfl (fun ls hl => ?_)
                        refine lv_goto (tgt := 214) hE.1 hE.2.1 dX9_meets_242 (by decide) ?_
                        exact ih404 _ (by omega) (y404_4 + 1)  vl404 ar408 all404 _ _ _ rfl (by omega)  hI (fun i j h => (hfr404 i j h)) (fun i h => ((upx_ne ha408 i (fun q => h (by rw [q]; decide))).trans (hfa404 i h))) (fun i h => (hfl404 i h)) hP hS (lv_sub hl [0, 1, 2, 3, 4] rfl)
                  exact loop404 _ (0)  v403 ar47 al _ _ _ rfl (by omega)  hI (fun _ _ _ => rfl) (fun _ _ => rfl) (fun _ _ => rfl) hP hS hl
                · skip
                  exact kr v375 ar47 al _ _ _ _ ⟨hI, fun i j h => ((up_oth hv375 (fun q => h (by rcases q with ⟨rfl, rfl⟩; decide))).trans ((up_oth hv53 (fun q => h (by rcases q with ⟨rfl, rfl⟩; decide))).trans ((up_oth hv50 (fun q => h (by rcases q with ⟨rfl, rfl⟩; decide))).trans (up_oth hv43 (fun q => h (by rcases q with ⟨rfl, rfl⟩; decide)))))), fun i h => ((upx_ne ha47 i (fun q => h (by rw [q]; decide))).trans (upx_ne ha4 i (fun q => h (by rw [q]; decide)))), fun i h => rfl⟩ hP hS dX9_meets_200
        · skip
          refine lv_iload_n hE.1 hE.2.1 dX9_meets_114 rfl (lv_at hl 0 rfl) ?_
          refine s_if_eq (a := z5) (tgt := 137) hE.1 hE.2.1 (by omega) dX9_meets_115 (by decide) (fun c409 => False.elim (by omega)) (fun _ => ?_)
          refine lv_aload_n hE.1 hE.2.1 dX9_meets_118 rfl (lv_at hl 2 rfl) ?_
          refine x_get (x := .int (v375 0 29)) hE hK hP 0 (by decide) (yG_9 rfl) rfl hin9 29 (by decide) mw_1363 rfl dX9_meets_119 ?_
          refine x_top (y := iI (z376)) ez376 ?_
          refine lv_iconst (v := iI (3)) hE.1 hE.2.1 dX9_meets_122 (by decide) ?_
          refine s_icmp_ne (a := z376) (b := 3) (tgt := 138) hE.1 hE.2.1 (by omega) (by omega) dX9_meets_123 (by decide) (fun c410 => ?_) (fun c410 => ?_)
          · skip
            refine lv_aload_n hE.1 hE.2.1 dX9_meets_138 rfl (lv_at hl 2 rfl) ?_
            refine x_get (x := .int (v375 0 29)) hE hK hP 0 (by decide) (yG_9 rfl) rfl hin9 29 (by decide) mw_1363 rfl dX9_meets_139 ?_
            refine x_top (y := iI (z376)) ez376 ?_
            refine lv_iconst (v := iI (2)) hE.1 hE.2.1 dX9_meets_142 (by decide) ?_
            refine s_icmp_ne (a := z376) (b := 2) (tgt := 153) hE.1 hE.2.1 (by omega) (by omega) dX9_meets_143 (by decide) (fun c411 => ?_) (fun c411 => ?_)
            · skip
              refine lv_aload_n hE.1 hE.2.1 dX9_meets_153 rfl (lv_at hl 2 rfl) ?_
              refine x_get (x := .int (v375 0 29)) hE hK hP 0 (by decide) (yG_9 rfl) rfl hin9 29 (by decide) mw_1363 rfl dX9_meets_154 ?_
              refine x_top (y := iI (z376)) ez376 ?_
              refine lv_iconst (v := iI (3)) hE.1 hE.2.1 dX9_meets_157 (by decide) ?_
              refine s_icmp_ne (a := z376) (b := 3) (tgt := 166) hE.1 hE.2.1 (by omega) (by omega) dX9_meets_158 (by decide) (fun c412 => ?_) (fun c412 => ?_)
              · skip
                refine lv_iload_n hE.1 hE.2.1 dX9_meets_166 rfl (lv_at hl 1 rfl) ?_
                refine lv_istore_n (lv' := [(3, .int (iI (w_1 - w_4))), (2, .int (iI (z5))), (1, .int (iI (w_1 - w_4))), (0, .ref (ad 0))]) hE.1 hE.2.1 dX9_meets_167 rfl hl (by decide) rfl (fun ls hl => ?_)
                refine lv_aload_n hE.1 hE.2.1 dX9_meets_168 rfl (lv_at hl 3 rfl) ?_
                obtain ⟨z413, hz413, ez413⟩ := YI_get hI 0 33 (-1) 9 (by decide)
                refine x_get (x := .int (v375 0 33)) hE hK hP 0 (by decide) (yG_9 rfl) rfl hin9 33 (by decide) mw_1367 rfl dX9_meets_169 ?_
                refine x_top (y := iI (z413)) ez413 ?_
                refine lv_iconst (v := iI (-1)) hE.1 hE.2.1 dX9_meets_172 (by decide) ?_
                refine s_icmp_eq (a := z413) (b := -1) (tgt := 201) hE.1 hE.2.1 (by omega) (by omega) dX9_meets_173 (by decide) (fun c414 => ?_) (fun c414 => ?_)
                · skip
                  refine lv_aload_n hE.1 hE.2.1 dX9_meets_201 rfl (lv_at hl 3 rfl) ?_
                  refine lv_iload_n hE.1 hE.2.1 dX9_meets_202 rfl (lv_at hl 0 rfl) ?_
                  refine x_put (x := iI (w_1 - w_4)) hE hK hN hP hS 0 (by decide) (yG_9 rfl) rfl hin9 tyX9 tyX9_ok nmX9 32 (by decide) mw_1366 rfl rfl rfl (Nat.le_of_ble_eq_true rfl) (yG_9 rfl) dX9_meets_203 (fun v415 H locs hv415 hP hS => ?_)
                  have hI := YI_putN hI hv415 (by decide)
                  refine lv_aload_n hE.1 hE.2.1 dX9_meets_206 rfl (lv_at hl 3 rfl) ?_
                  refine lv_iload_n hE.1 hE.2.1 dX9_meets_207 rfl (lv_at hl 2 rfl) ?_
                  refine x_put (x := iI (w_1 - w_4)) hE hK hN hP hS 0 (by decide) (yG_9 rfl) rfl hin9 tyX9 tyX9_ok nmX9 33 (by decide) mw_1367 rfl rfl rfl (Nat.le_of_ble_eq_true rfl) (yG_9 rfl) dX9_meets_208 (fun v416 H locs hv416 hP hS => ?_)
                  have hI := YI_putB (z := w_1 - w_4) hI hv416 (-1) 9 (by omega) (by decide) (by omega)
                  refine lv_iconst (v := iI (0)) hE.1 hE.2.1 dX9_meets_211 (by decide) ?_
                  refine lv_istore (lv' := [(4, .int (iI (0))), (3, .int (iI (w_1 - w_4))), (2, .int (iI (z5))), (1, .int (iI (w_1 - w_4))), (0, .ref (ad 0))]) hE.1 hE.2.1 dX9_meets_212 hl (by decide) rfl (fun ls hl => ?_)
                  have loop417 : ∀ (k417 : Nat) (y417_4 : Int) (vl417 arl417 : sI) (all417 : sL) (H : Heap) (locs : List Loc) (ls : Array Slot), (9 - y417_4).toNat = k417 → (0 ≤ y417_4 ∧ y417_4 ≤ 9) → YI vl417 arl417 → (∀ i j : Nat, (i, j) ∉ ([] : List (Nat × Nat)) → vl417 i j = v416 i j) → (∀ i : Nat, i ∉ ([15] : List Nat) → arl417 i = ar47 i) → (∀ i : Nat, i ∉ ([] : List Nat) → all417 i = al i) → va_P D xcl (wW ad (yG ad K) 21 vl417 arl417 all417) H → va_S (inW ad 21) s.heap H locs → lv_has ls 5 [(4, .int (iI (y417_4))), (3, .int (iI (w_1 - w_4))), (2, .int (iI (z5))), (1, .int (iI (w_1 - w_4))), (0, .ref (ad 0))] → W p l e (rmD 3) s m args below meth c H locs 0 0 Q (F0 m 214 ls []) := by
                    intro k417
                    induction k417 using Nat.strongRecOn with
                    | _ k417 ih417 =>
                      intro y417_4  vl417 arl417 all417 H locs ls hk417 hb_y417_4 hI hfr417 hfa417 hfl417 hP hS hl
                      refine lv_iload hE.1 hE.2.1 dX9_meets_214 (lv_at hl 0 rfl) ?_
                      refine lv_iload_n hE.1 hE.2.1 dX9_meets_216 rfl (lv_at hl 3 rfl) ?_
                      refine s_icmp_ge (a := y417_4) (b := w_1 - w_4) (tgt := 245) hE.1 hE.2.1 (by omega) (by omega) dX9_meets_217 (by decide) (fun c418 => ?_) (fun c418 => ?_)
                      · skip
                        exact kr vl417 arl417 all417 _ _ _ _ ⟨hI, fun i j h => ((hfr417 i j (fun q => h (mem_sub (by decide) q))).trans ((up_oth hv416 (fun q => h (by rcases q with ⟨rfl, rfl⟩; decide))).trans ((up_oth hv415 (fun q => h (by rcases q with ⟨rfl, rfl⟩; decide))).trans ((up_oth hv375 (fun q => h (by rcases q with ⟨rfl, rfl⟩; decide))).trans ((up_oth hv53 (fun q => h (by rcases q with ⟨rfl, rfl⟩; decide))).trans ((up_oth hv50 (fun q => h (by rcases q with ⟨rfl, rfl⟩; decide))).trans (up_oth hv43 (fun q => h (by rcases q with ⟨rfl, rfl⟩; decide))))))))), fun i h => ((hfa417 i (fun q => h (mem_subn (by decide) q))).trans ((upx_ne ha47 i (fun q => h (by rw [q]; decide))).trans (upx_ne ha4 i (fun q => h (by rw [q]; decide))))), fun i h => (hfl417 i (fun q => h (mem_subn (by decide) q)))⟩ hP hS dX9_meets_245
                      · skip
                        refine lv_aload_n hE.1 hE.2.1 dX9_meets_220 rfl (lv_at hl 4 rfl) ?_
                        refine x_get (x := .ref (ad 15)) hE hK hP 0 (by decide) (yG_9 rfl) rfl hin9 34 (by decide) mw_1368 rfl dX9_meets_221 ?_
                        refine lv_iload hE.1 hE.2.1 dX9_meets_224 (lv_at hl 0 rfl) ?_
                        refine lv_aload_n hE.1 hE.2.1 dX9_meets_226 rfl (lv_at hl 4 rfl) ?_
                        refine x_get (x := .ref (ad 12)) hE hK hP 0 (by decide) (yG_9 rfl) rfl hin9 22 (by decide) mw_1356 rfl dX9_meets_227 ?_
                        refine lv_aload_n hE.1 hE.2.1 dX9_meets_230 rfl (lv_at hl 4 rfl) ?_
                        refine x_get (x := .int (vl417 0 31)) hE hK hP 0 (by decide) (yG_9 rfl) rfl hin9 31 (by decide) mw_1365 rfl dX9_meets_231 ?_
                        refine x_top (y := iI (w_4)) ((hfr417 0 31 (by decide)).trans ((up_oth hv416 (by decide)).trans ((up_oth hv415 (by decide)).trans ((up_oth hv375 (by decide)).trans ((up_oth hv53 (by decide)).trans ((up_oth hv50 (by decide)).trans ((up_oth hv43 (by decide)).trans ew_4))))))) ?_
                        refine lv_iload hE.1 hE.2.1 dX9_meets_234 (lv_at hl 0 rfl) ?_
                        refine lv_iadd hE.1 hE.2.1 dX9_meets_236 ?_
                        refine x_top (y := iI (w_4 + y417_4)) ((iI_add (w_4) (y417_4)).trans (congrArg iI (by omega))) ?_
                        refine x_iald (j := iI (w_4 + y417_4)) hE hK hP 12 (by decide) (yG_10 rfl) (iI_in (n := 60) (by omega)) dX9_meets_237 ?_
                        obtain ⟨z420, hz420, ez420⟩ := YI_a12 hI ((iI (w_4 + y417_4)).toNatClampNeg)
                        refine x_top ez420 ?_
                        refine x_iast (j := iI (y417_4)) hE hK hN hP hS 15 (by decide) (fun _ => yG_10 rfl) (iI_in (n := 9) (by omega)) dX9_meets_238 (fun ar421 H locs ha421 hP hS => ?_)
                        have hI := YI_ast hI ha421 (by decide)
                        refine lv_iinc (v := iI (y417_4 + 1)) (lv' := [(4, .int (iI (y417_4 + 1))), (3, .int (iI (w_1 - w_4))), (2, .int (iI (z5))), (1, .int (iI (w_1 - w_4))), (0, .ref (ad 0))]) hE.1 hE.2.1 dX9_meets_239 hl (k := 0) rfl ((iI_add (y417_4) (1)).trans (congrArg iI (by omega))) (by decide) rfl (fun ls hl => ?_)
                        refine lv_goto (tgt := 214) hE.1 hE.2.1 dX9_meets_242 (by decide) ?_
                        exact ih417 _ (by omega) (y417_4 + 1)  vl417 ar421 all417 _ _ _ rfl (by omega)  hI (fun i j h => (hfr417 i j h)) (fun i h => ((upx_ne ha421 i (fun q => h (by rw [q]; decide))).trans (hfa417 i h))) (fun i h => (hfl417 i h)) hP hS (lv_sub hl [0, 1, 2, 3, 4] rfl)
                  exact loop417 _ (0)  v416 ar47 al _ _ _ rfl (by omega)  hI (fun _ _ _ => rfl) (fun _ _ => rfl) (fun _ _ => rfl) hP hS hl
                · skip
                  refine lv_iload_n hE.1 hE.2.1 dX9_meets_176 rfl (lv_at hl 0 rfl) ?_
                  refine lv_aload_n hE.1 hE.2.1 dX9_meets_177 rfl (lv_at hl 3 rfl) ?_
                  obtain ⟨z422, hz422, ez422⟩ := iI_of (v375 0 32)
                  refine x_get (x := .int (v375 0 32)) hE hK hP 0 (by decide) (yG_9 rfl) rfl hin9 32 (by decide) mw_1366 rfl dX9_meets_178 ?_
                  refine x_top (y := iI (z422)) ez422 ?_
                  refine s_icmp_lt (a := w_1 - w_4) (b := z422) (tgt := 200) hE.1 hE.2.1 (by omega) (by omega) dX9_meets_181 (by decide) (fun c423 => ?_) (fun c423 => ?_)
                  · skip
                    exact kr v375 ar47 al _ _ _ _ ⟨hI, fun i j h => ((up_oth hv375 (fun q => h (by rcases q with ⟨rfl, rfl⟩; decide))).trans ((up_oth hv53 (fun q => h (by rcases q with ⟨rfl, rfl⟩; decide))).trans ((up_oth hv50 (fun q => h (by rcases q with ⟨rfl, rfl⟩; decide))).trans (up_oth hv43 (fun q => h (by rcases q with ⟨rfl, rfl⟩; decide)))))), fun i h => ((upx_ne ha47 i (fun q => h (by rw [q]; decide))).trans (upx_ne ha4 i (fun q => h (by rw [q]; decide)))), fun i h => rfl⟩ hP hS dX9_meets_200
                  · skip
                    refine lv_iload_n hE.1 hE.2.1 dX9_meets_184 rfl (lv_at hl 0 rfl) ?_
                    refine lv_aload_n hE.1 hE.2.1 dX9_meets_185 rfl (lv_at hl 3 rfl) ?_
                    refine x_get (x := .int (v375 0 32)) hE hK hP 0 (by decide) (yG_9 rfl) rfl hin9 32 (by decide) mw_1366 rfl dX9_meets_186 ?_
                    refine x_top (y := iI (z422)) ez422 ?_
                    refine s_icmp_ne (a := w_1 - w_4) (b := z422) (tgt := 201) hE.1 hE.2.1 (by omega) (by omega) dX9_meets_189 (by decide) (fun c424 => ?_) (fun c424 => ?_)
                    · skip
                      refine lv_aload_n hE.1 hE.2.1 dX9_meets_201 rfl (lv_at hl 3 rfl) ?_
                      refine lv_iload_n hE.1 hE.2.1 dX9_meets_202 rfl (lv_at hl 0 rfl) ?_
                      refine x_put (x := iI (w_1 - w_4)) hE hK hN hP hS 0 (by decide) (yG_9 rfl) rfl hin9 tyX9 tyX9_ok nmX9 32 (by decide) mw_1366 rfl rfl rfl (Nat.le_of_ble_eq_true rfl) (yG_9 rfl) dX9_meets_203 (fun v425 H locs hv425 hP hS => ?_)
                      have hI := YI_putN hI hv425 (by decide)
                      refine lv_aload_n hE.1 hE.2.1 dX9_meets_206 rfl (lv_at hl 3 rfl) ?_
                      refine lv_iload_n hE.1 hE.2.1 dX9_meets_207 rfl (lv_at hl 2 rfl) ?_
                      refine x_put (x := iI (w_1 - w_4)) hE hK hN hP hS 0 (by decide) (yG_9 rfl) rfl hin9 tyX9 tyX9_ok nmX9 33 (by decide) mw_1367 rfl rfl rfl (Nat.le_of_ble_eq_true rfl) (yG_9 rfl) dX9_meets_208 (fun v426 H locs hv426 hP hS => ?_)
                      have hI := YI_putB (z := w_1 - w_4) hI hv426 (-1) 9 (by omega) (by decide) (by omega)
                      refine lv_iconst (v := iI (0)) hE.1 hE.2.1 dX9_meets_211 (by decide) ?_
                      refine lv_istore (lv' := [(4, .int (iI (0))), (3, .int (iI (w_1 - w_4))), (2, .int (iI (z5))), (1, .int (iI (w_1 - w_4))), (0, .ref (ad 0))]) hE.1 hE.2.1 dX9_meets_212 hl (by decide) rfl (fun ls hl => ?_)
                      have loop427 : ∀ (k427 : Nat) (y427_4 : Int) (vl427 arl427 : sI) (all427 : sL) (H : Heap) (locs : List Loc) (ls : Array Slot), (9 - y427_4).toNat = k427 → (0 ≤ y427_4 ∧ y427_4 ≤ 9) → YI vl427 arl427 → (∀ i j : Nat, (i, j) ∉ ([] : List (Nat × Nat)) → vl427 i j = v426 i j) → (∀ i : Nat, i ∉ ([15] : List Nat) → arl427 i = ar47 i) → (∀ i : Nat, i ∉ ([] : List Nat) → all427 i = al i) → va_P D xcl (wW ad (yG ad K) 21 vl427 arl427 all427) H → va_S (inW ad 21) s.heap H locs → lv_has ls 5 [(4, .int (iI (y427_4))), (3, .int (iI (w_1 - w_4))), (2, .int (iI (z5))), (1, .int (iI (w_1 - w_4))), (0, .ref (ad 0))] → W p l e (rmD 3) s m args below meth c H locs 0 0 Q (F0 m 214 ls []) := by
                        intro k427
                        induction k427 using Nat.strongRecOn with
                        | _ k427 ih427 =>
                          intro y427_4  vl427 arl427 all427 H locs ls hk427 hb_y427_4 hI hfr427 hfa427 hfl427 hP hS hl
                          refine lv_iload hE.1 hE.2.1 dX9_meets_214 (lv_at hl 0 rfl) ?_
                          refine lv_iload_n hE.1 hE.2.1 dX9_meets_216 rfl (lv_at hl 3 rfl) ?_
                          refine s_icmp_ge (a := y427_4) (b := w_1 - w_4) (tgt := 245) hE.1 hE.2.1 (by omega) (by omega) dX9_meets_217 (by decide) (fun c428 => ?_) (fun c428 => ?_)
                          · skip
                            exact kr vl427 arl427 all427 _ _ _ _ ⟨hI, fun i j h => ((hfr427 i j (fun q => h (mem_sub (by decide) q))).trans ((up_oth hv426 (fun q => h (by rcases q with ⟨rfl, rfl⟩; decide))).trans ((up_oth hv425 (fun q => h (by rcases q with ⟨rfl, rfl⟩; decide))).trans ((up_oth hv375 (fun q => h (by rcases q with ⟨rfl, rfl⟩; decide))).trans ((up_oth hv53 (fun q => h (by rcases q with ⟨rfl, rfl⟩; decide))).trans ((up_oth hv50 (fun q => h (by rcases q with ⟨rfl, rfl⟩; decide))).trans (up_oth hv43 (fun q => h (by rcases q with ⟨rfl, rfl⟩; decide))))))))), fun i h => ((hfa427 i (fun q => h (mem_subn (by decide) q))).trans ((upx_ne ha47 i (fun q => h (by rw [q]; decide))).trans (upx_ne ha4 i (fun q => h (by rw [q]; decide))))), fun i h => (hfl427 i (fun q => h (mem_subn (by decide) q)))⟩ hP hS dX9_meets_245
                          · skip
                            refine lv_aload_n hE.1 hE.2.1 dX9_meets_220 rfl (lv_at hl 4 rfl) ?_
                            refine x_get (x := .ref (ad 15)) hE hK hP 0 (by decide) (yG_9 rfl) rfl hin9 34 (by decide) mw_1368 rfl dX9_meets_221 ?_
                            refine lv_iload hE.1 hE.2.1 dX9_meets_224 (lv_at hl 0 rfl) ?_
                            refine lv_aload_n hE.1 hE.2.1 dX9_meets_226 rfl (lv_at hl 4 rfl) ?_
                            refine x_get (x := .ref (ad 12)) hE hK hP 0 (by decide) (yG_9 rfl) rfl hin9 22 (by decide) mw_1356 rfl dX9_meets_227 ?_
                            refine lv_aload_n hE.1 hE.2.1 dX9_meets_230 rfl (lv_at hl 4 rfl) ?_
                            refine x_get (x := .int (vl427 0 31)) hE hK hP 0 (by decide) (yG_9 rfl) rfl hin9 31 (by decide) mw_1365 rfl dX9_meets_231 ?_
                            refine x_top (y := iI (w_4)) ((hfr427 0 31 (by decide)).trans ((up_oth hv426 (by decide)).trans ((up_oth hv425 (by decide)).trans ((up_oth hv375 (by decide)).trans ((up_oth hv53 (by decide)).trans ((up_oth hv50 (by decide)).trans ((up_oth hv43 (by decide)).trans ew_4))))))) ?_
                            refine lv_iload hE.1 hE.2.1 dX9_meets_234 (lv_at hl 0 rfl) ?_
                            refine lv_iadd hE.1 hE.2.1 dX9_meets_236 ?_
                            refine x_top (y := iI (w_4 + y427_4)) ((iI_add (w_4) (y427_4)).trans (congrArg iI (by omega))) ?_
                            refine x_iald (j := iI (w_4 + y427_4)) hE hK hP 12 (by decide) (yG_10 rfl) (iI_in (n := 60) (by omega)) dX9_meets_237 ?_
                            obtain ⟨z430, hz430, ez430⟩ := YI_a12 hI ((iI (w_4 + y427_4)).toNatClampNeg)
                            refine x_top ez430 ?_
                            refine x_iast (j := iI (y427_4)) hE hK hN hP hS 15 (by decide) (fun _ => yG_10 rfl) (iI_in (n := 9) (by omega)) dX9_meets_238 (fun ar431 H locs ha431 hP hS => ?_)
                            have hI := YI_ast hI ha431 (by decide)
                            refine lv_iinc (v := iI (y427_4 + 1)) (lv' := [(4, .int (iI (y427_4 + 1))), (3, .int (iI (w_1 - w_4))), (2, .int (iI (z5))), (1, .int (iI (w_1 - w_4))), (0, .ref (ad 0))]) hE.1 hE.2.1 dX9_meets_239 hl (k := 0) rfl ((iI_add (y427_4) (1)).trans (congrArg iI (by omega))) (by decide) rfl (fun ls hl => ?_)
                            refine lv_goto (tgt := 214) hE.1 hE.2.1 dX9_meets_242 (by decide) ?_
                            exact ih427 _ (by omega) (y427_4 + 1)  vl427 ar431 all427 _ _ _ rfl (by omega)  hI (fun i j h => (hfr427 i j h)) (fun i h => ((upx_ne ha431 i (fun q => h (by rw [q]; decide))).trans (hfa427 i h))) (fun i h => (hfl427 i h)) hP hS (lv_sub hl [0, 1, 2, 3, 4] rfl)
                      exact loop427 _ (0)  v426 ar47 al _ _ _ rfl (by omega)  hI (fun _ _ _ => rfl) (fun _ _ => rfl) (fun _ _ => rfl) hP hS hl
                    · skip
                      refine lv_aload_n hE.1 hE.2.1 dX9_meets_192 rfl (lv_at hl 3 rfl) ?_
                      refine lv_iload_n hE.1 hE.2.1 dX9_meets_193 rfl (lv_at hl 2 rfl) ?_
                      refine x_vp (nn := 1) (As := [.int (iI (w_1 - w_4))]) (rest := []) hE (s_X9_isAhead_e l D K ad v375 ar47 al hI  (w_1 - w_4) (by omega)) wPre_blind (wPre_now hK hN hP) (x_recv hK hP 0 (by decide) (yG_9 rfl) rfl) rfl mw_1818 mw_1820 mw_90 mw_123 mw_1821 (by decide +kernel) ⟨by decide, by decide⟩ hl.1 rfl (Nat.le_of_ble_eq_true rfl) ⟨Nat.zero_le _, Nat.zero_le _⟩ dX9_meets_194 (fun r432 hr432 => ?_)
                      obtain ⟨z432, hz432, rfl⟩ := hr432
                      refine s_if_ne (a := z432) (tgt := 201) hE.1 hE.2.1 (by omega) dX9_meets_197 (by decide) (fun c433 => ?_) (fun c433 => ?_)
                      · skip
                        refine lv_aload_n hE.1 hE.2.1 dX9_meets_201 rfl (lv_at hl 3 rfl) ?_
                        refine lv_iload_n hE.1 hE.2.1 dX9_meets_202 rfl (lv_at hl 0 rfl) ?_
                        refine x_put (x := iI (w_1 - w_4)) hE hK hN hP hS 0 (by decide) (yG_9 rfl) rfl hin9 tyX9 tyX9_ok nmX9 32 (by decide) mw_1366 rfl rfl rfl (Nat.le_of_ble_eq_true rfl) (yG_9 rfl) dX9_meets_203 (fun v434 H locs hv434 hP hS => ?_)
                        have hI := YI_putN hI hv434 (by decide)
                        refine lv_aload_n hE.1 hE.2.1 dX9_meets_206 rfl (lv_at hl 3 rfl) ?_
                        refine lv_iload_n hE.1 hE.2.1 dX9_meets_207 rfl (lv_at hl 2 rfl) ?_
                        refine x_put (x := iI (w_1 - w_4)) hE hK hN hP hS 0 (by decide) (yG_9 rfl) rfl hin9 tyX9 tyX9_ok nmX9 33 (by decide) mw_1367 rfl rfl rfl (Nat.le_of_ble_eq_true rfl) (yG_9 rfl) dX9_meets_208 (fun v435 H locs hv435 hP hS => ?_)
                        have hI := YI_putB (z := w_1 - w_4) hI hv435 (-1) 9 (by omega) (by decide) (by omega)
                        refine lv_iconst (v := iI (0)) hE.1 hE.2.1 dX9_meets_211 (by decide) ?_
                        refine lv_istore (lv' := [(4, .int (iI (0))), (3, .int (iI (w_1 - w_4))), (2, .int (iI (z5))), (1, .int (iI (w_1 - w_4))), (0, .ref (ad 0))]) hE.1 hE.2.1 dX9_meets_212 hl (by decide) rfl (fun ls hl => ?_)
                        have loop436 : ∀ (k436 : Nat) (y436_4 : Int) (vl436 arl436 : sI) (all436 : sL) (H : Heap) (locs : List Loc) (ls : Array Slot), (9 - y436_4).toNat = k436 → (0 ≤ y436_4 ∧ y436_4 ≤ 9) → YI vl436 arl436 → (∀ i j : Nat, (i, j) ∉ ([] : List (Nat × Nat)) → vl436 i j = v435 i j) → (∀ i : Nat, i ∉ ([15] : List Nat) → arl436 i = ar47 i) → (∀ i : Nat, i ∉ ([] : List Nat) → all436 i = al i) → va_P D xcl (wW ad (yG ad K) 21 vl436 arl436 all436) H → va_S (inW ad 21) s.heap H locs → lv_has ls 5 [(4, .int (iI (y436_4))), (3, .int (iI (w_1 - w_4))), (2, .int (iI (z5))), (1, .int (iI (w_1 - w_4))), (0, .ref (ad 0))] → W p l e (rmD 3) s m args below meth c H locs 0 0 Q (F0 m 214 ls []) := by
                          intro k436
                          induction k436 using Nat.strongRecOn with
                          | _ k436 ih436 =>
                            intro y436_4  vl436 arl436 all436 H locs ls hk436 hb_y436_4 hI hfr436 hfa436 hfl436 hP hS hl
                            refine lv_iload hE.1 hE.2.1 dX9_meets_214 (lv_at hl 0 rfl) ?_
                            refine lv_iload_n hE.1 hE.2.1 dX9_meets_216 rfl (lv_at hl 3 rfl) ?_
                            refine s_icmp_ge (a := y436_4) (b := w_1 - w_4) (tgt := 245) hE.1 hE.2.1 (by omega) (by omega) dX9_meets_217 (by decide) (fun c437 => ?_) (fun c437 => ?_)
                            · skip
                              exact kr vl436 arl436 all436 _ _ _ _ ⟨hI, fun i j h => ((hfr436 i j (fun q => h (mem_sub (by decide) q))).trans ((up_oth hv435 (fun q => h (by rcases q with ⟨rfl, rfl⟩; decide))).trans ((up_oth hv434 (fun q => h (by rcases q with ⟨rfl, rfl⟩; decide))).trans ((up_oth hv375 (fun q => h (by rcases q with ⟨rfl, rfl⟩; decide))).trans ((up_oth hv53 (fun q => h (by rcases q with ⟨rfl, rfl⟩; decide))).trans ((up_oth hv50 (fun q => h (by rcases q with ⟨rfl, rfl⟩; decide))).trans (up_oth hv43 (fun q => h (by rcases q with ⟨rfl, rfl⟩; decide))))))))), fun i h => ((hfa436 i (fun q => h (mem_subn (by decide) q))).trans ((upx_ne ha47 i (fun q => h (by rw [q]; decide))).trans (upx_ne ha4 i (fun q => h (by rw [q]; decide))))), fun i h => (hfl436 i (fun q => h (mem_subn (by decide) q)))⟩ hP hS dX9_meets_245
                            · skip
                              refine lv_aload_n hE.1 hE.2.1 dX9_meets_220 rfl (lv_at hl 4 rfl) ?_
                              refine x_get (x := .ref (ad 15)) hE hK hP 0 (by decide) (yG_9 rfl) rfl hin9 34 (by decide) mw_1368 rfl dX9_meets_221 ?_
                              refine lv_iload hE.1 hE.2.1 dX9_meets_224 (lv_at hl 0 rfl) ?_
                              refine lv_aload_n hE.1 hE.2.1 dX9_meets_226 rfl (lv_at hl 4 rfl) ?_
                              refine x_get (x := .ref (ad 12)) hE hK hP 0 (by decide) (yG_9 rfl) rfl hin9 22 (by decide) mw_1356 rfl dX9_meets_227 ?_
                              refine lv_aload_n hE.1 hE.2.1 dX9_meets_230 rfl (lv_at hl 4 rfl) ?_
                              refine x_get (x := .int (vl436 0 31)) hE hK hP 0 (by decide) (yG_9 rfl) rfl hin9 31 (by decide) mw_1365 rfl dX9_meets_231 ?_
                              refine x_top (y := iI (w_4)) ((hfr436 0 31 (by decide)).trans ((up_oth hv435 (by decide)).trans ((up_oth hv434 (by decide)).trans ((up_oth hv375 (by decide)).trans ((up_oth hv53 (by decide)).trans ((up_oth hv50 (by decide)).trans ((up_oth hv43 (by decide)).trans ew_4))))))) ?_
                              refine lv_iload hE.1 hE.2.1 dX9_meets_234 (lv_at hl 0 rfl) ?_
                              refine lv_iadd hE.1 hE.2.1 dX9_meets_236 ?_
                              refine x_top (y := iI (w_4 + y436_4)) ((iI_add (w_4) (y436_4)).trans (congrArg iI (by omega))) ?_
                              refine x_iald (j := iI (w_4 + y436_4)) hE hK hP 12 (by decide) (yG_10 rfl) (iI_in (n := 60) (by omega)) dX9_meets_237 ?_
                              obtain ⟨z439, hz439, ez439⟩ := YI_a12 hI ((iI (w_4 + y436_4)).toNatClampNeg)
                              refine x_top ez439 ?_
                              refine x_iast (j := iI (y436_4)) hE hK hN hP hS 15 (by decide) (fun _ => yG_10 rfl) (iI_in (n := 9) (by omega)) dX9_meets_238 (fun ar440 H locs ha440 hP hS => ?_)
                              have hI := YI_ast hI ha440 (by decide)
                              refine lv_iinc (v := iI (y436_4 + 1)) (lv' := [(4, .int (iI (y436_4 + 1))), (3, .int (iI (w_1 - w_4))), (2, .int (iI (z5))), (1, .int (iI (w_1 - w_4))), (0, .ref (ad 0))]) hE.1 hE.2.1 dX9_meets_239 hl (k := 0) rfl ((iI_add (y436_4) (1)).trans (congrArg iI (by omega))) (by decide) rfl (fun ls hl => ?_)
                              refine lv_goto (tgt := 214) hE.1 hE.2.1 dX9_meets_242 (by decide) ?_
                              exact ih436 _ (by omega) (y436_4 + 1)  vl436 ar440 all436 _ _ _ rfl (by omega)  hI (fun i j h => (hfr436 i j h)) (fun i h => ((upx_ne ha440 i (fun q => h (by rw [q]; decide))).trans (hfa436 i h))) (fun i h => (hfl436 i h)) hP hS (lv_sub hl [0, 1, 2, 3, 4] rfl)
                        exact loop436 _ (0)  v435 ar47 al _ _ _ rfl (by omega)  hI (fun _ _ _ => rfl) (fun _ _ => rfl) (fun _ _ => rfl) hP hS hl
                      · skip
                        exact kr v375 ar47 al _ _ _ _ ⟨hI, fun i j h => ((up_oth hv375 (fun q => h (by rcases q with ⟨rfl, rfl⟩; decide))).trans ((up_oth hv53 (fun q => h (by rcases q with ⟨rfl, rfl⟩; decide))).trans ((up_oth hv50 (fun q => h (by rcases q with ⟨rfl, rfl⟩; decide))).trans (up_oth hv43 (fun q => h (by rcases q with ⟨rfl, rfl⟩; decide)))))), fun i h => ((upx_ne ha47 i (fun q => h (by rw [q]; decide))).trans (upx_ne ha4 i (fun q => h (by rw [q]; decide)))), fun i h => rfl⟩ hP hS dX9_meets_200
              · skip
                refine lv_iload_n hE.1 hE.2.1 dX9_meets_161 rfl (lv_at hl 1 rfl) ?_
                refine lv_ineg hE.1 hE.2.1 dX9_meets_162 ?_
                obtain ⟨z441, hz441, ez441⟩ := iI_of (-iI (w_1 - w_4))
                refine x_top ez441 ?_
                refine lv_goto (tgt := 167) hE.1 hE.2.1 dX9_meets_163 (by decide) ?_
                refine lv_istore_n (lv' := [(3, .int (iI (z441))), (2, .int (iI (z5))), (1, .int (iI (w_1 - w_4))), (0, .ref (ad 0))]) hE.1 hE.2.1 dX9_meets_167 rfl hl (by decide) rfl (fun ls hl => ?_)
                refine lv_aload_n hE.1 hE.2.1 dX9_meets_168 rfl (lv_at hl 3 rfl) ?_
                obtain ⟨z442, hz442, ez442⟩ := YI_get hI 0 33 (-1) 9 (by decide)
                refine x_get (x := .int (v375 0 33)) hE hK hP 0 (by decide) (yG_9 rfl) rfl hin9 33 (by decide) mw_1367 rfl dX9_meets_169 ?_
                refine x_top (y := iI (z442)) ez442 ?_
                refine lv_iconst (v := iI (-1)) hE.1 hE.2.1 dX9_meets_172 (by decide) ?_
                refine s_icmp_eq (a := z442) (b := -1) (tgt := 201) hE.1 hE.2.1 (by omega) (by omega) dX9_meets_173 (by decide) (fun c443 => ?_) (fun c443 => ?_)
                · skip
                  refine lv_aload_n hE.1 hE.2.1 dX9_meets_201 rfl (lv_at hl 3 rfl) ?_
                  refine lv_iload_n hE.1 hE.2.1 dX9_meets_202 rfl (lv_at hl 0 rfl) ?_
                  refine x_put (x := iI (z441)) hE hK hN hP hS 0 (by decide) (yG_9 rfl) rfl hin9 tyX9 tyX9_ok nmX9 32 (by decide) mw_1366 rfl rfl rfl (Nat.le_of_ble_eq_true rfl) (yG_9 rfl) dX9_meets_203 (fun v444 H locs hv444 hP hS => ?_)
                  have hI := YI_putN hI hv444 (by decide)
                  refine lv_aload_n hE.1 hE.2.1 dX9_meets_206 rfl (lv_at hl 3 rfl) ?_
                  refine lv_iload_n hE.1 hE.2.1 dX9_meets_207 rfl (lv_at hl 2 rfl) ?_
                  refine x_put (x := iI (w_1 - w_4)) hE hK hN hP hS 0 (by decide) (yG_9 rfl) rfl hin9 tyX9 tyX9_ok nmX9 33 (by decide) mw_1367 rfl rfl rfl (Nat.le_of_ble_eq_true rfl) (yG_9 rfl) dX9_meets_208 (fun v445 H locs hv445 hP hS => ?_)
                  have hI := YI_putB (z := w_1 - w_4) hI hv445 (-1) 9 (by omega) (by decide) (by omega)
                  refine lv_iconst (v := iI (0)) hE.1 hE.2.1 dX9_meets_211 (by decide) ?_
                  refine lv_istore (lv' := [(4, .int (iI (0))), (3, .int (iI (z441))), (2, .int (iI (z5))), (1, .int (iI (w_1 - w_4))), (0, .ref (ad 0))]) hE.1 hE.2.1 dX9_meets_212 hl (by decide) rfl (fun ls hl => ?_)
                  have loop446 : ∀ (k446 : Nat) (y446_4 : Int) (vl446 arl446 : sI) (all446 : sL) (H : Heap) (locs : List Loc) (ls : Array Slot), (9 - y446_4).toNat = k446 → (0 ≤ y446_4 ∧ y446_4 ≤ 9) → YI vl446 arl446 → (∀ i j : Nat, (i, j) ∉ ([] : List (Nat × Nat)) → vl446 i j = v445 i j) → (∀ i : Nat, i ∉ ([15] : List Nat) → arl446 i = ar47 i) → (∀ i : Nat, i ∉ ([] : List Nat) → all446 i = al i) → va_P D xcl (wW ad (yG ad K) 21 vl446 arl446 all446) H → va_S (inW ad 21) s.heap H locs → lv_has ls 5 [(4, .int (iI (y446_4))), (3, .int (iI (z441))), (2, .int (iI (z5))), (1, .int (iI (w_1 - w_4))), (0, .ref (ad 0))] → W p l e (rmD 3) s m args below meth c H locs 0 0 Q (F0 m 214 ls []) := by
                    intro k446
                    induction k446 using Nat.strongRecOn with
                    | _ k446 ih446 =>
                      intro y446_4  vl446 arl446 all446 H locs ls hk446 hb_y446_4 hI hfr446 hfa446 hfl446 hP hS hl
                      refine lv_iload hE.1 hE.2.1 dX9_meets_214 (lv_at hl 0 rfl) ?_
                      refine lv_iload_n hE.1 hE.2.1 dX9_meets_216 rfl (lv_at hl 3 rfl) ?_
                      refine s_icmp_ge (a := y446_4) (b := w_1 - w_4) (tgt := 245) hE.1 hE.2.1 (by omega) (by omega) dX9_meets_217 (by decide) (fun c447 => ?_) (fun c447 => ?_)
                      · skip
                        exact kr vl446 arl446 all446 _ _ _ _ ⟨hI, fun i j h => ((hfr446 i j (fun q => h (mem_sub (by decide) q))).trans ((up_oth hv445 (fun q => h (by rcases q with ⟨rfl, rfl⟩; decide))).trans ((up_oth hv444 (fun q => h (by rcases q with ⟨rfl, rfl⟩; decide))).trans ((up_oth hv375 (fun q => h (by rcases q with ⟨rfl, rfl⟩; decide))).trans ((up_oth hv53 (fun q => h (by rcases q with ⟨rfl, rfl⟩; decide))).trans ((up_oth hv50 (fun q => h (by rcases q with ⟨rfl, rfl⟩; decide))).trans (up_oth hv43 (fun q => h (by rcases q with ⟨rfl, rfl⟩; decide))))))))), fun i h => ((hfa446 i (fun q => h (mem_subn (by decide) q))).trans ((upx_ne ha47 i (fun q => h (by rw [q]; decide))).trans (upx_ne ha4 i (fun q => h (by rw [q]; decide))))), fun i h => (hfl446 i (fun q => h (mem_subn (by decide) q)))⟩ hP hS dX9_meets_245
                      · skip
                        refine lv_aload_n hE.1 hE.2.1 dX9_meets_220 rfl (lv_at hl 4 rfl) ?_
                        refine x_get (x := .ref (ad 15)) hE hK hP 0 (by decide) (yG_9 rfl) rfl hin9 34 (by decide) mw_1368 rfl dX9_meets_221 ?_
                        refine lv_iload hE.1 hE.2.1 dX9_meets_224 (lv_at hl 0 rfl) ?_
                        refine lv_aload_n hE.1 hE.2.1 dX9_meets_226 rfl (lv_at hl 4 rfl) ?_
                        refine x_get (x := .ref (ad 12)) hE hK hP 0 (by decide) (yG_9 rfl) rfl hin9 22 (by decide) mw_1356 rfl dX9_meets_227 ?_
                        refine lv_aload_n hE.1 hE.2.1 dX9_meets_230 rfl (lv_at hl 4 rfl) ?_
                        refine x_get (x := .int (vl446 0 31)) hE hK hP 0 (by decide) (yG_9 rfl) rfl hin9 31 (by decide) mw_1365 rfl dX9_meets_231 ?_
                        refine x_top (y := iI (w_4)) ((hfr446 0 31 (by decide)).trans ((up_oth hv445 (by decide)).trans ((up_oth hv444 (by decide)).trans ((up_oth hv375 (by decide)).trans ((up_oth hv53 (by decide)).trans ((up_oth hv50 (by decide)).trans ((up_oth hv43 (by decide)).trans ew_4))))))) ?_
                        refine lv_iload hE.1 hE.2.1 dX9_meets_234 (lv_at hl 0 rfl) ?_
                        refine lv_iadd hE.1 hE.2.1 dX9_meets_236 ?_
                        refine x_top (y := iI (w_4 + y446_4)) ((iI_add (w_4) (y446_4)).trans (congrArg iI (by omega))) ?_
                        refine x_iald (j := iI (w_4 + y446_4)) hE hK hP 12 (by decide) (yG_10 rfl) (iI_in (n := 60) (by omega)) dX9_meets_237 ?_
                        obtain ⟨z449, hz449, ez449⟩ := YI_a12 hI ((iI (w_4 + y446_4)).toNatClampNeg)
                        refine x_top ez449 ?_
                        refine x_iast (j := iI (y446_4)) hE hK hN hP hS 15 (by decide) (fun _ => yG_10 rfl) (iI_in (n := 9) (by omega)) dX9_meets_238 (fun ar450 H locs ha450 hP hS => ?_)
                        have hI := YI_ast hI ha450 (by decide)
                        refine lv_iinc (v := iI (y446_4 + 1)) (lv' := [(4, .int (iI (y446_4 + 1))), (3, .int (iI (z441))), (2, .int (iI (z5))), (1, .int (iI (w_1 - w_4))), (0, .ref (ad 0))]) hE.1 hE.2.1 dX9_meets_239 hl (k := 0) rfl ((iI_add (y446_4) (1)).trans (congrArg iI (by omega))) (by decide) rfl (fun ls hl => ?_)
                        refine lv_goto (tgt := 214) hE.1 hE.2.1 dX9_meets_242 (by decide) ?_
                        exact ih446 _ (by omega) (y446_4 + 1)  vl446 ar450 all446 _ _ _ rfl (by omega)  hI (fun i j h => (hfr446 i j h)) (fun i h => ((upx_ne ha450 i (fun q => h (by rw [q]; decide))).trans (hfa446 i h))) (fun i h => (hfl446 i h)) hP hS (lv_sub hl [0, 1, 2, 3, 4] rfl)
                  exact loop446 _ (0)  v445 ar47 al _ _ _ rfl (by omega)  hI (fun _ _ _ => rfl) (fun _ _ => rfl) (fun _ _ => rfl) hP hS hl
                · skip
                  refine lv_iload_n hE.1 hE.2.1 dX9_meets_176 rfl (lv_at hl 0 rfl) ?_
                  refine lv_aload_n hE.1 hE.2.1 dX9_meets_177 rfl (lv_at hl 3 rfl) ?_
                  obtain ⟨z451, hz451, ez451⟩ := iI_of (v375 0 32)
                  refine x_get (x := .int (v375 0 32)) hE hK hP 0 (by decide) (yG_9 rfl) rfl hin9 32 (by decide) mw_1366 rfl dX9_meets_178 ?_
                  refine x_top (y := iI (z451)) ez451 ?_
                  refine s_icmp_lt (a := z441) (b := z451) (tgt := 200) hE.1 hE.2.1 (by omega) (by omega) dX9_meets_181 (by decide) (fun c452 => ?_) (fun c452 => ?_)
                  · skip
                    exact kr v375 ar47 al _ _ _ _ ⟨hI, fun i j h => ((up_oth hv375 (fun q => h (by rcases q with ⟨rfl, rfl⟩; decide))).trans ((up_oth hv53 (fun q => h (by rcases q with ⟨rfl, rfl⟩; decide))).trans ((up_oth hv50 (fun q => h (by rcases q with ⟨rfl, rfl⟩; decide))).trans (up_oth hv43 (fun q => h (by rcases q with ⟨rfl, rfl⟩; decide)))))), fun i h => ((upx_ne ha47 i (fun q => h (by rw [q]; decide))).trans (upx_ne ha4 i (fun q => h (by rw [q]; decide)))), fun i h => rfl⟩ hP hS dX9_meets_200
                  · skip
                    refine lv_iload_n hE.1 hE.2.1 dX9_meets_184 rfl (lv_at hl 0 rfl) ?_
                    refine lv_aload_n hE.1 hE.2.1 dX9_meets_185 rfl (lv_at hl 3 rfl) ?_
                    refine x_get (x := .int (v375 0 32)) hE hK hP 0 (by decide) (yG_9 rfl) rfl hin9 32 (by decide) mw_1366 rfl dX9_meets_186 ?_
                    refine x_top (y := iI (z451)) ez451 ?_
                    refine s_icmp_ne (a := z441) (b := z451) (tgt := 201) hE.1 hE.2.1 (by omega) (by omega) dX9_meets_189 (by decide) (fun c453 => ?_) (fun c453 => ?_)
                    · skip
                      refine lv_aload_n hE.1 hE.2.1 dX9_meets_201 rfl (lv_at hl 3 rfl) ?_
                      refine lv_iload_n hE.1 hE.2.1 dX9_meets_202 rfl (lv_at hl 0 rfl) ?_
                      refine x_put (x := iI (z441)) hE hK hN hP hS 0 (by decide) (yG_9 rfl) rfl hin9 tyX9 tyX9_ok nmX9 32 (by decide) mw_1366 rfl rfl rfl (Nat.le_of_ble_eq_true rfl) (yG_9 rfl) dX9_meets_203 (fun v454 H locs hv454 hP hS => ?_)
                      have hI := YI_putN hI hv454 (by decide)
                      refine lv_aload_n hE.1 hE.2.1 dX9_meets_206 rfl (lv_at hl 3 rfl) ?_
                      refine lv_iload_n hE.1 hE.2.1 dX9_meets_207 rfl (lv_at hl 2 rfl) ?_
                      refine x_put (x := iI (w_1 - w_4)) hE hK hN hP hS 0 (by decide) (yG_9 rfl) rfl hin9 tyX9 tyX9_ok nmX9 33 (by decide) mw_1367 rfl rfl rfl (Nat.le_of_ble_eq_true rfl) (yG_9 rfl) dX9_meets_208 (fun v455 H locs hv455 hP hS => ?_)
                      have hI := YI_putB (z := w_1 - w_4) hI hv455 (-1) 9 (by omega) (by decide) (by omega)
                      refine lv_iconst (v := iI (0)) hE.1 hE.2.1 dX9_meets_211 (by decide) ?_
                      refine lv_istore (lv' := [(4, .int (iI (0))), (3, .int (iI (z441))), (2, .int (iI (z5))), (1, .int (iI (w_1 - w_4))), (0, .ref (ad 0))]) hE.1 hE.2.1 dX9_meets_212 hl (by decide) rfl (fun ls hl => ?_)
                      have loop456 : ∀ (k456 : Nat) (y456_4 : Int) (vl456 arl456 : sI) (all456 : sL) (H : Heap) (locs : List Loc) (ls : Array Slot), (9 - y456_4).toNat = k456 → (0 ≤ y456_4 ∧ y456_4 ≤ 9) → YI vl456 arl456 → (∀ i j : Nat, (i, j) ∉ ([] : List (Nat × Nat)) → vl456 i j = v455 i j) → (∀ i : Nat, i ∉ ([15] : List Nat) → arl456 i = ar47 i) → (∀ i : Nat, i ∉ ([] : List Nat) → all456 i = al i) → va_P D xcl (wW ad (yG ad K) 21 vl456 arl456 all456) H → va_S (inW ad 21) s.heap H locs → lv_has ls 5 [(4, .int (iI (y456_4))), (3, .int (iI (z441))), (2, .int (iI (z5))), (1, .int (iI (w_1 - w_4))), (0, .ref (ad 0))] → W p l e (rmD 3) s m args below meth c H locs 0 0 Q (F0 m 214 ls []) := by
                        intro k456
                        induction k456 using Nat.strongRecOn with
                        | _ k456 ih456 =>
                          intro y456_4  vl456 arl456 all456 H locs ls hk456 hb_y456_4 hI hfr456 hfa456 hfl456 hP hS hl
                          refine lv_iload hE.1 hE.2.1 dX9_meets_214 (lv_at hl 0 rfl) ?_
                          refine lv_iload_n hE.1 hE.2.1 dX9_meets_216 rfl (lv_at hl 3 rfl) ?_
                          refine s_icmp_ge (a := y456_4) (b := w_1 - w_4) (tgt := 245) hE.1 hE.2.1 (by omega) (by omega) dX9_meets_217 (by decide) (fun c457 => ?_) (fun c457 => ?_)
                          · skip
                            exact kr vl456 arl456 all456 _ _ _ _ ⟨hI, fun i j h => ((hfr456 i j (fun q => h (mem_sub (by decide) q))).trans ((up_oth hv455 (fun q => h (by rcases q with ⟨rfl, rfl⟩; decide))).trans ((up_oth hv454 (fun q => h (by rcases q with ⟨rfl, rfl⟩; decide))).trans ((up_oth hv375 (fun q => h (by rcases q with ⟨rfl, rfl⟩; decide))).trans ((up_oth hv53 (fun q => h (by rcases q with ⟨rfl, rfl⟩; decide))).trans ((up_oth hv50 (fun q => h (by rcases q with ⟨rfl, rfl⟩; decide))).trans (up_oth hv43 (fun q => h (by rcases q with ⟨rfl, rfl⟩; decide))))))))), fun i h => ((hfa456 i (fun q => h (mem_subn (by decide) q))).trans ((upx_ne ha47 i (fun q => h (by rw [q]; decide))).trans (upx_ne ha4 i (fun q => h (by rw [q]; decide))))), fun i h => (hfl456 i (fun q => h (mem_subn (by decide) q)))⟩ hP hS dX9_meets_245
                          · skip
                            refine lv_aload_n hE.1 hE.2.1 dX9_meets_220 rfl (lv_at hl 4 rfl) ?_
                            refine x_get (x := .ref (ad 15)) hE hK hP 0 (by decide) (yG_9 rfl) rfl hin9 34 (by decide) mw_1368 rfl dX9_meets_221 ?_
                            refine lv_iload hE.1 hE.2.1 dX9_meets_224 (lv_at hl 0 rfl) ?_
                            refine lv_aload_n hE.1 hE.2.1 dX9_meets_226 rfl (lv_at hl 4 rfl) ?_
                            refine x_get (x := .ref (ad 12)) hE hK hP 0 (by decide) (yG_9 rfl) rfl hin9 22 (by decide) mw_1356 rfl dX9_meets_227 ?_
                            refine lv_aload_n hE.1 hE.2.1 dX9_meets_230 rfl (lv_at hl 4 rfl) ?_
                            refine x_get (x := .int (vl456 0 31)) hE hK hP 0 (by decide) (yG_9 rfl) rfl hin9 31 (by decide) mw_1365 rfl dX9_meets_231 ?_
                            refine x_top (y := iI (w_4)) ((hfr456 0 31 (by decide)).trans ((up_oth hv455 (by decide)).trans ((up_oth hv454 (by decide)).trans ((up_oth hv375 (by decide)).trans ((up_oth hv53 (by decide)).trans ((up_oth hv50 (by decide)).trans ((up_oth hv43 (by decide)).trans ew_4))))))) ?_
                            refine lv_iload hE.1 hE.2.1 dX9_meets_234 (lv_at hl 0 rfl) ?_
                            refine lv_iadd hE.1 hE.2.1 dX9_meets_236 ?_
                            refine x_top (y := iI (w_4 + y456_4)) ((iI_add (w_4) (y456_4)).trans (congrArg iI (by omega))) ?_
                            refine x_iald (j := iI (w_4 + y456_4)) hE hK hP 12 (by decide) (yG_10 rfl) (iI_in (n := 60) (by omega)) dX9_meets_237 ?_
                            obtain ⟨z459, hz459, ez459⟩ := YI_a12 hI ((iI (w_4 + y456_4)).toNatClampNeg)
                            refine x_top ez459 ?_
                            refine x_iast (j := iI (y456_4)) hE hK hN hP hS 15 (by decide) (fun _ => yG_10 rfl) (iI_in (n := 9) (by omega)) dX9_meets_238 (fun ar460 H locs ha460 hP hS => ?_)
                            have hI := YI_ast hI ha460 (by decide)
                            refine lv_iinc (v := iI (y456_4 + 1)) (lv' := [(4, .int (iI (y456_4 + 1))), (3, .int (iI (z441))), (2, .int (iI (z5))), (1, .int (iI (w_1 - w_4))), (0, .ref (ad 0))]) hE.1 hE.2.1 dX9_meets_239 hl (k := 0) rfl ((iI_add (y456_4) (1)).trans (congrArg iI (by omega))) (by decide) rfl (fun ls hl => ?_)
                            refine lv_goto (tgt := 214) hE.1 hE.2.1 dX9_meets_242 (by decide) ?_
                            exact ih456 _ (by omega) (y456_4 + 1)  vl456 ar460 all456 _ _ _ rfl (by omega)  hI (fun i j h => (hfr456 i j h)) (fun i h => ((upx_ne ha460 i (fun q => h (by rw [q]; decide))).trans (hfa456 i h))) (fun i h => (hfl456 i h)) hP hS (lv_sub hl [0, 1, 2, 3, 4] rfl)
                      exact loop456 _ (0)  v455 ar47 al _ _ _ rfl (by omega)  hI (fun _ _ _ => rfl) (fun _ _ => rfl) (fun _ _ => rfl) hP hS hl
                    · skip
                      refine lv_aload_n hE.1 hE.2.1 dX9_meets_192 rfl (lv_at hl 3 rfl) ?_
                      refine lv_iload_n hE.1 hE.2.1 dX9_meets_193 rfl (lv_at hl 2 rfl) ?_
                      refine x_vp (nn := 1) (As := [.int (iI (w_1 - w_4))]) (rest := []) hE (s_X9_isAhead_e l D K ad v375 ar47 al hI  (w_1 - w_4) (by omega)) wPre_blind (wPre_now hK hN hP) (x_recv hK hP 0 (by decide) (yG_9 rfl) rfl) rfl mw_1818 mw_1820 mw_90 mw_123 mw_1821 (by decide +kernel) ⟨by decide, by decide⟩ hl.1 rfl (Nat.le_of_ble_eq_true rfl) ⟨Nat.zero_le _, Nat.zero_le _⟩ dX9_meets_194 (fun r461 hr461 => ?_)
                      obtain ⟨z461, hz461, rfl⟩ := hr461
                      refine s_if_ne (a := z461) (tgt := 201) hE.1 hE.2.1 (by omega) dX9_meets_197 (by decide) (fun c462 => ?_) (fun c462 => ?_)
                      · skip
                        refine lv_aload_n hE.1 hE.2.1 dX9_meets_201 rfl (lv_at hl 3 rfl) ?_
                        refine lv_iload_n hE.1 hE.2.1 dX9_meets_202 rfl (lv_at hl 0 rfl) ?_
                        refine x_put (x := iI (z441)) hE hK hN hP hS 0 (by decide) (yG_9 rfl) rfl hin9 tyX9 tyX9_ok nmX9 32 (by decide) mw_1366 rfl rfl rfl (Nat.le_of_ble_eq_true rfl) (yG_9 rfl) dX9_meets_203 (fun v463 H locs hv463 hP hS => ?_)
                        have hI := YI_putN hI hv463 (by decide)
                        refine lv_aload_n hE.1 hE.2.1 dX9_meets_206 rfl (lv_at hl 3 rfl) ?_
                        refine lv_iload_n hE.1 hE.2.1 dX9_meets_207 rfl (lv_at hl 2 rfl) ?_
                        refine x_put (x := iI (w_1 - w_4)) hE hK hN hP hS 0 (by decide) (yG_9 rfl) rfl hin9 tyX9 tyX9_ok nmX9 33 (by decide) mw_1367 rfl rfl rfl (Nat.le_of_ble_eq_true rfl) (yG_9 rfl) dX9_meets_208 (fun v464 H locs hv464 hP hS => ?_)
                        have hI := YI_putB (z := w_1 - w_4) hI hv464 (-1) 9 (by omega) (by decide) (by omega)
                        refine lv_iconst (v := iI (0)) hE.1 hE.2.1 dX9_meets_211 (by decide) ?_
                        refine lv_istore (lv' := [(4, .int (iI (0))), (3, .int (iI (z441))), (2, .int (iI (z5))), (1, .int (iI (w_1 - w_4))), (0, .ref (ad 0))]) hE.1 hE.2.1 dX9_meets_212 hl (by decide) rfl (fun ls hl => ?_)
                        have loop465 : ∀ (k465 : Nat) (y465_4 : Int) (vl465 arl465 : sI) (all465 : sL) (H : Heap) (locs : List Loc) (ls : Array Slot), (9 - y465_4).toNat = k465 → (0 ≤ y465_4 ∧ y465_4 ≤ 9) → YI vl465 arl465 → (∀ i j : Nat, (i, j) ∉ ([] : List (Nat × Nat)) → vl465 i j = v464 i j) → (∀ i : Nat, i ∉ ([15] : List Nat) → arl465 i = ar47 i) → (∀ i : Nat, i ∉ ([] : List Nat) → all465 i = al i) → va_P D xcl (wW ad (yG ad K) 21 vl465 arl465 all465) H → va_S (inW ad 21) s.heap H locs → lv_has ls 5 [(4, .int (iI (y465_4))), (3, .int (iI (z441))), (2, .int (iI (z5))), (1, .int (iI (w_1 - w_4))), (0, .ref (ad 0))] → W p l e (rmD 3) s m args below meth c H locs 0 0 Q (F0 m 214 ls []) := by
                          intro k465
                          induction k465 using Nat.strongRecOn with
                          | _ k465 ih465 =>
                            intro y465_4  vl465 arl465 all465 H locs ls hk465 hb_y465_4 hI hfr465 hfa465 hfl465 hP hS hl
                            refine lv_iload hE.1 hE.2.1 dX9_meets_214 (lv_at hl 0 rfl) ?_
                            refine lv_iload_n hE.1 hE.2.1 dX9_meets_216 rfl (lv_at hl 3 rfl) ?_
                            refine s_icmp_ge (a := y465_4) (b := w_1 - w_4) (tgt := 245) hE.1 hE.2.1 (by omega) (by omega) dX9_meets_217 (by decide) (fun c466 => ?_) (fun c466 => ?_)
                            · skip
                              exact kr vl465 arl465 all465 _ _ _ _ ⟨hI, fun i j h => ((hfr465 i j (fun q => h (mem_sub (by decide) q))).trans ((up_oth hv464 (fun q => h (by rcases q with ⟨rfl, rfl⟩; decide))).trans ((up_oth hv463 (fun q => h (by rcases q with ⟨rfl, rfl⟩; decide))).trans ((up_oth hv375 (fun q => h (by rcases q with ⟨rfl, rfl⟩; decide))).trans ((up_oth hv53 (fun q => h (by rcases q with ⟨rfl, rfl⟩; decide))).trans ((up_oth hv50 (fun q => h (by rcases q with ⟨rfl, rfl⟩; decide))).trans (up_oth hv43 (fun q => h (by rcases q with ⟨rfl, rfl⟩; decide))))))))), fun i h => ((hfa465 i (fun q => h (mem_subn (by decide) q))).trans ((upx_ne ha47 i (fun q => h (by rw [q]; decide))).trans (upx_ne ha4 i (fun q => h (by rw [q]; decide))))), fun i h => (hfl465 i (fun q => h (mem_subn (by decide) q)))⟩ hP hS dX9_meets_245
                            · skip
                              refine lv_aload_n hE.1 hE.2.1 dX9_meets_220 rfl (lv_at hl 4 rfl) ?_
                              refine x_get (x := .ref (ad 15)) hE hK hP 0 (by decide) (yG_9 rfl) rfl hin9 34 (by decide) mw_1368 rfl dX9_meets_221 ?_
                              refine lv_iload hE.1 hE.2.1 dX9_meets_224 (lv_at hl 0 rfl) ?_
                              refine lv_aload_n hE.1 hE.2.1 dX9_meets_226 rfl (lv_at hl 4 rfl) ?_
                              refine x_get (x := .ref (ad 12)) hE hK hP 0 (by decide) (yG_9 rfl) rfl hin9 22 (by decide) mw_1356 rfl dX9_meets_227 ?_
                              refine lv_aload_n hE.1 hE.2.1 dX9_meets_230 rfl (lv_at hl 4 rfl) ?_
                              refine x_get (x := .int (vl465 0 31)) hE hK hP 0 (by decide) (yG_9 rfl) rfl hin9 31 (by decide) mw_1365 rfl dX9_meets_231 ?_
                              refine x_top (y := iI (w_4)) ((hfr465 0 31 (by decide)).trans ((up_oth hv464 (by decide)).trans ((up_oth hv463 (by decide)).trans ((up_oth hv375 (by decide)).trans ((up_oth hv53 (by decide)).trans ((up_oth hv50 (by decide)).trans ((up_oth hv43 (by decide)).trans ew_4))))))) ?_
                              refine lv_iload hE.1 hE.2.1 dX9_meets_234 (lv_at hl 0 rfl) ?_
                              refine lv_iadd hE.1 hE.2.1 dX9_meets_236 ?_
                              refine x_top (y := iI (w_4 + y465_4)) ((iI_add (w_4) (y465_4)).trans (congrArg iI (by omega))) ?_
                              refine x_iald (j := iI (w_4 + y465_4)) hE hK hP 12 (by decide) (yG_10 rfl) (iI_in (n := 60) (by omega)) dX9_meets_237 ?_
                              obtain ⟨z468, hz468, ez468⟩ := YI_a12 hI ((iI (w_4 + y465_4)).toNatClampNeg)
                              refine x_top ez468 ?_
                              refine x_iast (j := iI (y465_4)) hE hK hN hP hS 15 (by decide) (fun _ => yG_10 rfl) (iI_in (n := 9) (by omega)) dX9_meets_238 (fun ar469 H locs ha469 hP hS => ?_)
                              have hI := YI_ast hI ha469 (by decide)
                              refine lv_iinc (v := iI (y465_4 + 1)) (lv' := [(4, .int (iI (y465_4 + 1))), (3, .int (iI (z441))), (2, .int (iI (z5))), (1, .int (iI (w_1 - w_4))), (0, .ref (ad 0))]) hE.1 hE.2.1 dX9_meets_239 hl (k := 0) rfl ((iI_add (y465_4) (1)).trans (congrArg iI (by omega))) (by decide) rfl (fun ls hl => ?_)
                              refine lv_goto (tgt := 214) hE.1 hE.2.1 dX9_meets_242 (by decide) ?_
                              exact ih465 _ (by omega) (y465_4 + 1)  vl465 ar469 all465 _ _ _ rfl (by omega)  hI (fun i j h => (hfr465 i j h)) (fun i h => ((upx_ne ha469 i (fun q => h (by rw [q]; decide))).trans (hfa465 i h))) (fun i h => (hfl465 i h)) hP hS (lv_sub hl [0, 1, 2, 3, 4] rfl)
                        exact loop465 _ (0)  v464 ar47 al _ _ _ rfl (by omega)  hI (fun _ _ _ => rfl) (fun _ _ => rfl) (fun _ _ => rfl) hP hS hl
                      · skip
                        exact kr v375 ar47 al _ _ _ _ ⟨hI, fun i j h => ((up_oth hv375 (fun q => h (by rcases q with ⟨rfl, rfl⟩; decide))).trans ((up_oth hv53 (fun q => h (by rcases q with ⟨rfl, rfl⟩; decide))).trans ((up_oth hv50 (fun q => h (by rcases q with ⟨rfl, rfl⟩; decide))).trans (up_oth hv43 (fun q => h (by rcases q with ⟨rfl, rfl⟩; decide)))))), fun i h => ((upx_ne ha47 i (fun q => h (by rw [q]; decide))).trans (upx_ne ha4 i (fun q => h (by rw [q]; decide)))), fun i h => rfl⟩ hP hS dX9_meets_200
            · skip
              refine lv_aload_n hE.1 hE.2.1 dX9_meets_146 rfl (lv_at hl 2 rfl) ?_
              obtain ⟨z470, hz470, ez470⟩ := iI_of (v375 0 27)
              refine x_get (x := .int (v375 0 27)) hE hK hP 0 (by decide) (yG_9 rfl) rfl hin9 27 (by decide) mw_1361 rfl dX9_meets_147 ?_
              refine x_top (y := iI (z470)) ez470 ?_
              refine lv_goto (tgt := 167) hE.1 hE.2.1 dX9_meets_150 (by decide) ?_
              refine lv_istore_n (lv' := [(3, .int (iI (z470))), (2, .int (iI (z5))), (1, .int (iI (w_1 - w_4))), (0, .ref (ad 0))]) hE.1 hE.2.1 dX9_meets_167 rfl hl (by decide) rfl (fun ls hl => ?_)
              refine lv_aload_n hE.1 hE.2.1 dX9_meets_168 rfl (lv_at hl 3 rfl) ?_
              obtain ⟨z471, hz471, ez471⟩ := YI_get hI 0 33 (-1) 9 (by decide)
              refine x_get (x := .int (v375 0 33)) hE hK hP 0 (by decide) (yG_9 rfl) rfl hin9 33 (by decide) mw_1367 rfl dX9_meets_169 ?_
              refine x_top (y := iI (z471)) ez471 ?_
              refine lv_iconst (v := iI (-1)) hE.1 hE.2.1 dX9_meets_172 (by decide) ?_
              refine s_icmp_eq (a := z471) (b := -1) (tgt := 201) hE.1 hE.2.1 (by omega) (by omega) dX9_meets_173 (by decide) (fun c472 => ?_) (fun c472 => ?_)
              · skip
                refine lv_aload_n hE.1 hE.2.1 dX9_meets_201 rfl (lv_at hl 3 rfl) ?_
                refine lv_iload_n hE.1 hE.2.1 dX9_meets_202 rfl (lv_at hl 0 rfl) ?_
                refine x_put (x := iI (z470)) hE hK hN hP hS 0 (by decide) (yG_9 rfl) rfl hin9 tyX9 tyX9_ok nmX9 32 (by decide) mw_1366 rfl rfl rfl (Nat.le_of_ble_eq_true rfl) (yG_9 rfl) dX9_meets_203 (fun v473 H locs hv473 hP hS => ?_)
                have hI := YI_putN hI hv473 (by decide)
                refine lv_aload_n hE.1 hE.2.1 dX9_meets_206 rfl (lv_at hl 3 rfl) ?_
                refine lv_iload_n hE.1 hE.2.1 dX9_meets_207 rfl (lv_at hl 2 rfl) ?_
                refine x_put (x := iI (w_1 - w_4)) hE hK hN hP hS 0 (by decide) (yG_9 rfl) rfl hin9 tyX9 tyX9_ok nmX9 33 (by decide) mw_1367 rfl rfl rfl (Nat.le_of_ble_eq_true rfl) (yG_9 rfl) dX9_meets_208 (fun v474 H locs hv474 hP hS => ?_)
                have hI := YI_putB (z := w_1 - w_4) hI hv474 (-1) 9 (by omega) (by decide) (by omega)
                refine lv_iconst (v := iI (0)) hE.1 hE.2.1 dX9_meets_211 (by decide) ?_
                refine lv_istore (lv' := [(4, .int (iI (0))), (3, .int (iI (z470))), (2, .int (iI (z5))), (1, .int (iI (w_1 - w_4))), (0, .ref (ad 0))]) hE.1 hE.2.1 dX9_meets_212 hl (by decide) rfl (fun ls hl => ?_)
                have loop475 : ∀ (k475 : Nat) (y475_4 : Int) (vl475 arl475 : sI) (all475 : sL) (H : Heap) (locs : List Loc) (ls : Array Slot), (9 - y475_4).toNat = k475 → (0 ≤ y475_4 ∧ y475_4 ≤ 9) → YI vl475 arl475 → (∀ i j : Nat, (i, j) ∉ ([] : List (Nat × Nat)) → vl475 i j = v474 i j) → (∀ i : Nat, i ∉ ([15] : List Nat) → arl475 i = ar47 i) → (∀ i : Nat, i ∉ ([] : List Nat) → all475 i = al i) → va_P D xcl (wW ad (yG ad K) 21 vl475 arl475 all475) H → va_S (inW ad 21) s.heap H locs → lv_has ls 5 [(4, .int (iI (y475_4))), (3, .int (iI (z470))), (2, .int (iI (z5))), (1, .int (iI (w_1 - w_4))), (0, .ref (ad 0))] → W p l e (rmD 3) s m args below meth c H locs 0 0 Q (F0 m 214 ls []) := by
                  intro k475
                  induction k475 using Nat.strongRecOn with
                  | _ k475 ih475 =>
                    intro y475_4  vl475 arl475 all475 H locs ls hk475 hb_y475_4 hI hfr475 hfa475 hfl475 hP hS hl
                    refine lv_iload hE.1 hE.2.1 dX9_meets_214 (lv_at hl 0 rfl) ?_
                    refine lv_iload_n hE.1 hE.2.1 dX9_meets_216 rfl (lv_at hl 3 rfl) ?_
                    refine s_icmp_ge (a := y475_4) (b := w_1 - w_4) (tgt := 245) hE.1 hE.2.1 (by omega) (by omega) dX9_meets_217 (by decide) (fun c476 => ?_) (fun c476 => ?_)
                    · skip
                      exact kr vl475 arl475 all475 _ _ _ _ ⟨hI, fun i j h => ((hfr475 i j (fun q => h (mem_sub (by decide) q))).trans ((up_oth hv474 (fun q => h (by rcases q with ⟨rfl, rfl⟩; decide))).trans ((up_oth hv473 (fun q => h (by rcases q with ⟨rfl, rfl⟩; decide))).trans ((up_oth hv375 (fun q => h (by rcases q with ⟨rfl, rfl⟩; decide))).trans ((up_oth hv53 (fun q => h (by rcases q with ⟨rfl, rfl⟩; decide))).trans ((up_oth hv50 (fun q => h (by rcases q with ⟨rfl, rfl⟩; decide))).trans (up_oth hv43 (fun q => h (by rcases q with ⟨rfl, rfl⟩; decide))))))))), fun i h => ((hfa475 i (fun q => h (mem_subn (by decide) q))).trans ((upx_ne ha47 i (fun q => h (by rw [q]; decide))).trans (upx_ne ha4 i (fun q => h (by rw [q]; decide))))), fun i h => (hfl475 i (fun q => h (mem_subn (by decide) q)))⟩ hP hS dX9_meets_245
                    · skip
                      refine lv_aload_n hE.1 hE.2.1 dX9_meets_220 rfl (lv_at hl 4 rfl) ?_
                      refine x_get (x := .ref (ad 15)) hE hK hP 0 (by decide) (yG_9 rfl) rfl hin9 34 (by decide) mw_1368 rfl dX9_meets_221 ?_
                      refine lv_iload hE.1 hE.2.1 dX9_meets_224 (lv_at hl 0 rfl) ?_
                      refine lv_aload_n hE.1 hE.2.1 dX9_meets_226 rfl (lv_at hl 4 rfl) ?_
                      refine x_get (x := .ref (ad 12)) hE hK hP 0 (by decide) (yG_9 rfl) rfl hin9 22 (by decide) mw_1356 rfl dX9_meets_227 ?_
                      refine lv_aload_n hE.1 hE.2.1 dX9_meets_230 rfl (lv_at hl 4 rfl) ?_
                      refine x_get (x := .int (vl475 0 31)) hE hK hP 0 (by decide) (yG_9 rfl) rfl hin9 31 (by decide) mw_1365 rfl dX9_meets_231 ?_
                      refine x_top (y := iI (w_4)) ((hfr475 0 31 (by decide)).trans ((up_oth hv474 (by decide)).trans ((up_oth hv473 (by decide)).trans ((up_oth hv375 (by decide)).trans ((up_oth hv53 (by decide)).trans ((up_oth hv50 (by decide)).trans ((up_oth hv43 (by decide)).trans ew_4))))))) ?_
                      refine lv_iload hE.1 hE.2.1 dX9_meets_234 (lv_at hl 0 rfl) ?_
                      refine lv_iadd hE.1 hE.2.1 dX9_meets_236 ?_
                      refine x_top (y := iI (w_4 + y475_4)) ((iI_add (w_4) (y475_4)).trans (congrArg iI (by omega))) ?_
                      refine x_iald (j := iI (w_4 + y475_4)) hE hK hP 12 (by decide) (yG_10 rfl) (iI_in (n := 60) (by omega)) dX9_meets_237 ?_
                      obtain ⟨z478, hz478, ez478⟩ := YI_a12 hI ((iI (w_4 + y475_4)).toNatClampNeg)
                      refine x_top ez478 ?_
                      refine x_iast (j := iI (y475_4)) hE hK hN hP hS 15 (by decide) (fun _ => yG_10 rfl) (iI_in (n := 9) (by omega)) dX9_meets_238 (fun ar479 H locs ha479 hP hS => ?_)
                      have hI := YI_ast hI ha479 (by decide)
                      refine lv_iinc (v := iI (y475_4 + 1)) (lv' := [(4, .int (iI (y475_4 + 1))), (3, .int (iI (z470))), (2, .int (iI (z5))), (1, .int (iI (w_1 - w_4))), (0, .ref (ad 0))]) hE.1 hE.2.1 dX9_meets_239 hl (k := 0) rfl ((iI_add (y475_4) (1)).trans (congrArg iI (by omega))) (by decide) rfl (fun ls hl => ?_)
                      refine lv_goto (tgt := 214) hE.1 hE.2.1 dX9_meets_242 (by decide) ?_
                      exact ih475 _ (by omega) (y475_4 + 1)  vl475 ar479 all475 _ _ _ rfl (by omega)  hI (fun i j h => (hfr475 i j h)) (fun i h => ((upx_ne ha479 i (fun q => h (by rw [q]; decide))).trans (hfa475 i h))) (fun i h => (hfl475 i h)) hP hS (lv_sub hl [0, 1, 2, 3, 4] rfl)
                exact loop475 _ (0)  v474 ar47 al _ _ _ rfl (by omega)  hI (fun _ _ _ => rfl) (fun _ _ => rfl) (fun _ _ => rfl) hP hS hl
              · skip
                refine lv_iload_n hE.1 hE.2.1 dX9_meets_176 rfl (lv_at hl 0 rfl) ?_
                refine lv_aload_n hE.1 hE.2.1 dX9_meets_177 rfl (lv_at hl 3 rfl) ?_
                obtain ⟨z480, hz480, ez480⟩ := iI_of (v375 0 32)
                refine x_get (x := .int (v375 0 32)) hE hK hP 0 (by decide) (yG_9 rfl) rfl hin9 32 (by decide) mw_1366 rfl dX9_meets_178 ?_
                refine x_top (y := iI (z480)) ez480 ?_
                refine s_icmp_lt (a := z470) (b := z480) (tgt := 200) hE.1 hE.2.1 (by omega) (by omega) dX9_meets_181 (by decide) (fun c481 => ?_) (fun c481 => ?_)
                · skip
                  exact kr v375 ar47 al _ _ _ _ ⟨hI, fun i j h => ((up_oth hv375 (fun q => h (by rcases q with ⟨rfl, rfl⟩; decide))).trans ((up_oth hv53 (fun q => h (by rcases q with ⟨rfl, rfl⟩; decide))).trans ((up_oth hv50 (fun q => h (by rcases q with ⟨rfl, rfl⟩; decide))).trans (up_oth hv43 (fun q => h (by rcases q with ⟨rfl, rfl⟩; decide)))))), fun i h => ((upx_ne ha47 i (fun q => h (by rw [q]; decide))).trans (upx_ne ha4 i (fun q => h (by rw [q]; decide)))), fun i h => rfl⟩ hP hS dX9_meets_200
                · skip
                  refine lv_iload_n hE.1 hE.2.1 dX9_meets_184 rfl (lv_at hl 0 rfl) ?_
                  refine lv_aload_n hE.1 hE.2.1 dX9_meets_185 rfl (lv_at hl 3 rfl) ?_
                  refine x_get (x := .int (v375 0 32)) hE hK hP 0 (by decide) (yG_9 rfl) rfl hin9 32 (by decide) mw_1366 rfl dX9_meets_186 ?_
                  refine x_top (y := iI (z480)) ez480 ?_
                  refine s_icmp_ne (a := z470) (b := z480) (tgt := 201) hE.1 hE.2.1 (by omega) (by omega) dX9_meets_189 (by decide) (fun c482 => ?_) (fun c482 => ?_)
                  · skip
                    refine lv_aload_n hE.1 hE.2.1 dX9_meets_201 rfl (lv_at hl 3 rfl) ?_
                    refine lv_iload_n hE.1 hE.2.1 dX9_meets_202 rfl (lv_at hl 0 rfl) ?_
                    refine x_put (x := iI (z470)) hE hK hN hP hS 0 (by decide) (yG_9 rfl) rfl hin9 tyX9 tyX9_ok nmX9 32 (by decide) mw_1366 rfl rfl rfl (Nat.le_of_ble_eq_true rfl) (yG_9 rfl) dX9_meets_203 (fun v483 H locs hv483 hP hS => ?_)
                    have hI := YI_putN hI hv483 (by decide)
                    refine lv_aload_n hE.1 hE.2.1 dX9_meets_206 rfl (lv_at hl 3 rfl) ?_
                    refine lv_iload_n hE.1 hE.2.1 dX9_meets_207 rfl (lv_at hl 2 rfl) ?_
                    refine x_put (x := iI (w_1 - w_4)) hE hK hN hP hS 0 (by decide) (yG_9 rfl) rfl hin9 tyX9 tyX9_ok nmX9 33 (by decide) mw_1367 rfl rfl rfl (Nat.le_of_ble_eq_true rfl) (yG_9 rfl) dX9_meets_208 (fun v484 H locs hv484 hP hS => ?_)
                    have hI := YI_putB (z := w_1 - w_4) hI hv484 (-1) 9 (by omega) (by decide) (by omega)
                    refine lv_iconst (v := iI (0)) hE.1 hE.2.1 dX9_meets_211 (by decide) ?_
                    refine lv_istore (lv' := [(4, .int (iI (0))), (3, .int (iI (z470))), (2, .int (iI (z5))), (1, .int (iI (w_1 - w_4))), (0, .ref (ad 0))]) hE.1 hE.2.1 dX9_meets_212 hl (by decide) rfl (fun ls hl => ?_)
                    have loop485 : ∀ (k485 : Nat) (y485_4 : Int) (vl485 arl485 : sI) (all485 : sL) (H : Heap) (locs : List Loc) (ls : Array Slot), (9 - y485_4).toNat = k485 → (0 ≤ y485_4 ∧ y485_4 ≤ 9) → YI vl485 arl485 → (∀ i j : Nat, (i, j) ∉ ([] : List (Nat × Nat)) → vl485 i j = v484 i j) → (∀ i : Nat, i ∉ ([15] : List Nat) → arl485 i = ar47 i) → (∀ i : Nat, i ∉ ([] : List Nat) → all485 i = al i) → va_P D xcl (wW ad (yG ad K) 21 vl485 arl485 all485) H → va_S (inW ad 21) s.heap H locs → lv_has ls 5 [(4, .int (iI (y485_4))), (3, .int (iI (z470))), (2, .int (iI (z5))), (1, .int (iI (w_1 - w_4))), (0, .ref (ad 0))] → W p l e (rmD 3) s m args below meth c H locs 0 0 Q (F0 m 214 ls []) := by
                      intro k485
                      induction k485 using Nat.strongRecOn with
                      | _ k485 ih485 =>
                        intro y485_4  vl485 arl485 all485 H locs ls hk485 hb_y485_4 hI hfr485 hfa485 hfl485 hP hS hl
                        refine lv_iload hE.1 hE.2.1 dX9_meets_214 (lv_at hl 0 rfl) ?_
                        refine lv_iload_n hE.1 hE.2.1 dX9_meets_216 rfl (lv_at hl 3 rfl) ?_
                        refine s_icmp_ge (a := y485_4) (b := w_1 - w_4) (tgt := 245) hE.1 hE.2.1 (by omega) (by omega) dX9_meets_217 (by decide) (fun c486 => ?_) (fun c486 => ?_)
                        · skip
                          exact kr vl485 arl485 all485 _ _ _ _ ⟨hI, fun i j h => ((hfr485 i j (fun q => h (mem_sub (by decide) q))).trans ((up_oth hv484 (fun q => h (by rcases q with ⟨rfl, rfl⟩; decide))).trans ((up_oth hv483 (fun q => h (by rcases q with ⟨rfl, rfl⟩; decide))).trans ((up_oth hv375 (fun q => h (by rcases q with ⟨rfl, rfl⟩; decide))).trans ((up_oth hv53 (fun q => h (by rcases q with ⟨rfl, rfl⟩; decide))).trans ((up_oth hv50 (fun q => h (by rcases q with ⟨rfl, rfl⟩; decide))).trans (up_oth hv43 (fun q => h (by rcases q with ⟨rfl, rfl⟩; decide))))))))), fun i h => ((hfa485 i (fun q => h (mem_subn (by decide) q))).trans ((upx_ne ha47 i (fun q => h (by rw [q]; decide))).trans (upx_ne ha4 i (fun q => h (by rw [q]; decide))))), fun i h => (hfl485 i (fun q => h (mem_subn (by decide) q)))⟩ hP hS dX9_meets_245
                        · skip
                          refine lv_aload_n hE.1 hE.2.1 dX9_meets_220 rfl (lv_at hl 4 rfl) ?_
                          refine x_get (x := .ref (ad 15)) hE hK hP 0 (by decide) (yG_9 rfl) rfl hin9 34 (by decide) mw_1368 rfl dX9_meets_221 ?_
                          refine lv_iload hE.1 hE.2.1 dX9_meets_224 (lv_at hl 0 rfl) ?_
                          refine lv_aload_n hE.1 hE.2.1 dX9_meets_226 rfl (lv_at hl 4 rfl) ?_
                          refine x_get (x := .ref (ad 12)) hE hK hP 0 (by decide) (yG_9 rfl) rfl hin9 22 (by decide) mw_1356 rfl dX9_meets_227 ?_
                          refine lv_aload_n hE.1 hE.2.1 dX9_meets_230 rfl (lv_at hl 4 rfl) ?_
                          refine x_get (x := .int (vl485 0 31)) hE hK hP 0 (by decide) (yG_9 rfl) rfl hin9 31 (by decide) mw_1365 rfl dX9_meets_231 ?_
                          refine x_top (y := iI (w_4)) ((hfr485 0 31 (by decide)).trans ((up_oth hv484 (by decide)).trans ((up_oth hv483 (by decide)).trans ((up_oth hv375 (by decide)).trans ((up_oth hv53 (by decide)).trans ((up_oth hv50 (by decide)).trans ((up_oth hv43 (by decide)).trans ew_4))))))) ?_
                          refine lv_iload hE.1 hE.2.1 dX9_meets_234 (lv_at hl 0 rfl) ?_
                          refine lv_iadd hE.1 hE.2.1 dX9_meets_236 ?_
                          refine x_top (y := iI (w_4 + y485_4)) ((iI_add (w_4) (y485_4)).trans (congrArg iI (by omega))) ?_
                          refine x_iald (j := iI (w_4 + y485_4)) hE hK hP 12 (by decide) (yG_10 rfl) (iI_in (n := 60) (by omega)) dX9_meets_237 ?_
                          obtain ⟨z488, hz488, ez488⟩ := YI_a12 hI ((iI (w_4 + y485_4)).toNatClampNeg)
                          refine x_top ez488 ?_
                          refine x_iast (j := iI (y485_4)) hE hK hN hP hS 15 (by decide) (fun _ => yG_10 rfl) (iI_in (n := 9) (by omega)) dX9_meets_238 (fun ar489 H locs ha489 hP hS => ?_)
                          have hI := YI_ast hI ha489 (by decide)
                          refine lv_iinc (v := iI (y485_4 + 1)) (lv' := [(4, .int (iI (y485_4 + 1))), (3, .int (iI (z470))), (2, .int (iI (z5))), (1, .int (iI (w_1 - w_4))), (0, .ref (ad 0))]) hE.1 hE.2.1 dX9_meets_239 hl (k := 0) rfl ((iI_add (y485_4) (1)).trans (congrArg iI (by omega))) (by decide) rfl (fun ls hl => ?_)
                          refine lv_goto (tgt := 214) hE.1 hE.2.1 dX9_meets_242 (by decide) ?_
                          exact ih485 _ (by omega) (y485_4 + 1)  vl485 ar489 all485 _ _ _ rfl (by omega)  hI (fun i j h => (hfr485 i j h)) (fun i h => ((upx_ne ha489 i (fun q => h (by rw [q]; decide))).trans (hfa485 i h))) (fun i h => (hfl485 i h)) hP hS (lv_sub hl [0, 1, 2, 3, 4] rfl)
                    exact loop485 _ (0)  v484 ar47 al _ _ _ rfl (by omega)  hI (fun _ _ _ => rfl) (fun _ _ => rfl) (fun _ _ => rfl) hP hS hl
                  · skip
                    refine lv_aload_n hE.1 hE.2.1 dX9_meets_192 rfl (lv_at hl 3 rfl) ?_
                    refine lv_iload_n hE.1 hE.2.1 dX9_meets_193 rfl (lv_at hl 2 rfl) ?_
                    refine x_vp (nn := 1) (As := [.int (iI (w_1 - w_4))]) (rest := []) hE (s_X9_isAhead_e l D K ad v375 ar47 al hI  (w_1 - w_4) (by omega)) wPre_blind (wPre_now hK hN hP) (x_recv hK hP 0 (by decide) (yG_9 rfl) rfl) rfl mw_1818 mw_1820 mw_90 mw_123 mw_1821 (by decide +kernel) ⟨by decide, by decide⟩ hl.1 rfl (Nat.le_of_ble_eq_true rfl) ⟨Nat.zero_le _, Nat.zero_le _⟩ dX9_meets_194 (fun r490 hr490 => ?_)
                    obtain ⟨z490, hz490, rfl⟩ := hr490
                    refine s_if_ne (a := z490) (tgt := 201) hE.1 hE.2.1 (by omega) dX9_meets_197 (by decide) (fun c491 => ?_) (fun c491 => ?_)
                    · skip
                      refine lv_aload_n hE.1 hE.2.1 dX9_meets_201 rfl (lv_at hl 3 rfl) ?_
                      refine lv_iload_n hE.1 hE.2.1 dX9_meets_202 rfl (lv_at hl 0 rfl) ?_
                      refine x_put (x := iI (z470)) hE hK hN hP hS 0 (by decide) (yG_9 rfl) rfl hin9 tyX9 tyX9_ok nmX9 32 (by decide) mw_1366 rfl rfl rfl (Nat.le_of_ble_eq_true rfl) (yG_9 rfl) dX9_meets_203 (fun v492 H locs hv492 hP hS => ?_)
                      have hI := YI_putN hI hv492 (by decide)
                      refine lv_aload_n hE.1 hE.2.1 dX9_meets_206 rfl (lv_at hl 3 rfl) ?_
                      refine lv_iload_n hE.1 hE.2.1 dX9_meets_207 rfl (lv_at hl 2 rfl) ?_
                      refine x_put (x := iI (w_1 - w_4)) hE hK hN hP hS 0 (by decide) (yG_9 rfl) rfl hin9 tyX9 tyX9_ok nmX9 33 (by decide) mw_1367 rfl rfl rfl (Nat.le_of_ble_eq_true rfl) (yG_9 rfl) dX9_meets_208 (fun v493 H locs hv493 hP hS => ?_)
                      have hI := YI_putB (z := w_1 - w_4) hI hv493 (-1) 9 (by omega) (by decide) (by omega)
                      refine lv_iconst (v := iI (0)) hE.1 hE.2.1 dX9_meets_211 (by decide) ?_
                      refine lv_istore (lv' := [(4, .int (iI (0))), (3, .int (iI (z470))), (2, .int (iI (z5))), (1, .int (iI (w_1 - w_4))), (0, .ref (ad 0))]) hE.1 hE.2.1 dX9_meets_212 hl (by decide) rfl (fun ls hl => ?_)
                      have loop494 : ∀ (k494 : Nat) (y494_4 : Int) (vl494 arl494 : sI) (all494 : sL) (H : Heap) (locs : List Loc) (ls : Array Slot), (9 - y494_4).toNat = k494 → (0 ≤ y494_4 ∧ y494_4 ≤ 9) → YI vl494 arl494 → (∀ i j : Nat, (i, j) ∉ ([] : List (Nat × Nat)) → vl494 i j = v493 i j) → (∀ i : Nat, i ∉ ([15] : List Nat) → arl494 i = ar47 i) → (∀ i : Nat, i ∉ ([] : List Nat) → all494 i = al i) → va_P D xcl (wW ad (yG ad K) 21 vl494 arl494 all494) H → va_S (inW ad 21) s.heap H locs → lv_has ls 5 [(4, .int (iI (y494_4))), (3, .int (iI (z470))), (2, .int (iI (z5))), (1, .int (iI (w_1 - w_4))), (0, .ref (ad 0))] → W p l e (rmD 3) s m args below meth c H locs 0 0 Q (F0 m 214 ls []) := by
                        intro k494
                        induction k494 using Nat.strongRecOn with
                        | _ k494 ih494 =>
                          intro y494_4  vl494 arl494 all494 H locs ls hk494 hb_y494_4 hI hfr494 hfa494 hfl494 hP hS hl
                          refine lv_iload hE.1 hE.2.1 dX9_meets_214 (lv_at hl 0 rfl) ?_
                          refine lv_iload_n hE.1 hE.2.1 dX9_meets_216 rfl (lv_at hl 3 rfl) ?_
                          refine s_icmp_ge (a := y494_4) (b := w_1 - w_4) (tgt := 245) hE.1 hE.2.1 (by omega) (by omega) dX9_meets_217 (by decide) (fun c495 => ?_) (fun c495 => ?_)
                          · skip
                            exact kr vl494 arl494 all494 _ _ _ _ ⟨hI, fun i j h => ((hfr494 i j (fun q => h (mem_sub (by decide) q))).trans ((up_oth hv493 (fun q => h (by rcases q with ⟨rfl, rfl⟩; decide))).trans ((up_oth hv492 (fun q => h (by rcases q with ⟨rfl, rfl⟩; decide))).trans ((up_oth hv375 (fun q => h (by rcases q with ⟨rfl, rfl⟩; decide))).trans ((up_oth hv53 (fun q => h (by rcases q with ⟨rfl, rfl⟩; decide))).trans ((up_oth hv50 (fun q => h (by rcases q with ⟨rfl, rfl⟩; decide))).trans (up_oth hv43 (fun q => h (by rcases q with ⟨rfl, rfl⟩; decide))))))))), fun i h => ((hfa494 i (fun q => h (mem_subn (by decide) q))).trans ((upx_ne ha47 i (fun q => h (by rw [q]; decide))).trans (upx_ne ha4 i (fun q => h (by rw [q]; decide))))), fun i h => (hfl494 i (fun q => h (mem_subn (by decide) q)))⟩ hP hS dX9_meets_245
                          · skip
                            refine lv_aload_n hE.1 hE.2.1 dX9_meets_220 rfl (lv_at hl 4 rfl) ?_
                            refine x_get (x := .ref (ad 15)) hE hK hP 0 (by decide) (yG_9 rfl) rfl hin9 34 (by decide) mw_1368 rfl dX9_meets_221 ?_
                            refine lv_iload hE.1 hE.2.1 dX9_meets_224 (lv_at hl 0 rfl) ?_
                            refine lv_aload_n hE.1 hE.2.1 dX9_meets_226 rfl (lv_at hl 4 rfl) ?_
                            refine x_get (x := .ref (ad 12)) hE hK hP 0 (by decide) (yG_9 rfl) rfl hin9 22 (by decide) mw_1356 rfl dX9_meets_227 ?_
                            refine lv_aload_n hE.1 hE.2.1 dX9_meets_230 rfl (lv_at hl 4 rfl) ?_
                            refine x_get (x := .int (vl494 0 31)) hE hK hP 0 (by decide) (yG_9 rfl) rfl hin9 31 (by decide) mw_1365 rfl dX9_meets_231 ?_
                            refine x_top (y := iI (w_4)) ((hfr494 0 31 (by decide)).trans ((up_oth hv493 (by decide)).trans ((up_oth hv492 (by decide)).trans ((up_oth hv375 (by decide)).trans ((up_oth hv53 (by decide)).trans ((up_oth hv50 (by decide)).trans ((up_oth hv43 (by decide)).trans ew_4))))))) ?_
                            refine lv_iload hE.1 hE.2.1 dX9_meets_234 (lv_at hl 0 rfl) ?_
                            refine lv_iadd hE.1 hE.2.1 dX9_meets_236 ?_
                            refine x_top (y := iI (w_4 + y494_4)) ((iI_add (w_4) (y494_4)).trans (congrArg iI (by omega))) ?_
                            refine x_iald (j := iI (w_4 + y494_4)) hE hK hP 12 (by decide) (yG_10 rfl) (iI_in (n := 60) (by omega)) dX9_meets_237 ?_
                            obtain ⟨z497, hz497, ez497⟩ := YI_a12 hI ((iI (w_4 + y494_4)).toNatClampNeg)
                            refine x_top ez497 ?_
                            refine x_iast (j := iI (y494_4)) hE hK hN hP hS 15 (by decide) (fun _ => yG_10 rfl) (iI_in (n := 9) (by omega)) dX9_meets_238 (fun ar498 H locs ha498 hP hS => ?_)
                            have hI := YI_ast hI ha498 (by decide)
                            refine lv_iinc (v := iI (y494_4 + 1)) (lv' := [(4, .int (iI (y494_4 + 1))), (3, .int (iI (z470))), (2, .int (iI (z5))), (1, .int (iI (w_1 - w_4))), (0, .ref (ad 0))]) hE.1 hE.2.1 dX9_meets_239 hl (k := 0) rfl ((iI_add (y494_4) (1)).trans (congrArg iI (by omega))) (by decide) rfl (fun ls hl => ?_)
                            refine lv_goto (tgt := 214) hE.1 hE.2.1 dX9_meets_242 (by decide) ?_
                            exact ih494 _ (by omega) (y494_4 + 1)  vl494 ar498 all494 _ _ _ rfl (by omega)  hI (fun i j h => (hfr494 i j h)) (fun i h => ((upx_ne ha498 i (fun q => h (by rw [q]; decide))).trans (hfa494 i h))) (fun i h => (hfl494 i h)) hP hS (lv_sub hl [0, 1, 2, 3, 4] rfl)
                      exact loop494 _ (0)  v493 ar47 al _ _ _ rfl (by omega)  hI (fun _ _ _ => rfl) (fun _ _ => rfl) (fun _ _ => rfl) hP hS hl
                    · skip
                      exact kr v375 ar47 al _ _ _ _ ⟨hI, fun i j h => ((up_oth hv375 (fun q => h (by rcases q with ⟨rfl, rfl⟩; decide))).trans ((up_oth hv53 (fun q => h (by rcases q with ⟨rfl, rfl⟩; decide))).trans ((up_oth hv50 (fun q => h (by rcases q with ⟨rfl, rfl⟩; decide))).trans (up_oth hv43 (fun q => h (by rcases q with ⟨rfl, rfl⟩; decide)))))), fun i h => ((upx_ne ha47 i (fun q => h (by rw [q]; decide))).trans (upx_ne ha4 i (fun q => h (by rw [q]; decide)))), fun i h => rfl⟩ hP hS dX9_meets_200
          · skip
            refine lv_aload_n hE.1 hE.2.1 dX9_meets_126 rfl (lv_at hl 2 rfl) ?_
            obtain ⟨z499, hz499, ez499⟩ := iI_of (v375 0 27)
            refine x_get (x := .int (v375 0 27)) hE hK hP 0 (by decide) (yG_9 rfl) rfl hin9 27 (by decide) mw_1361 rfl dX9_meets_127 ?_
            refine x_top (y := iI (z499)) ez499 ?_
            refine lv_aload_n hE.1 hE.2.1 dX9_meets_130 rfl (lv_at hl 2 rfl) ?_
            obtain ⟨z500, hz500, ez500⟩ := iI_of (v375 0 30)
            refine x_get (x := .int (v375 0 30)) hE hK hP 0 (by decide) (yG_9 rfl) rfl hin9 30 (by decide) mw_1364 rfl dX9_meets_131 ?_
            refine x_top (y := iI (z500)) ez500 ?_
            refine s_icmp_ge (a := z499) (b := z500) (tgt := 138) hE.1 hE.2.1 (by omega) (by omega) dX9_meets_134 (by decide) (fun c501 => ?_) (fun c501 => ?_)
            · skip
              refine lv_aload_n hE.1 hE.2.1 dX9_meets_138 rfl (lv_at hl 2 rfl) ?_
              refine x_get (x := .int (v375 0 29)) hE hK hP 0 (by decide) (yG_9 rfl) rfl hin9 29 (by decide) mw_1363 rfl dX9_meets_139 ?_
              refine x_top (y := iI (z376)) ez376 ?_
              refine lv_iconst (v := iI (2)) hE.1 hE.2.1 dX9_meets_142 (by decide) ?_
              refine s_icmp_ne (a := z376) (b := 2) (tgt := 153) hE.1 hE.2.1 (by omega) (by omega) dX9_meets_143 (by decide) (fun _ => ?_) (fun c502 => False.elim (by omega))
              refine lv_aload_n hE.1 hE.2.1 dX9_meets_153 rfl (lv_at hl 2 rfl) ?_
              refine x_get (x := .int (v375 0 29)) hE hK hP 0 (by decide) (yG_9 rfl) rfl hin9 29 (by decide) mw_1363 rfl dX9_meets_154 ?_
              refine x_top (y := iI (z376)) ez376 ?_
              refine lv_iconst (v := iI (3)) hE.1 hE.2.1 dX9_meets_157 (by decide) ?_
              refine s_icmp_ne (a := z376) (b := 3) (tgt := 166) hE.1 hE.2.1 (by omega) (by omega) dX9_meets_158 (by decide) (fun c503 => False.elim (by omega)) (fun _ => ?_)
              refine lv_iload_n hE.1 hE.2.1 dX9_meets_161 rfl (lv_at hl 1 rfl) ?_
              refine lv_ineg hE.1 hE.2.1 dX9_meets_162 ?_
              obtain ⟨z504, hz504, ez504⟩ := iI_of (-iI (w_1 - w_4))
              refine x_top ez504 ?_
              refine lv_goto (tgt := 167) hE.1 hE.2.1 dX9_meets_163 (by decide) ?_
              refine lv_istore_n (lv' := [(3, .int (iI (z504))), (2, .int (iI (z5))), (1, .int (iI (w_1 - w_4))), (0, .ref (ad 0))]) hE.1 hE.2.1 dX9_meets_167 rfl hl (by decide) rfl (fun ls hl => ?_)
              refine lv_aload_n hE.1 hE.2.1 dX9_meets_168 rfl (lv_at hl 3 rfl) ?_
              obtain ⟨z505, hz505, ez505⟩ := YI_get hI 0 33 (-1) 9 (by decide)
              refine x_get (x := .int (v375 0 33)) hE hK hP 0 (by decide) (yG_9 rfl) rfl hin9 33 (by decide) mw_1367 rfl dX9_meets_169 ?_
              refine x_top (y := iI (z505)) ez505 ?_
              refine lv_iconst (v := iI (-1)) hE.1 hE.2.1 dX9_meets_172 (by decide) ?_
              refine s_icmp_eq (a := z505) (b := -1) (tgt := 201) hE.1 hE.2.1 (by omega) (by omega) dX9_meets_173 (by decide) (fun c506 => ?_) (fun c506 => ?_)
              · skip
                refine lv_aload_n hE.1 hE.2.1 dX9_meets_201 rfl (lv_at hl 3 rfl) ?_
                refine lv_iload_n hE.1 hE.2.1 dX9_meets_202 rfl (lv_at hl 0 rfl) ?_
                refine x_put (x := iI (z504)) hE hK hN hP hS 0 (by decide) (yG_9 rfl) rfl hin9 tyX9 tyX9_ok nmX9 32 (by decide) mw_1366 rfl rfl rfl (Nat.le_of_ble_eq_true rfl) (yG_9 rfl) dX9_meets_203 (fun v507 H locs hv507 hP hS => ?_)
                have hI := YI_putN hI hv507 (by decide)
                refine lv_aload_n hE.1 hE.2.1 dX9_meets_206 rfl (lv_at hl 3 rfl) ?_
                refine lv_iload_n hE.1 hE.2.1 dX9_meets_207 rfl (lv_at hl 2 rfl) ?_
                refine x_put (x := iI (w_1 - w_4)) hE hK hN hP hS 0 (by decide) (yG_9 rfl) rfl hin9 tyX9 tyX9_ok nmX9 33 (by decide) mw_1367 rfl rfl rfl (Nat.le_of_ble_eq_true rfl) (yG_9 rfl) dX9_meets_208 (fun v508 H locs hv508 hP hS => ?_)
                have hI := YI_putB (z := w_1 - w_4) hI hv508 (-1) 9 (by omega) (by decide) (by omega)
                refine lv_iconst (v := iI (0)) hE.1 hE.2.1 dX9_meets_211 (by decide) ?_
                refine lv_istore (lv' := [(4, .int (iI (0))), (3, .int (iI (z504))), (2, .int (iI (z5))), (1, .int (iI (w_1 - w_4))), (0, .ref (ad 0))]) hE.1 hE.2.1 dX9_meets_212 hl (by decide) rfl (fun ls hl => ?_)
                have loop509 : ∀ (k509 : Nat) (y509_4 : Int) (vl509 arl509 : sI) (all509 : sL) (H : Heap) (locs : List Loc) (ls : Array Slot), (9 - y509_4).toNat = k509 → (0 ≤ y509_4 ∧ y509_4 ≤ 9) → YI vl509 arl509 → (∀ i j : Nat, (i, j) ∉ ([] : List (Nat × Nat)) → vl509 i j = v508 i j) → (∀ i : Nat, i ∉ ([15] : List Nat) → arl509 i = ar47 i) → (∀ i : Nat, i ∉ ([] : List Nat) → all509 i = al i) → va_P D xcl (wW ad (yG ad K) 21 vl509 arl509 all509) H → va_S (inW ad 21) s.heap H locs → lv_has ls 5 [(4, .int (iI (y509_4))), (3, .int (iI (z504))), (2, .int (iI (z5))), (1, .int (iI (w_1 - w_4))), (0, .ref (ad 0))] → W p l e (rmD 3) s m args below meth c H locs 0 0 Q (F0 m 214 ls []) := by
                  intro k509
                  induction k509 using Nat.strongRecOn with
                  | _ k509 ih509 =>
                    intro y509_4  vl509 arl509 all509 H locs ls hk509 hb_y509_4 hI hfr509 hfa509 hfl509 hP hS hl
                    refine lv_iload hE.1 hE.2.1 dX9_meets_214 (lv_at hl 0 rfl) ?_
                    refine lv_iload_n hE.1 hE.2.1 dX9_meets_216 rfl (lv_at hl 3 rfl) ?_
                    refine s_icmp_ge (a := y509_4) (b := w_1 - w_4) (tgt := 245) hE.1 hE.2.1 (by omega) (by omega) dX9_meets_217 (by decide) (fun c510 => ?_) (fun c510 => ?_)
                    · skip
                      exact kr vl509 arl509 all509 _ _ _ _ ⟨hI, fun i j h => ((hfr509 i j (fun q => h (mem_sub (by decide) q))).trans ((up_oth hv508 (fun q => h (by rcases q with ⟨rfl, rfl⟩; decide))).trans ((up_oth hv507 (fun q => h (by rcases q with ⟨rfl, rfl⟩; decide))).trans ((up_oth hv375 (fun q => h (by rcases q with ⟨rfl, rfl⟩; decide))).trans ((up_oth hv53 (fun q => h (by rcases q with ⟨rfl, rfl⟩; decide))).trans ((up_oth hv50 (fun q => h (by rcases q with ⟨rfl, rfl⟩; decide))).trans (up_oth hv43 (fun q => h (by rcases q with ⟨rfl, rfl⟩; decide))))))))), fun i h => ((hfa509 i (fun q => h (mem_subn (by decide) q))).trans ((upx_ne ha47 i (fun q => h (by rw [q]; decide))).trans (upx_ne ha4 i (fun q => h (by rw [q]; decide))))), fun i h => (hfl509 i (fun q => h (mem_subn (by decide) q)))⟩ hP hS dX9_meets_245
                    · skip
                      refine lv_aload_n hE.1 hE.2.1 dX9_meets_220 rfl (lv_at hl 4 rfl) ?_
                      refine x_get (x := .ref (ad 15)) hE hK hP 0 (by decide) (yG_9 rfl) rfl hin9 34 (by decide) mw_1368 rfl dX9_meets_221 ?_
                      refine lv_iload hE.1 hE.2.1 dX9_meets_224 (lv_at hl 0 rfl) ?_
                      refine lv_aload_n hE.1 hE.2.1 dX9_meets_226 rfl (lv_at hl 4 rfl) ?_
                      refine x_get (x := .ref (ad 12)) hE hK hP 0 (by decide) (yG_9 rfl) rfl hin9 22 (by decide) mw_1356 rfl dX9_meets_227 ?_
                      refine lv_aload_n hE.1 hE.2.1 dX9_meets_230 rfl (lv_at hl 4 rfl) ?_
                      refine x_get (x := .int (vl509 0 31)) hE hK hP 0 (by decide) (yG_9 rfl) rfl hin9 31 (by decide) mw_1365 rfl dX9_meets_231 ?_
                      refine x_top (y := iI (w_4)) ((hfr509 0 31 (by decide)).trans ((up_oth hv508 (by decide)).trans ((up_oth hv507 (by decide)).trans ((up_oth hv375 (by decide)).trans ((up_oth hv53 (by decide)).trans ((up_oth hv50 (by decide)).trans ((up_oth hv43 (by decide)).trans ew_4))))))) ?_
                      refine lv_iload hE.1 hE.2.1 dX9_meets_234 (lv_at hl 0 rfl) ?_
                      refine lv_iadd hE.1 hE.2.1 dX9_meets_236 ?_
                      refine x_top (y := iI (w_4 + y509_4)) ((iI_add (w_4) (y509_4)).trans (congrArg iI (by omega))) ?_
                      refine x_iald (j := iI (w_4 + y509_4)) hE hK hP 12 (by decide) (yG_10 rfl) (iI_in (n := 60) (by omega)) dX9_meets_237 ?_
                      obtain ⟨z512, hz512, ez512⟩ := YI_a12 hI ((iI (w_4 + y509_4)).toNatClampNeg)
                      refine x_top ez512 ?_
                      refine x_iast (j := iI (y509_4)) hE hK hN hP hS 15 (by decide) (fun _ => yG_10 rfl) (iI_in (n := 9) (by omega)) dX9_meets_238 (fun ar513 H locs ha513 hP hS => ?_)
                      have hI := YI_ast hI ha513 (by decide)
                      refine lv_iinc (v := iI (y509_4 + 1)) (lv' := [(4, .int (iI (y509_4 + 1))), (3, .int (iI (z504))), (2, .int (iI (z5))), (1, .int (iI (w_1 - w_4))), (0, .ref (ad 0))]) hE.1 hE.2.1 dX9_meets_239 hl (k := 0) rfl ((iI_add (y509_4) (1)).trans (congrArg iI (by omega))) (by decide) rfl (fun ls hl => ?_)
                      refine lv_goto (tgt := 214) hE.1 hE.2.1 dX9_meets_242 (by decide) ?_
                      exact ih509 _ (by omega) (y509_4 + 1)  vl509 ar513 all509 _ _ _ rfl (by omega)  hI (fun i j h => (hfr509 i j h)) (fun i h => ((upx_ne ha513 i (fun q => h (by rw [q]; decide))).trans (hfa509 i h))) (fun i h => (hfl509 i h)) hP hS (lv_sub hl [0, 1, 2, 3, 4] rfl)
                exact loop509 _ (0)  v508 ar47 al _ _ _ rfl (by omega)  hI (fun _ _ _ => rfl) (fun _ _ => rfl) (fun _ _ => rfl) hP hS hl
              · skip
                refine lv_iload_n hE.1 hE.2.1 dX9_meets_176 rfl (lv_at hl 0 rfl) ?_
                refine lv_aload_n hE.1 hE.2.1 dX9_meets_177 rfl (lv_at hl 3 rfl) ?_
                obtain ⟨z514, hz514, ez514⟩ := iI_of (v375 0 32)
                refine x_get (x := .int (v375 0 32)) hE hK hP 0 (by decide) (yG_9 rfl) rfl hin9 32 (by decide) mw_1366 rfl dX9_meets_178 ?_
                refine x_top (y := iI (z514)) ez514 ?_
                refine s_icmp_lt (a := z504) (b := z514) (tgt := 200) hE.1 hE.2.1 (by omega) (by omega) dX9_meets_181 (by decide) (fun c515 => ?_) (fun c515 => ?_)
                · skip
                  exact kr v375 ar47 al _ _ _ _ ⟨hI, fun i j h => ((up_oth hv375 (fun q => h (by rcases q with ⟨rfl, rfl⟩; decide))).trans ((up_oth hv53 (fun q => h (by rcases q with ⟨rfl, rfl⟩; decide))).trans ((up_oth hv50 (fun q => h (by rcases q with ⟨rfl, rfl⟩; decide))).trans (up_oth hv43 (fun q => h (by rcases q with ⟨rfl, rfl⟩; decide)))))), fun i h => ((upx_ne ha47 i (fun q => h (by rw [q]; decide))).trans (upx_ne ha4 i (fun q => h (by rw [q]; decide)))), fun i h => rfl⟩ hP hS dX9_meets_200
                · skip
                  refine lv_iload_n hE.1 hE.2.1 dX9_meets_184 rfl (lv_at hl 0 rfl) ?_
                  refine lv_aload_n hE.1 hE.2.1 dX9_meets_185 rfl (lv_at hl 3 rfl) ?_
                  refine x_get (x := .int (v375 0 32)) hE hK hP 0 (by decide) (yG_9 rfl) rfl hin9 32 (by decide) mw_1366 rfl dX9_meets_186 ?_
                  refine x_top (y := iI (z514)) ez514 ?_
                  refine s_icmp_ne (a := z504) (b := z514) (tgt := 201) hE.1 hE.2.1 (by omega) (by omega) dX9_meets_189 (by decide) (fun c516 => ?_) (fun c516 => ?_)
                  · skip
                    refine lv_aload_n hE.1 hE.2.1 dX9_meets_201 rfl (lv_at hl 3 rfl) ?_
                    refine lv_iload_n hE.1 hE.2.1 dX9_meets_202 rfl (lv_at hl 0 rfl) ?_
                    refine x_put (x := iI (z504)) hE hK hN hP hS 0 (by decide) (yG_9 rfl) rfl hin9 tyX9 tyX9_ok nmX9 32 (by decide) mw_1366 rfl rfl rfl (Nat.le_of_ble_eq_true rfl) (yG_9 rfl) dX9_meets_203 (fun v517 H locs hv517 hP hS => ?_)
                    have hI := YI_putN hI hv517 (by decide)
                    refine lv_aload_n hE.1 hE.2.1 dX9_meets_206 rfl (lv_at hl 3 rfl) ?_
                    refine lv_iload_n hE.1 hE.2.1 dX9_meets_207 rfl (lv_at hl 2 rfl) ?_
                    refine x_put (x := iI (w_1 - w_4)) hE hK hN hP hS 0 (by decide) (yG_9 rfl) rfl hin9 tyX9 tyX9_ok nmX9 33 (by decide) mw_1367 rfl rfl rfl (Nat.le_of_ble_eq_true rfl) (yG_9 rfl) dX9_meets_208 (fun v518 H locs hv518 hP hS => ?_)
                    have hI := YI_putB (z := w_1 - w_4) hI hv518 (-1) 9 (by omega) (by decide) (by omega)
                    refine lv_iconst (v := iI (0)) hE.1 hE.2.1 dX9_meets_211 (by decide) ?_
                    refine lv_istore (lv' := [(4, .int (iI (0))), (3, .int (iI (z504))), (2, .int (iI (z5))), (1, .int (iI (w_1 - w_4))), (0, .ref (ad 0))]) hE.1 hE.2.1 dX9_meets_212 hl (by decide) rfl (fun ls hl => ?_)
                    have loop519 : ∀ (k519 : Nat) (y519_4 : Int) (vl519 arl519 : sI) (all519 : sL) (H : Heap) (locs : List Loc) (ls : Array Slot), (9 - y519_4).toNat = k519 → (0 ≤ y519_4 ∧ y519_4 ≤ 9) → YI vl519 arl519 → (∀ i j : Nat, (i, j) ∉ ([] : List (Nat × Nat)) → vl519 i j = v518 i j) → (∀ i : Nat, i ∉ ([15] : List Nat) → arl519 i = ar47 i) → (∀ i : Nat, i ∉ ([] : List Nat) → all519 i = al i) → va_P D xcl (wW ad (yG ad K) 21 vl519 arl519 all519) H → va_S (inW ad 21) s.heap H locs → lv_has ls 5 [(4, .int (iI (y519_4))), (3, .int (iI (z504))), (2, .int (iI (z5))), (1, .int (iI (w_1 - w_4))), (0, .ref (ad 0))] → W p l e (rmD 3) s m args below meth c H locs 0 0 Q (F0 m 214 ls []) := by
                      intro k519
                      induction k519 using Nat.strongRecOn with
                      | _ k519 ih519 =>
                        intro y519_4  vl519 arl519 all519 H locs ls hk519 hb_y519_4 hI hfr519 hfa519 hfl519 hP hS hl
                        refine lv_iload hE.1 hE.2.1 dX9_meets_214 (lv_at hl 0 rfl) ?_
                        refine lv_iload_n hE.1 hE.2.1 dX9_meets_216 rfl (lv_at hl 3 rfl) ?_
                        refine s_icmp_ge (a := y519_4) (b := w_1 - w_4) (tgt := 245) hE.1 hE.2.1 (by omega) (by omega) dX9_meets_217 (by decide) (fun c520 => ?_) (fun c520 => ?_)
                        · skip
                          exact kr vl519 arl519 all519 _ _ _ _ ⟨hI, fun i j h => ((hfr519 i j (fun q => h (mem_sub (by decide) q))).trans ((up_oth hv518 (fun q => h (by rcases q with ⟨rfl, rfl⟩; decide))).trans ((up_oth hv517 (fun q => h (by rcases q with ⟨rfl, rfl⟩; decide))).trans ((up_oth hv375 (fun q => h (by rcases q with ⟨rfl, rfl⟩; decide))).trans ((up_oth hv53 (fun q => h (by rcases q with ⟨rfl, rfl⟩; decide))).trans ((up_oth hv50 (fun q => h (by rcases q with ⟨rfl, rfl⟩; decide))).trans (up_oth hv43 (fun q => h (by rcases q with ⟨rfl, rfl⟩; decide))))))))), fun i h => ((hfa519 i (fun q => h (mem_subn (by decide) q))).trans ((upx_ne ha47 i (fun q => h (by rw [q]; decide))).trans (upx_ne ha4 i (fun q => h (by rw [q]; decide))))), fun i h => (hfl519 i (fun q => h (mem_subn (by decide) q)))⟩ hP hS dX9_meets_245
                        · skip
                          refine lv_aload_n hE.1 hE.2.1 dX9_meets_220 rfl (lv_at hl 4 rfl) ?_
                          refine x_get (x := .ref (ad 15)) hE hK hP 0 (by decide) (yG_9 rfl) rfl hin9 34 (by decide) mw_1368 rfl dX9_meets_221 ?_
                          refine lv_iload hE.1 hE.2.1 dX9_meets_224 (lv_at hl 0 rfl) ?_
                          refine lv_aload_n hE.1 hE.2.1 dX9_meets_226 rfl (lv_at hl 4 rfl) ?_
                          refine x_get (x := .ref (ad 12)) hE hK hP 0 (by decide) (yG_9 rfl) rfl hin9 22 (by decide) mw_1356 rfl dX9_meets_227 ?_
                          refine lv_aload_n hE.1 hE.2.1 dX9_meets_230 rfl (lv_at hl 4 rfl) ?_
                          refine x_get (x := .int (vl519 0 31)) hE hK hP 0 (by decide) (yG_9 rfl) rfl hin9 31 (by decide) mw_1365 rfl dX9_meets_231 ?_
                          refine x_top (y := iI (w_4)) ((hfr519 0 31 (by decide)).trans ((up_oth hv518 (by decide)).trans ((up_oth hv517 (by decide)).trans ((up_oth hv375 (by decide)).trans ((up_oth hv53 (by decide)).trans ((up_oth hv50 (by decide)).trans ((up_oth hv43 (by decide)).trans ew_4))))))) ?_
                          refine lv_iload hE.1 hE.2.1 dX9_meets_234 (lv_at hl 0 rfl) ?_
                          refine lv_iadd hE.1 hE.2.1 dX9_meets_236 ?_
                          refine x_top (y := iI (w_4 + y519_4)) ((iI_add (w_4) (y519_4)).trans (congrArg iI (by omega))) ?_
                          refine x_iald (j := iI (w_4 + y519_4)) hE hK hP 12 (by decide) (yG_10 rfl) (iI_in (n := 60) (by omega)) dX9_meets_237 ?_
                          obtain ⟨z522, hz522, ez522⟩ := YI_a12 hI ((iI (w_4 + y519_4)).toNatClampNeg)
                          refine x_top ez522 ?_
                          refine x_iast (j := iI (y519_4)) hE hK hN hP hS 15 (by decide) (fun _ => yG_10 rfl) (iI_in (n := 9) (by omega)) dX9_meets_238 (fun ar523 H locs ha523 hP hS => ?_)
                          have hI := YI_ast hI ha523 (by decide)
                          refine lv_iinc (v := iI (y519_4 + 1)) (lv' := [(4, .int (iI (y519_4 + 1))), (3, .int (iI (z504))), (2, .int (iI (z5))), (1, .int (iI (w_1 - w_4))), (0, .ref (ad 0))]) hE.1 hE.2.1 dX9_meets_239 hl (k := 0) rfl ((iI_add (y519_4) (1)).trans (congrArg iI (by omega))) (by decide) rfl (fun ls hl => ?_)
                          refine lv_goto (tgt := 214) hE.1 hE.2.1 dX9_meets_242 (by decide) ?_
                          exact ih519 _ (by omega) (y519_4 + 1)  vl519 ar523 all519 _ _ _ rfl (by omega)  hI (fun i j h => (hfr519 i j h)) (fun i h => ((upx_ne ha523 i (fun q => h (by rw [q]; decide))).trans (hfa519 i h))) (fun i h => (hfl519 i h)) hP hS (lv_sub hl [0, 1, 2, 3, 4] rfl)
                    exact loop519 _ (0)  v518 ar47 al _ _ _ rfl (by omega)  hI (fun _ _ _ => rfl) (fun _ _ => rfl) (fun _ _ => rfl) hP hS hl
                  · skip
                    refine lv_aload_n hE.1 hE.2.1 dX9_meets_192 rfl (lv_at hl 3 rfl) ?_
                    refine lv_iload_n hE.1 hE.2.1 dX9_meets_193 rfl (lv_at hl 2 rfl) ?_
                    refine x_vp (nn := 1) (As := [.int (iI (w_1 - w_4))]) (rest := []) hE (s_X9_isAhead_e l D K ad v375 ar47 al hI  (w_1 - w_4) (by omega)) wPre_blind (wPre_now hK hN hP) (x_recv hK hP 0 (by decide) (yG_9 rfl) rfl) rfl mw_1818 mw_1820 mw_90 mw_123 mw_1821 (by decide +kernel) ⟨by decide, by decide⟩ hl.1 rfl (Nat.le_of_ble_eq_true rfl) ⟨Nat.zero_le _, Nat.zero_le _⟩ dX9_meets_194 (fun r524 hr524 => ?_)
                    obtain ⟨z524, hz524, rfl⟩ := hr524
                    refine s_if_ne (a := z524) (tgt := 201) hE.1 hE.2.1 (by omega) dX9_meets_197 (by decide) (fun c525 => ?_) (fun c525 => ?_)
                    · skip
                      refine lv_aload_n hE.1 hE.2.1 dX9_meets_201 rfl (lv_at hl 3 rfl) ?_
                      refine lv_iload_n hE.1 hE.2.1 dX9_meets_202 rfl (lv_at hl 0 rfl) ?_
                      refine x_put (x := iI (z504)) hE hK hN hP hS 0 (by decide) (yG_9 rfl) rfl hin9 tyX9 tyX9_ok nmX9 32 (by decide) mw_1366 rfl rfl rfl (Nat.le_of_ble_eq_true rfl) (yG_9 rfl) dX9_meets_203 (fun v526 H locs hv526 hP hS => ?_)
                      have hI := YI_putN hI hv526 (by decide)
                      refine lv_aload_n hE.1 hE.2.1 dX9_meets_206 rfl (lv_at hl 3 rfl) ?_
                      refine lv_iload_n hE.1 hE.2.1 dX9_meets_207 rfl (lv_at hl 2 rfl) ?_
                      refine x_put (x := iI (w_1 - w_4)) hE hK hN hP hS 0 (by decide) (yG_9 rfl) rfl hin9 tyX9 tyX9_ok nmX9 33 (by decide) mw_1367 rfl rfl rfl (Nat.le_of_ble_eq_true rfl) (yG_9 rfl) dX9_meets_208 (fun v527 H locs hv527 hP hS => ?_)
                      have hI := YI_putB (z := w_1 - w_4) hI hv527 (-1) 9 (by omega) (by decide) (by omega)
                      refine lv_iconst (v := iI (0)) hE.1 hE.2.1 dX9_meets_211 (by decide) ?_
                      refine lv_istore (lv' := [(4, .int (iI (0))), (3, .int (iI (z504))), (2, .int (iI (z5))), (1, .int (iI (w_1 - w_4))), (0, .ref (ad 0))]) hE.1 hE.2.1 dX9_meets_212 hl (by decide) rfl (fun ls hl => ?_)
                      have loop528 : ∀ (k528 : Nat) (y528_4 : Int) (vl528 arl528 : sI) (all528 : sL) (H : Heap) (locs : List Loc) (ls : Array Slot), (9 - y528_4).toNat = k528 → (0 ≤ y528_4 ∧ y528_4 ≤ 9) → YI vl528 arl528 → (∀ i j : Nat, (i, j) ∉ ([] : List (Nat × Nat)) → vl528 i j = v527 i j) → (∀ i : Nat, i ∉ ([15] : List Nat) → arl528 i = ar47 i) → (∀ i : Nat, i ∉ ([] : List Nat) → all528 i = al i) → va_P D xcl (wW ad (yG ad K) 21 vl528 arl528 all528) H → va_S (inW ad 21) s.heap H locs → lv_has ls 5 [(4, .int (iI (y528_4))), (3, .int (iI (z504))), (2, .int (iI (z5))), (1, .int (iI (w_1 - w_4))), (0, .ref (ad 0))] → W p l e (rmD 3) s m args below meth c H locs 0 0 Q (F0 m 214 ls []) := by
                        intro k528
                        induction k528 using Nat.strongRecOn with
                        | _ k528 ih528 =>
                          intro y528_4  vl528 arl528 all528 H locs ls hk528 hb_y528_4 hI hfr528 hfa528 hfl528 hP hS hl
                          refine lv_iload hE.1 hE.2.1 dX9_meets_214 (lv_at hl 0 rfl) ?_
                          refine lv_iload_n hE.1 hE.2.1 dX9_meets_216 rfl (lv_at hl 3 rfl) ?_
                          refine s_icmp_ge (a := y528_4) (b := w_1 - w_4) (tgt := 245) hE.1 hE.2.1 (by omega) (by omega) dX9_meets_217 (by decide) (fun c529 => ?_) (fun c529 => ?_)
                          · skip
                            exact kr vl528 arl528 all528 _ _ _ _ ⟨hI, fun i j h => ((hfr528 i j (fun q => h (mem_sub (by decide) q))).trans ((up_oth hv527 (fun q => h (by rcases q with ⟨rfl, rfl⟩; decide))).trans ((up_oth hv526 (fun q => h (by rcases q with ⟨rfl, rfl⟩; decide))).trans ((up_oth hv375 (fun q => h (by rcases q with ⟨rfl, rfl⟩; decide))).trans ((up_oth hv53 (fun q => h (by rcases q with ⟨rfl, rfl⟩; decide))).trans ((up_oth hv50 (fun q => h (by rcases q with ⟨rfl, rfl⟩; decide))).trans (up_oth hv43 (fun q => h (by rcases q with ⟨rfl, rfl⟩; decide))))))))), fun i h => ((hfa528 i (fun q => h (mem_subn (by decide) q))).trans ((upx_ne ha47 i (fun q => h (by rw [q]; decide))).trans (upx_ne ha4 i (fun q => h (by rw [q]; decide))))), fun i h => (hfl528 i (fun q => h (mem_subn (by decide) q)))⟩ hP hS dX9_meets_245
                          · skip
                            refine lv_aload_n hE.1 hE.2.1 dX9_meets_220 rfl (lv_at hl 4 rfl) ?_
                            refine x_get (x := .ref (ad 15)) hE hK hP 0 (by decide) (yG_9 rfl) rfl hin9 34 (by decide) mw_1368 rfl dX9_meets_221 ?_
                            refine lv_iload hE.1 hE.2.1 dX9_meets_224 (lv_at hl 0 rfl) ?_
                            refine lv_aload_n hE.1 hE.2.1 dX9_meets_226 rfl (lv_at hl 4 rfl) ?_
                            refine x_get (x := .ref (ad 12)) hE hK hP 0 (by decide) (yG_9 rfl) rfl hin9 22 (by decide) mw_1356 rfl dX9_meets_227 ?_
                            refine lv_aload_n hE.1 hE.2.1 dX9_meets_230 rfl (lv_at hl 4 rfl) ?_
                            refine x_get (x := .int (vl528 0 31)) hE hK hP 0 (by decide) (yG_9 rfl) rfl hin9 31 (by decide) mw_1365 rfl dX9_meets_231 ?_
                            refine x_top (y := iI (w_4)) ((hfr528 0 31 (by decide)).trans ((up_oth hv527 (by decide)).trans ((up_oth hv526 (by decide)).trans ((up_oth hv375 (by decide)).trans ((up_oth hv53 (by decide)).trans ((up_oth hv50 (by decide)).trans ((up_oth hv43 (by decide)).trans ew_4))))))) ?_
                            refine lv_iload hE.1 hE.2.1 dX9_meets_234 (lv_at hl 0 rfl) ?_
                            refine lv_iadd hE.1 hE.2.1 dX9_meets_236 ?_
                            refine x_top (y := iI (w_4 + y528_4)) ((iI_add (w_4) (y528_4)).trans (congrArg iI (by omega))) ?_
                            refine x_iald (j := iI (w_4 + y528_4)) hE hK hP 12 (by decide) (yG_10 rfl) (iI_in (n := 60) (by omega)) dX9_meets_237 ?_
                            obtain ⟨z531, hz531, ez531⟩ := YI_a12 hI ((iI (w_4 + y528_4)).toNatClampNeg)
                            refine x_top ez531 ?_
                            refine x_iast (j := iI (y528_4)) hE hK hN hP hS 15 (by decide) (fun _ => yG_10 rfl) (iI_in (n := 9) (by omega)) dX9_meets_238 (fun ar532 H locs ha532 hP hS => ?_)
                            have hI := YI_ast hI ha532 (by decide)
                            refine lv_iinc (v := iI (y528_4 + 1)) (lv' := [(4, .int (iI (y528_4 + 1))), (3, .int (iI (z504))), (2, .int (iI (z5))), (1, .int (iI (w_1 - w_4))), (0, .ref (ad 0))]) hE.1 hE.2.1 dX9_meets_239 hl (k := 0) rfl ((iI_add (y528_4) (1)).trans (congrArg iI (by omega))) (by decide) rfl (fun ls hl => ?_)
                            refine lv_goto (tgt := 214) hE.1 hE.2.1 dX9_meets_242 (by decide) ?_
                            exact ih528 _ (by omega) (y528_4 + 1)  vl528 ar532 all528 _ _ _ rfl (by omega)  hI (fun i j h => (hfr528 i j h)) (fun i h => ((upx_ne ha532 i (fun q => h (by rw [q]; decide))).trans (hfa528 i h))) (fun i h => (hfl528 i h)) hP hS (lv_sub hl [0, 1, 2, 3, 4] rfl)
                      exact loop528 _ (0)  v527 ar47 al _ _ _ rfl (by omega)  hI (fun _ _ _ => rfl) (fun _ _ => rfl) (fun _ _ => rfl) hP hS hl
                    · skip
                      exact kr v375 ar47 al _ _ _ _ ⟨hI, fun i j h => ((up_oth hv375 (fun q => h (by rcases q with ⟨rfl, rfl⟩; decide))).trans ((up_oth hv53 (fun q => h (by rcases q with ⟨rfl, rfl⟩; decide))).trans ((up_oth hv50 (fun q => h (by rcases q with ⟨rfl, rfl⟩; decide))).trans (up_oth hv43 (fun q => h (by rcases q with ⟨rfl, rfl⟩; decide)))))), fun i h => ((upx_ne ha47 i (fun q => h (by rw [q]; decide))).trans (upx_ne ha4 i (fun q => h (by rw [q]; decide)))), fun i h => rfl⟩ hP hS dX9_meets_200
            · skip
              exact kr v375 ar47 al _ _ _ _ ⟨hI, fun i j h => ((up_oth hv375 (fun q => h (by rcases q with ⟨rfl, rfl⟩; decide))).trans ((up_oth hv53 (fun q => h (by rcases q with ⟨rfl, rfl⟩; decide))).trans ((up_oth hv50 (fun q => h (by rcases q with ⟨rfl, rfl⟩; decide))).trans (up_oth hv43 (fun q => h (by rcases q with ⟨rfl, rfl⟩; decide)))))), fun i h => ((upx_ne ha47 i (fun q => h (by rw [q]; decide))).trans (upx_ne ha4 i (fun q => h (by rw [q]; decide)))), fun i h => rfl⟩ hP hS dX9_meets_137

theorem dX9_takesOff_0 : decode cX9_takesOff 0 = .ok (.aload_n 0, 1) := by decide +kernel
theorem dX9_takesOff_1 : decode cX9_takesOff 1 = .ok (.dup, 1) := by decide +kernel
theorem dX9_takesOff_2 : decode cX9_takesOff 2 = .ok (.getfield 265, 3) := by decide +kernel
theorem dX9_takesOff_5 : decode cX9_takesOff 5 = .ok (.iconst 1, 1) := by decide +kernel
theorem dX9_takesOff_6 : decode cX9_takesOff 6 = .ok (.isub, 1) := by decide +kernel
theorem dX9_takesOff_7 : decode cX9_takesOff 7 = .ok (.putfield 265, 3) := by decide +kernel
theorem dX9_takesOff_10 : decode cX9_takesOff 10 = .ok (.aload_n 0, 1) := by decide +kernel
theorem dX9_takesOff_11 : decode cX9_takesOff 11 = .ok (.getfield 50, 3) := by decide +kernel
theorem dX9_takesOff_14 : decode cX9_takesOff 14 = .ok (.aload_n 0, 1) := by decide +kernel
theorem dX9_takesOff_15 : decode cX9_takesOff 15 = .ok (.getfield 265, 3) := by decide +kernel
theorem dX9_takesOff_18 : decode cX9_takesOff 18 = .ok (.iaload, 1) := by decide +kernel
theorem dX9_takesOff_19 : decode cX9_takesOff 19 = .ok (.istore_n 1, 1) := by decide +kernel
theorem dX9_takesOff_20 : decode cX9_takesOff 20 = .ok (.iload_n 1, 1) := by decide +kernel
theorem dX9_takesOff_21 : decode cX9_takesOff 21 = .ok (.bipush 9, 2) := by decide +kernel
theorem dX9_takesOff_23 : decode cX9_takesOff 23 = .ok (.if_icmp .ne 24, 3) := by decide +kernel
theorem dX9_takesOff_47 : decode cX9_takesOff 47 = .ok (.aload_n 0, 1) := by decide +kernel
theorem dX9_takesOff_48 : decode cX9_takesOff 48 = .ok (.dup, 1) := by decide +kernel
theorem dX9_takesOff_49 : decode cX9_takesOff 49 = .ok (.getfield 268, 3) := by decide +kernel
theorem dX9_takesOff_52 : decode cX9_takesOff 52 = .ok (.iconst 1, 1) := by decide +kernel
theorem dX9_takesOff_53 : decode cX9_takesOff 53 = .ok (.iload_n 1, 1) := by decide +kernel
theorem dX9_takesOff_54 : decode cX9_takesOff 54 = .ok (.ishl, 1) := by decide +kernel
theorem dX9_takesOff_55 : decode cX9_takesOff 55 = .ok (.iconst (-1), 1) := by decide +kernel
theorem dX9_takesOff_56 : decode cX9_takesOff 56 = .ok (.ixor, 1) := by decide +kernel
theorem dX9_takesOff_57 : decode cX9_takesOff 57 = .ok (.iand, 1) := by decide +kernel
theorem dX9_takesOff_58 : decode cX9_takesOff 58 = .ok (.putfield 268, 3) := by decide +kernel
theorem dX9_takesOff_61 : decode cX9_takesOff 61 = .ok (.aload_n 0, 1) := by decide +kernel
theorem dX9_takesOff_62 : decode cX9_takesOff 62 = .ok (.dup, 1) := by decide +kernel
theorem dX9_takesOff_63 : decode cX9_takesOff 63 = .ok (.getfield 271, 3) := by decide +kernel
theorem dX9_takesOff_66 : decode cX9_takesOff 66 = .ok (.aload_n 0, 1) := by decide +kernel
theorem dX9_takesOff_67 : decode cX9_takesOff 67 = .ok (.iload_n 1, 1) := by decide +kernel
theorem dX9_takesOff_68 : decode cX9_takesOff 68 = .ok (.invokevirtual 274, 3) := by decide +kernel
theorem dX9_takesOff_71 : decode cX9_takesOff 71 = .ok (.isub, 1) := by decide +kernel
theorem dX9_takesOff_72 : decode cX9_takesOff 72 = .ok (.putfield 271, 3) := by decide +kernel
theorem dX9_takesOff_75 : decode cX9_takesOff 75 = .ok (.aload_n 0, 1) := by decide +kernel
theorem dX9_takesOff_76 : decode cX9_takesOff 76 = .ok (.iconst (-1), 1) := by decide +kernel
theorem dX9_takesOff_77 : decode cX9_takesOff 77 = .ok (.putfield 277, 3) := by decide +kernel
theorem dX9_takesOff_80 : decode cX9_takesOff 80 = .ok (.aload_n 0, 1) := by decide +kernel
theorem dX9_takesOff_81 : decode cX9_takesOff 81 = .ok (.getfield 265, 3) := by decide +kernel
theorem dX9_takesOff_84 : decode cX9_takesOff 84 = .ok (.iconst 1, 1) := by decide +kernel
theorem dX9_takesOff_85 : decode cX9_takesOff 85 = .ok (.isub, 1) := by decide +kernel
theorem dX9_takesOff_86 : decode cX9_takesOff 86 = .ok (.istore_n 2, 1) := by decide +kernel
theorem dX9_takesOff_87 : decode cX9_takesOff 87 = .ok (.iload_n 2, 1) := by decide +kernel
theorem dX9_takesOff_88 : decode cX9_takesOff 88 = .ok (.ifCond .lt 42, 3) := by decide +kernel
theorem dX9_takesOff_91 : decode cX9_takesOff 91 = .ok (.aload_n 0, 1) := by decide +kernel
theorem dX9_takesOff_92 : decode cX9_takesOff 92 = .ok (.getfield 277, 3) := by decide +kernel
theorem dX9_takesOff_95 : decode cX9_takesOff 95 = .ok (.iconst (-1), 1) := by decide +kernel
theorem dX9_takesOff_96 : decode cX9_takesOff 96 = .ok (.if_icmp .ne 34, 3) := by decide +kernel
theorem dX9_takesOff_99 : decode cX9_takesOff 99 = .ok (.aload_n 0, 1) := by decide +kernel
theorem dX9_takesOff_100 : decode cX9_takesOff 100 = .ok (.aload_n 0, 1) := by decide +kernel
theorem dX9_takesOff_101 : decode cX9_takesOff 101 = .ok (.getfield 50, 3) := by decide +kernel
theorem dX9_takesOff_104 : decode cX9_takesOff 104 = .ok (.iload_n 2, 1) := by decide +kernel
theorem dX9_takesOff_105 : decode cX9_takesOff 105 = .ok (.iaload, 1) := by decide +kernel
theorem dX9_takesOff_106 : decode cX9_takesOff 106 = .ok (.bipush 9, 2) := by decide +kernel
theorem dX9_takesOff_108 : decode cX9_takesOff 108 = .ok (.if_icmp .ne 7, 3) := by decide +kernel
theorem dX9_takesOff_111 : decode cX9_takesOff 111 = .ok (.iconst (-1), 1) := by decide +kernel
theorem dX9_takesOff_112 : decode cX9_takesOff 112 = .ok (.goto 9, 3) := by decide +kernel
theorem dX9_takesOff_115 : decode cX9_takesOff 115 = .ok (.aload_n 0, 1) := by decide +kernel
theorem dX9_takesOff_116 : decode cX9_takesOff 116 = .ok (.getfield 50, 3) := by decide +kernel
theorem dX9_takesOff_119 : decode cX9_takesOff 119 = .ok (.iload_n 2, 1) := by decide +kernel
theorem dX9_takesOff_120 : decode cX9_takesOff 120 = .ok (.iaload, 1) := by decide +kernel
theorem dX9_takesOff_121 : decode cX9_takesOff 121 = .ok (.putfield 277, 3) := by decide +kernel
theorem dX9_takesOff_124 : decode cX9_takesOff 124 = .ok (.iinc 2 (-1), 3) := by decide +kernel
theorem dX9_takesOff_127 : decode cX9_takesOff 127 = .ok (.goto (-40), 3) := by decide +kernel
theorem dX9_takesOff_130 : decode cX9_takesOff 130 = .ok (.return_, 1) := by decide +kernel
set_option maxHeartbeats 4000000 in
set_option maxRecDepth 100000 in
theorem s_X9_takesOff_e (l : Launch) (D : va_G) (K : Nat → ClassId) (ad : Nat → Nat) (v ar : sI) (al : sL) (hI : YI v ar) (w_1 : Int) (hw_1 : 1 ≤ w_1 ∧ w_1 ≤ 60) (ew_1 : v 0 24 = iI w_1) (w_2 : Int) (hw_2 : 0 ≤ w_2 ∧ w_2 ≤ 511) (ew_2 : v 0 25 = iI w_2) (w_3 : Int) (hw_3 : 1 ≤ w_3 ∧ w_3 ≤ 3) (ew_3 : ar 7 0 = iI w_3) (g_1 : Int) (hg_1 : 0 ≤ g_1 ∧ g_1 ≤ 8) (hg_e : ar 12 (iI (w_1 - 1)).toNatClampNeg = iI g_1) : Met l yX9_takesOff (wM yX9_takesOff cX9_takesOff 3 none) (rmD 2) (va_Pc [.ref (ad 0)] (wPre D K ad (yG ad K) 21 v ar al)) (va_Qv (fun u : sT => YI u.1 u.2.1 ∧ (∀ i j : Nat, (i, j) ∉ ([(0, 24), (0, 25), (0, 26), (0, 27)] : List (Nat × Nat)) → u.1 i j = v i j) ∧ (∀ i : Nat, i ∉ ([] : List Nat) → u.2.1 i = ar i) ∧ (∀ i : Nat, i ∉ ([] : List Nat) → u.2.2 i = al i) ∧ (∃ x_1 x_2 : Int, (x_1 = w_1 - 1 ∧ x_2 = cb w_2 g_1) ∧ u.1 0 24 = iI x_1 ∧ u.1 0 25 = iI x_2)) (wB D ad (yG ad K) 21) (inW ad 21)) 0 0 (inW ad 21) := by
  refine s_metV (by decide) (Nat.le_of_ble_eq_true rfl) ?_
  intro p e s m below meth c ls args Q hE hB hl kr
  have hE : CallFix p m c cX9_takesOff 3 s args tbG "TaleCourtModel" := hE
  obtain ⟨hP, hK, hN⟩ := hB
  have hS : va_S (inW ad 21) s.heap s.heap [] := va_S.rf
  have hl : lv_has ls 3 [(0, .ref (ad 0))] := hl
  refine lv_aload_n hE.1 hE.2.1 dX9_takesOff_0 rfl (lv_at hl 0 rfl) ?_
  refine lv_dup hE.1 hE.2.1 dX9_takesOff_1 rfl ?_
  refine x_get (x := .int (v 0 24)) hE hK hP 0 (by decide) (yG_9 rfl) rfl hin9 24 (by decide) mw_1358 rfl dX9_takesOff_2 ?_
  refine x_top (y := iI (w_1)) ew_1 ?_
  refine lv_iconst (v := iI (1)) hE.1 hE.2.1 dX9_takesOff_5 (by decide) ?_
  refine lv_isub hE.1 hE.2.1 dX9_takesOff_6 ?_
  refine x_top (y := iI (w_1 - 1)) ((iI_sub (w_1) (1)).trans (congrArg iI (by omega))) ?_
  refine x_put (x := iI (w_1 - 1)) hE hK hN hP hS 0 (by decide) (yG_9 rfl) rfl hin9 tyX9 tyX9_ok nmX9 24 (by decide) mw_1358 rfl rfl rfl (Nat.le_of_ble_eq_true rfl) (yG_9 rfl) dX9_takesOff_7 (fun v1 H locs hv1 hP hS => ?_)
  have hI := YI_putB (z := w_1 - 1) hI hv1 0 60 (by omega) (by decide) (by omega)
  refine lv_aload_n hE.1 hE.2.1 dX9_takesOff_10 rfl (lv_at hl 0 rfl) ?_
  refine x_get (x := .ref (ad 12)) hE hK hP 0 (by decide) (yG_9 rfl) rfl hin9 22 (by decide) mw_1356 rfl dX9_takesOff_11 ?_
  refine lv_aload_n hE.1 hE.2.1 dX9_takesOff_14 rfl (lv_at hl 0 rfl) ?_
  refine x_get (x := .int (v1 0 24)) hE hK hP 0 (by decide) (yG_9 rfl) rfl hin9 24 (by decide) mw_1358 rfl dX9_takesOff_15 ?_
  refine x_top (y := iI (w_1 - 1)) (up_eq hv1) ?_
  refine x_iald (j := iI (w_1 - 1)) hE hK hP 12 (by decide) (yG_10 rfl) (iI_in (n := 60) (by omega)) dX9_takesOff_18 ?_
  refine x_top hg_e ?_
  refine lv_istore_n (lv' := [(1, .int (iI (g_1))), (0, .ref (ad 0))]) hE.1 hE.2.1 dX9_takesOff_19 rfl hl (by decide) rfl (fun ls hl => ?_)
  refine lv_iload_n hE.1 hE.2.1 dX9_takesOff_20 rfl (lv_at hl 0 rfl) ?_
  refine lv_bipush (v := iI (9)) hE.1 hE.2.1 dX9_takesOff_21 (by decide) ?_
  refine s_icmp_ne (a := g_1) (b := 9) (tgt := 47) hE.1 hE.2.1 (by omega) (by omega) dX9_takesOff_23 (by decide) (fun _ => ?_) (fun c3 => False.elim (by omega))
  refine lv_aload_n hE.1 hE.2.1 dX9_takesOff_47 rfl (lv_at hl 1 rfl) ?_
  refine lv_dup hE.1 hE.2.1 dX9_takesOff_48 rfl ?_
  refine x_get (x := .int (v1 0 25)) hE hK hP 0 (by decide) (yG_9 rfl) rfl hin9 25 (by decide) mw_1359 rfl dX9_takesOff_49 ?_
  refine x_top (y := iI (w_2)) ((up_oth hv1 (by decide)).trans ew_2) ?_
  refine lv_iconst (v := iI (1)) hE.1 hE.2.1 dX9_takesOff_52 (by decide) ?_
  refine lv_iload_n hE.1 hE.2.1 dX9_takesOff_53 rfl (lv_at hl 0 rfl) ?_
  refine lv_ishl hE.1 hE.2.1 dX9_takesOff_54 ?_
  obtain ⟨z4, hz4, ez4⟩ := iI_shl8 (a := g_1) (by omega)
  refine x_top ez4 ?_
  refine lv_iconst (v := iI (-1)) hE.1 hE.2.1 dX9_takesOff_55 (by decide) ?_
  refine lv_ixor hE.1 hE.2.1 dX9_takesOff_56 ?_
  obtain ⟨z5, hz5, ez5⟩ := iI_of (iI (z4) ^^^ iI (-1))
  refine x_top ez5 ?_
  refine lv_iand hE.1 hE.2.1 dX9_takesOff_57 ?_
  obtain ⟨z6, hz6, ez6⟩ := cb_of (a := w_2) (m := g_1) (by omega) ez4 ez5
  refine x_top ez6 ?_
  refine x_put (x := iI (z6)) hE hK hN hP hS 0 (by decide) (yG_9 rfl) rfl hin9 tyX9 tyX9_ok nmX9 25 (by decide) mw_1359 rfl rfl rfl (Nat.le_of_ble_eq_true rfl) (yG_9 rfl) dX9_takesOff_58 (fun v7 H locs hv7 hP hS => ?_)
  have hI := YI_putB (z := z6) hI hv7 0 511 (by omega) (by decide) (by omega)
  refine lv_aload_n hE.1 hE.2.1 dX9_takesOff_61 rfl (lv_at hl 1 rfl) ?_
  refine lv_dup hE.1 hE.2.1 dX9_takesOff_62 rfl ?_
  obtain ⟨z8, hz8, ez8⟩ := iI_of (v7 0 27)
  refine x_get (x := .int (v7 0 27)) hE hK hP 0 (by decide) (yG_9 rfl) rfl hin9 27 (by decide) mw_1361 rfl dX9_takesOff_63 ?_
  refine x_top (y := iI (z8)) ez8 ?_
  refine lv_aload_n hE.1 hE.2.1 dX9_takesOff_66 rfl (lv_at hl 1 rfl) ?_
  refine lv_iload_n hE.1 hE.2.1 dX9_takesOff_67 rfl (lv_at hl 0 rfl) ?_
  refine x_vp (nn := 1) (As := [.int (iI (g_1))]) (rest := [.int (iI (z8)), .ref (ad 0)]) hE (s_X9_pointsOf l D K ad v7 ar al hI  (g_1) (by omega)) wPre_blind (wPre_now hK hN hP) (x_recv hK hP 0 (by decide) (yG_9 rfl) rfl) rfl mw_1650 mw_1652 mw_72 mw_123 mw_1653 (by decide +kernel) ⟨by decide, by decide⟩ hl.1 rfl (Nat.le_of_ble_eq_true rfl) ⟨Nat.zero_le _, Nat.zero_le _⟩ dX9_takesOff_68 (fun r9 hr9 => ?_)
  obtain ⟨z9, hz9, rfl⟩ := hr9
  refine lv_isub hE.1 hE.2.1 dX9_takesOff_71 ?_
  obtain ⟨z10, hz10, ez10⟩ := iI_of (iI (z8) - iI (z9))
  refine x_top ez10 ?_
  refine x_put (x := iI (z10)) hE hK hN hP hS 0 (by decide) (yG_9 rfl) rfl hin9 tyX9 tyX9_ok nmX9 27 (by decide) mw_1361 rfl rfl rfl (Nat.le_of_ble_eq_true rfl) (yG_9 rfl) dX9_takesOff_72 (fun v11 H locs hv11 hP hS => ?_)
  have hI := YI_putN hI hv11 (by decide)
  refine lv_aload_n hE.1 hE.2.1 dX9_takesOff_75 rfl (lv_at hl 1 rfl) ?_
  refine lv_iconst (v := iI (-1)) hE.1 hE.2.1 dX9_takesOff_76 (by decide) ?_
  refine x_put (x := iI (-1)) hE hK hN hP hS 0 (by decide) (yG_9 rfl) rfl hin9 tyX9 tyX9_ok nmX9 26 (by decide) mw_1360 rfl rfl rfl (Nat.le_of_ble_eq_true rfl) (yG_9 rfl) dX9_takesOff_77 (fun v12 H locs hv12 hP hS => ?_)
  have hI := YI_putB (z := -1) hI hv12 (-1) 8 (by omega) (by decide) (by omega)
  refine lv_aload_n hE.1 hE.2.1 dX9_takesOff_80 rfl (lv_at hl 1 rfl) ?_
  refine x_get (x := .int (v12 0 24)) hE hK hP 0 (by decide) (yG_9 rfl) rfl hin9 24 (by decide) mw_1358 rfl dX9_takesOff_81 ?_
  refine x_top (y := iI (w_1 - 1)) ((up_oth hv12 (by decide)).trans ((up_oth hv11 (by decide)).trans ((up_oth hv7 (by decide)).trans (up_eq hv1)))) ?_
  refine lv_iconst (v := iI (1)) hE.1 hE.2.1 dX9_takesOff_84 (by decide) ?_
  refine lv_isub hE.1 hE.2.1 dX9_takesOff_85 ?_
  refine x_top (y := iI (w_1 - 2)) ((iI_sub (w_1 - 1) (1)).trans (congrArg iI (by omega))) ?_
  refine lv_istore_n (lv' := [(2, .int (iI (w_1 - 2))), (1, .int (iI (g_1))), (0, .ref (ad 0))]) hE.1 hE.2.1 dX9_takesOff_86 rfl hl (by decide) rfl (fun ls hl => ?_)
  have loop13 : ∀ (k13 : Nat) (y13_2 : Int) (vl13 : sI) (all13 : sL) (H : Heap) (locs : List Loc) (ls : Array Slot), (y13_2 + 1).toNat = k13 → (-1 ≤ y13_2 ∧ y13_2 ≤ 59) → YI vl13 ar → (∀ i j : Nat, (i, j) ∉ ([(0, 26)] : List (Nat × Nat)) → vl13 i j = v12 i j) → (∀ i : Nat, i ∉ ([] : List Nat) → all13 i = al i) → va_P D xcl (wW ad (yG ad K) 21 vl13 ar all13) H → va_S (inW ad 21) s.heap H locs → lv_has ls 3 [(2, .int (iI (y13_2))), (1, .int (iI (g_1))), (0, .ref (ad 0))] → W p l e (rmD 2) s m args below meth c H locs 0 0 Q (F0 m 87 ls []) := by
    intro k13
    induction k13 using Nat.strongRecOn with
    | _ k13 ih13 =>
      intro y13_2  vl13 all13 H locs ls hk13 hb_y13_2 hI hfr13 hfl13 hP hS hl
      refine lv_iload_n hE.1 hE.2.1 dX9_takesOff_87 rfl (lv_at hl 0 rfl) ?_
      refine s_if_lt (a := y13_2) (tgt := 130) hE.1 hE.2.1 (by omega) dX9_takesOff_88 (by decide) (fun c14 => ?_) (fun c14 => ?_)
      · skip
        exact kr vl13 ar all13 _ _ _ _ ⟨hI, fun i j h => ((hfr13 i j (fun q => h (mem_sub (by decide) q))).trans ((up_oth hv12 (fun q => h (by rcases q with ⟨rfl, rfl⟩; decide))).trans ((up_oth hv11 (fun q => h (by rcases q with ⟨rfl, rfl⟩; decide))).trans ((up_oth hv7 (fun q => h (by rcases q with ⟨rfl, rfl⟩; decide))).trans (up_oth hv1 (fun q => h (by rcases q with ⟨rfl, rfl⟩; decide))))))), fun i h => rfl, fun i h => (hfl13 i (fun q => h (mem_subn (by decide) q))), w_1 - 1, z6, by omega, ((hfr13 0 24 (by decide)).trans ((up_oth hv12 (by decide)).trans ((up_oth hv11 (by decide)).trans ((up_oth hv7 (by decide)).trans (up_eq hv1))))), ((hfr13 0 25 (by decide)).trans ((up_oth hv12 (by decide)).trans ((up_oth hv11 (by decide)).trans (up_eq hv7))))⟩ hP hS dX9_takesOff_130
      · skip
        refine lv_aload_n hE.1 hE.2.1 dX9_takesOff_91 rfl (lv_at hl 2 rfl) ?_
        obtain ⟨z15, hz15, ez15⟩ := YI_get hI 0 26 (-1) 8 (by decide)
        refine x_get (x := .int (vl13 0 26)) hE hK hP 0 (by decide) (yG_9 rfl) rfl hin9 26 (by decide) mw_1360 rfl dX9_takesOff_92 ?_
        refine x_top (y := iI (z15)) ez15 ?_
        refine lv_iconst (v := iI (-1)) hE.1 hE.2.1 dX9_takesOff_95 (by decide) ?_
        refine s_icmp_ne (a := z15) (b := -1) (tgt := 130) hE.1 hE.2.1 (by omega) (by omega) dX9_takesOff_96 (by decide) (fun c16 => ?_) (fun c16 => ?_)
        · skip
          exact kr vl13 ar all13 _ _ _ _ ⟨hI, fun i j h => ((hfr13 i j (fun q => h (mem_sub (by decide) q))).trans ((up_oth hv12 (fun q => h (by rcases q with ⟨rfl, rfl⟩; decide))).trans ((up_oth hv11 (fun q => h (by rcases q with ⟨rfl, rfl⟩; decide))).trans ((up_oth hv7 (fun q => h (by rcases q with ⟨rfl, rfl⟩; decide))).trans (up_oth hv1 (fun q => h (by rcases q with ⟨rfl, rfl⟩; decide))))))), fun i h => rfl, fun i h => (hfl13 i (fun q => h (mem_subn (by decide) q))), w_1 - 1, z6, by omega, ((hfr13 0 24 (by decide)).trans ((up_oth hv12 (by decide)).trans ((up_oth hv11 (by decide)).trans ((up_oth hv7 (by decide)).trans (up_eq hv1))))), ((hfr13 0 25 (by decide)).trans ((up_oth hv12 (by decide)).trans ((up_oth hv11 (by decide)).trans (up_eq hv7))))⟩ hP hS dX9_takesOff_130
        · skip
          refine lv_aload_n hE.1 hE.2.1 dX9_takesOff_99 rfl (lv_at hl 2 rfl) ?_
          refine lv_aload_n hE.1 hE.2.1 dX9_takesOff_100 rfl (lv_at hl 2 rfl) ?_
          refine x_get (x := .ref (ad 12)) hE hK hP 0 (by decide) (yG_9 rfl) rfl hin9 22 (by decide) mw_1356 rfl dX9_takesOff_101 ?_
          refine lv_iload_n hE.1 hE.2.1 dX9_takesOff_104 rfl (lv_at hl 0 rfl) ?_
          refine x_iald (j := iI (y13_2)) hE hK hP 12 (by decide) (yG_10 rfl) (iI_in (n := 60) (by omega)) dX9_takesOff_105 ?_
          obtain ⟨z18, hz18, ez18⟩ := YI_a12 hI ((iI (y13_2)).toNatClampNeg)
          refine x_top ez18 ?_
          refine lv_bipush (v := iI (9)) hE.1 hE.2.1 dX9_takesOff_106 (by decide) ?_
          refine s_icmp_ne (a := z18) (b := 9) (tgt := 115) hE.1 hE.2.1 (by omega) (by omega) dX9_takesOff_108 (by decide) (fun c19 => ?_) (fun c19 => ?_)
          · skip
            refine lv_aload_n hE.1 hE.2.1 dX9_takesOff_115 rfl (lv_at hl 2 rfl) ?_
            refine x_get (x := .ref (ad 12)) hE hK hP 0 (by decide) (yG_9 rfl) rfl hin9 22 (by decide) mw_1356 rfl dX9_takesOff_116 ?_
            refine lv_iload_n hE.1 hE.2.1 dX9_takesOff_119 rfl (lv_at hl 0 rfl) ?_
            refine x_iald (j := iI (y13_2)) hE hK hP 12 (by decide) (yG_10 rfl) (iI_in (n := 60) (by omega)) dX9_takesOff_120 ?_
            refine x_top ez18 ?_
            refine x_put (x := iI (z18)) hE hK hN hP hS 0 (by decide) (yG_9 rfl) rfl hin9 tyX9 tyX9_ok nmX9 26 (by decide) mw_1360 rfl rfl rfl (Nat.le_of_ble_eq_true rfl) (yG_9 rfl) dX9_takesOff_121 (fun v21 H locs hv21 hP hS => ?_)
            have hI := YI_putB (z := z18) hI hv21 (-1) 8 (by omega) (by decide) (by omega)
            refine lv_iinc (v := iI (y13_2 - 1)) (lv' := [(2, .int (iI (y13_2 - 1))), (1, .int (iI (g_1))), (0, .ref (ad 0))]) hE.1 hE.2.1 dX9_takesOff_124 hl (k := 0) rfl ((iI_add (y13_2) (-1)).trans (congrArg iI (by omega))) (by decide) rfl (fun ls hl => ?_)
            refine lv_goto (tgt := 87) hE.1 hE.2.1 dX9_takesOff_127 (by decide) ?_
            exact ih13 _ (by omega) (y13_2 - 1)  v21  all13 _ _ _ rfl (by omega)  hI (fun i j h => ((up_oth hv21 (fun q => h (by rcases q with ⟨rfl, rfl⟩; decide))).trans (hfr13 i j h))) (fun i h => (hfl13 i h)) hP hS (lv_sub hl [0, 1, 2] rfl)
          · skip
            refine lv_iconst (v := iI (-1)) hE.1 hE.2.1 dX9_takesOff_111 (by decide) ?_
            refine lv_goto (tgt := 121) hE.1 hE.2.1 dX9_takesOff_112 (by decide) ?_
            refine x_put (x := iI (-1)) hE hK hN hP hS 0 (by decide) (yG_9 rfl) rfl hin9 tyX9 tyX9_ok nmX9 26 (by decide) mw_1360 rfl rfl rfl (Nat.le_of_ble_eq_true rfl) (yG_9 rfl) dX9_takesOff_121 (fun v22 H locs hv22 hP hS => ?_)
            have hI := YI_putB (z := -1) hI hv22 (-1) 8 (by omega) (by decide) (by omega)
            refine lv_iinc (v := iI (y13_2 - 1)) (lv' := [(2, .int (iI (y13_2 - 1))), (1, .int (iI (g_1))), (0, .ref (ad 0))]) hE.1 hE.2.1 dX9_takesOff_124 hl (k := 0) rfl ((iI_add (y13_2) (-1)).trans (congrArg iI (by omega))) (by decide) rfl (fun ls hl => ?_)
            refine lv_goto (tgt := 87) hE.1 hE.2.1 dX9_takesOff_127 (by decide) ?_
            exact ih13 _ (by omega) (y13_2 - 1)  v22  all13 _ _ _ rfl (by omega)  hI (fun i j h => ((up_oth hv22 (fun q => h (by rcases q with ⟨rfl, rfl⟩; decide))).trans (hfr13 i j h))) (fun i h => (hfl13 i h)) hP hS (lv_sub hl [0, 1, 2] rfl)
  exact loop13 _ (w_1 - 2)  v12  al _ _ _ rfl (by omega)  hI (fun _ _ _ => rfl) (fun _ _ => rfl) hP hS hl

theorem dX9_goes_0 : decode cX9_goes 0 = .ok (.aload_n 0, 1) := by decide +kernel
theorem dX9_goes_1 : decode cX9_goes 1 = .ok (.invokevirtual 352, 3) := by decide +kernel
theorem dX9_goes_4 : decode cX9_goes 4 = .ok (.iconst 0, 1) := by decide +kernel
theorem dX9_goes_5 : decode cX9_goes 5 = .ok (.istore_n 1, 1) := by decide +kernel
theorem dX9_goes_6 : decode cX9_goes 6 = .ok (.iload_n 1, 1) := by decide +kernel
theorem dX9_goes_7 : decode cX9_goes 7 = .ok (.aload_n 0, 1) := by decide +kernel
theorem dX9_goes_8 : decode cX9_goes 8 = .ok (.getfield 34, 3) := by decide +kernel
theorem dX9_goes_11 : decode cX9_goes 11 = .ok (.iconst 2, 1) := by decide +kernel
theorem dX9_goes_12 : decode cX9_goes 12 = .ok (.iaload, 1) := by decide +kernel
theorem dX9_goes_13 : decode cX9_goes 13 = .ok (.if_icmp .ge 41, 3) := by decide +kernel
theorem dX9_goes_16 : decode cX9_goes 16 = .ok (.iload_n 1, 1) := by decide +kernel
theorem dX9_goes_17 : decode cX9_goes 17 = .ok (.aload_n 0, 1) := by decide +kernel
theorem dX9_goes_18 : decode cX9_goes 18 = .ok (.getfield 68, 3) := by decide +kernel
theorem dX9_goes_21 : decode cX9_goes 21 = .ok (.if_icmp .eq 27, 3) := by decide +kernel
theorem dX9_goes_24 : decode cX9_goes 24 = .ok (.aload_n 0, 1) := by decide +kernel
theorem dX9_goes_25 : decode cX9_goes 25 = .ok (.iload_n 1, 1) := by decide +kernel
theorem dX9_goes_26 : decode cX9_goes 26 = .ok (.invokevirtual 295, 3) := by decide +kernel
theorem dX9_goes_29 : decode cX9_goes 29 = .ok (.ifCond .eq 6, 3) := by decide +kernel
theorem dX9_goes_32 : decode cX9_goes 32 = .ok (.goto 16, 3) := by decide +kernel
theorem dX9_goes_35 : decode cX9_goes 35 = .ok (.aload_n 0, 1) := by decide +kernel
theorem dX9_goes_36 : decode cX9_goes 36 = .ok (.iload_n 1, 1) := by decide +kernel
theorem dX9_goes_37 : decode cX9_goes 37 = .ok (.invokevirtual 283, 3) := by decide +kernel
theorem dX9_goes_40 : decode cX9_goes 40 = .ok (.aload_n 0, 1) := by decide +kernel
theorem dX9_goes_41 : decode cX9_goes 41 = .ok (.invokevirtual 355, 3) := by decide +kernel
theorem dX9_goes_44 : decode cX9_goes 44 = .ok (.aload_n 0, 1) := by decide +kernel
theorem dX9_goes_45 : decode cX9_goes 45 = .ok (.invokevirtual 358, 3) := by decide +kernel
theorem dX9_goes_48 : decode cX9_goes 48 = .ok (.iinc 1 1, 3) := by decide +kernel
theorem dX9_goes_51 : decode cX9_goes 51 = .ok (.goto (-45), 3) := by decide +kernel
theorem dX9_goes_54 : decode cX9_goes 54 = .ok (.return_, 1) := by decide +kernel
set_option maxHeartbeats 4000000 in
set_option maxRecDepth 100000 in
theorem s_X9_goes (l : Launch) (D : va_G) (K : Nat → ClassId) (ad : Nat → Nat) : ∀ (k : Nat) (v ar : sI) (al : sL) (hI : YI v ar) (w_1 : Int) (hw_1 : 0 ≤ w_1 ∧ w_1 ≤ 27) (ew_1 : v 0 24 = iI w_1) (w_2 : Int) (hw_2 : 0 ≤ w_2 ∧ w_2 ≤ 511) (ew_2 : v 0 25 = iI w_2) (w_3 : Int) (hw_3 : -1 ≤ w_3 ∧ w_3 ≤ 8) (ew_3 : v 0 26 = iI w_3) (w_4 : Int) (hw_4 : 0 ≤ w_4 ∧ w_4 ≤ 18) (ew_4 : v 0 31 = iI w_4) (w_5 : Int) (hw_5 : -1 ≤ w_5 ∧ w_5 ≤ 3) (ew_5 : v 0 41 = iI w_5) (w_6 : Int) (hw_6 : 1 ≤ w_6 ∧ w_6 ≤ 3) (ew_6 : ar 7 0 = iI w_6) (hyp : (w_2 = 0 ∨ 0 ≤ w_3) ∧ w_4 ≤ w_1 ∧ w_1 - w_4 ≤ pc w_2) (hft : FTv w_5 (ar 2) (al 3)) (hk : 9 - pc w_2 ≤ (k : Int)), Met l yX9_goes (wM yX9_goes cX9_goes 2 none) (rmD (4 + k)) (va_Pc [.ref (ad 0)] (wPre D K ad (yG ad K) 21 v ar al)) (va_Qv (fun u : sT => YI u.1 u.2.1 ∧ (∀ i j : Nat, (i, j) ∉ ([(0, 24), (0, 25), (0, 26), (0, 27), (0, 32), (0, 33), (0, 37), (0, 38), (0, 39), (0, 40)] : List (Nat × Nat)) → u.1 i j = v i j) ∧ (∀ i : Nat, i ∉ ([12, 13, 14, 15, 16, 17] : List Nat) → u.2.1 i = ar i) ∧ (∀ i : Nat, i ∉ ([] : List Nat) → u.2.2 i = al i) ∧ (NW w_1 (ar 12) (u.2.1 12) ∧ u.1 0 24 = iI w_1 ∧ u.1 0 25 = iI w_2)) (wB D ad (yG ad K) 21) (inW ad 21)) 0 0 (inW ad 21) := by
  intro k
  induction k with
  | zero =>
    intro v ar al hI w_1 hw_1 ew_1 w_2 hw_2 ew_2 w_3 hw_3 ew_3 w_4 hw_4 ew_4 w_5 hw_5 ew_5 w_6 hw_6 ew_6 hyp hft hk
    refine s_metV (by decide) (Nat.le_of_ble_eq_true rfl) ?_
    intro p e s m below meth c ls args Q hE hB hl kr
    have hE : CallFix p m c cX9_goes 2 s args tbG "TaleCourtModel" := hE
    obtain ⟨hP, hK, hN⟩ := hB
    have hS : va_S (inW ad 21) s.heap s.heap [] := va_S.rf
    have hl : lv_has ls 2 [(0, .ref (ad 0))] := hl
    have hpl := pc_le w_2
    refine lv_aload_n hE.1 hE.2.1 dX9_goes_0 rfl (lv_at hl 0 rfl) ?_
    refine x_vv (nn := 0) (As := []) (rest := []) hE hK hN hP hS (s_X9_meets_e l D K ad v ar al hI (w_1) (by omega) ew_1 (w_2) (by omega) ew_2 (w_3) (by omega) ew_3 (w_4) (by omega) ew_4 (w_5) (by omega) ew_5  (by omega) (FTv_tr hft rfl rfl rfl)) (x_recv hK hP 0 (by decide) (yG_9 rfl) rfl) rfl mw_1806 mw_1808 mw_87 mw_123 mw_1809 (by decide +kernel) ⟨by simp only [rmD]; omega, by simp only [rmD]; omega⟩ hl.1 rfl (Nat.le_of_ble_eq_true rfl) ⟨Nat.zero_le _, Nat.zero_le _⟩ dX9_goes_1 (fun v1 ar1 al1 H locs hq1 hP hS => ?_)
    obtain ⟨hI, hq1, hqa1, hql1⟩ := hq1
    have hI : YI v1 ar1 := hI
    refine lv_iconst (v := iI (0)) hE.1 hE.2.1 dX9_goes_4 (by decide) ?_
    refine lv_istore_n (lv' := [(1, .int (iI (0))), (0, .ref (ad 0))]) hE.1 hE.2.1 dX9_goes_5 rfl hl (by decide) rfl (fun ls hl => ?_)
    have loop2 : ∀ (k2 : Nat) (y2_1 : Int) (yf2_0 : Int) (yf2_1 : Int) (vl2 arl2 : sI) (all2 : sL) (H : Heap) (locs : List Loc) (ls : Array Slot), (9 - y2_1).toNat = k2 → (0 ≤ y2_1 ∧ y2_1 ≤ 9) → (0 ≤ yf2_0 ∧ yf2_0 ≤ 27 ∧ 0 ≤ yf2_1 ∧ yf2_1 ≤ 511 ∧ (yf2_0 = w_1 ∧ yf2_1 = w_2)) → (vl2 0 24 = iI yf2_0) → (vl2 0 25 = iI yf2_1) → (NW w_1 (ar 12) (arl2 12)) → YI vl2 arl2 → (∀ i j : Nat, (i, j) ∉ ([(0, 24), (0, 25), (0, 26), (0, 27), (0, 32), (0, 33), (0, 37), (0, 38), (0, 39), (0, 40)] : List (Nat × Nat)) → vl2 i j = v1 i j) → (∀ i : Nat, i ∉ ([12, 13, 14, 15, 16, 17] : List Nat) → arl2 i = ar1 i) → (∀ i : Nat, i ∉ ([] : List Nat) → all2 i = al1 i) → va_P D xcl (wW ad (yG ad K) 21 vl2 arl2 all2) H → va_S (inW ad 21) s.heap H locs → lv_has ls 2 [(1, .int (iI (y2_1))), (0, .ref (ad 0))] → W p l e (rmD (4 + 0)) s m args below meth c H locs 0 0 Q (F0 m 6 ls []) := by
      intro k2
      induction k2 using Nat.strongRecOn with
      | _ k2 ih2 =>
        intro y2_1 yf2_0 yf2_1 vl2 arl2 all2 H locs ls hk2 hb_y2_1 hyf2 eyf2_0 eyf2_1 hb_xi2 hI hfr2 hfa2 hfl2 hP hS hl
        have e24_2 : vl2 0 24 = iI w_1 := by rw [eyf2_0, show yf2_0 = w_1 by omega]
        have e25_2 : vl2 0 25 = iI w_2 := by rw [eyf2_1, show yf2_1 = w_2 by omega]
        refine lv_iload_n hE.1 hE.2.1 dX9_goes_6 rfl (lv_at hl 0 rfl) ?_
        refine lv_aload_n hE.1 hE.2.1 dX9_goes_7 rfl (lv_at hl 1 rfl) ?_
        refine x_get (x := .ref (ad 7)) hE hK hP 0 (by decide) (yG_9 rfl) rfl hin9 17 (by decide) mw_1351 rfl dX9_goes_8 ?_
        refine lv_iconst (v := iI (2)) hE.1 hE.2.1 dX9_goes_11 (by decide) ?_
        refine x_iald (j := iI (2)) hE hK hP 7 (by decide) (yG_10 rfl) (iI_in (n := 30) (by omega)) dX9_goes_12 ?_
        obtain ⟨z4, hz4, ez4⟩ := YI_h2 hI 2 (by decide)
        refine x_top (y := iI (z4)) (by rw [show (iI (2)).toNatClampNeg = 2 from by decide]; exact ez4) ?_
        refine s_icmp_ge (a := y2_1) (b := z4) (tgt := 54) hE.1 hE.2.1 (by omega) (by omega) dX9_goes_13 (by decide) (fun c5 => ?_) (fun c5 => ?_)
        · skip
          exact kr vl2 arl2 all2 _ _ _ _ ⟨hI, fun i j h => ((hfr2 i j (fun q => h (mem_sub (by decide) q))).trans (hq1 i j (fun q => h (mem_sub (by decide) q)))), fun i h => ((hfa2 i (fun q => h (mem_subn (by decide) q))).trans (hqa1 i (fun q => h (mem_subn (by decide) q)))), fun i h => ((hfl2 i (fun q => h (mem_subn (by decide) q))).trans (hql1 i (fun q => h (mem_subn (by decide) q)))), ⟨hb_xi2, e24_2, e25_2⟩⟩ hP hS dX9_goes_54
        · skip
          refine lv_iload_n hE.1 hE.2.1 dX9_goes_16 rfl (lv_at hl 0 rfl) ?_
          refine lv_aload_n hE.1 hE.2.1 dX9_goes_17 rfl (lv_at hl 1 rfl) ?_
          obtain ⟨z6, hz6, ez6⟩ := iI_of (vl2 0 42)
          refine x_get (x := .int (vl2 0 42)) hE hK hP 0 (by decide) (yG_9 rfl) rfl hin9 42 (by decide) mw_1376 rfl dX9_goes_18 ?_
          refine x_top (y := iI (z6)) ez6 ?_
          refine s_icmp_eq (a := y2_1) (b := z6) (tgt := 48) hE.1 hE.2.1 (by omega) (by omega) dX9_goes_21 (by decide) (fun c7 => ?_) (fun c7 => ?_)
          · skip
            refine lv_iinc (v := iI (y2_1 + 1)) (lv' := [(1, .int (iI (y2_1 + 1))), (0, .ref (ad 0))]) hE.1 hE.2.1 dX9_goes_48 hl (k := 0) rfl ((iI_add (y2_1) (1)).trans (congrArg iI (by omega))) (by decide) rfl (fun ls hl => ?_)
            refine lv_goto (tgt := 6) hE.1 hE.2.1 dX9_goes_51 (by decide) ?_
            exact ih2 _ (by omega) (y2_1 + 1) (w_1) (w_2) vl2 arl2 all2 _ _ _ rfl (by omega) (by omega) e24_2 e25_2 (hb_xi2)  hI (fun i j h => (hfr2 i j h)) (fun i h => (hfa2 i h)) (fun i h => (hfl2 i h)) hP hS (lv_sub hl [0, 1] rfl)
          · skip
            refine lv_aload_n hE.1 hE.2.1 dX9_goes_24 rfl (lv_at hl 1 rfl) ?_
            refine lv_iload_n hE.1 hE.2.1 dX9_goes_25 rfl (lv_at hl 0 rfl) ?_
            refine x_vp (nn := 1) (As := [.int (iI (y2_1))]) (rest := []) hE (s_X9_whyNot_e l D K ad vl2 arl2 all2 hI (w_6) (by omega) ((congrFun (hfa2 7 (by decide)) 0).trans ((congrFun (hqa1 7 (by decide)) 0).trans ew_6)) (w_2) (by omega) e25_2 (y2_1) (by omega)) wPre_blind (wPre_now hK hN hP) (x_recv hK hP 0 (by decide) (yG_9 rfl) rfl) rfl mw_1698 mw_1700 mw_75 mw_123 mw_1701 (by decide +kernel) ⟨by simp only [rmD]; omega, by simp only [rmD]; omega⟩ hl.1 rfl (Nat.le_of_ble_eq_true rfl) ⟨Nat.zero_le _, Nat.zero_le _⟩ dX9_goes_26 (fun r8 hr8 => ?_)
            obtain ⟨z8, hz8, rfl⟩ := hr8
            refine s_if_eq (a := z8) (tgt := 35) hE.1 hE.2.1 (by omega) dX9_goes_29 (by decide) (fun c9 => ?_) (fun c9 => ?_)
            · skip
              refine lv_aload_n hE.1 hE.2.1 dX9_goes_35 rfl (lv_at hl 1 rfl) ?_
              refine lv_iload_n hE.1 hE.2.1 dX9_goes_36 rfl (lv_at hl 0 rfl) ?_
              have hpc := sb_new (a := w_2) (m := y2_1) (by omega) (by omega) (by omega)
              obtain ⟨z10, hz10, ez10⟩ := YI_get hI 0 26 (-1) 8 (by decide)
              refine x_vv (nn := 1) (As := [.int (iI (y2_1))]) (rest := []) hE hK hN hP hS (s_X9_puts_e l D K ad vl2 arl2 all2 hI (w_1) (by omega) e24_2 (w_2) (by omega) e25_2 (z10) (by omega) ez10 (w_6) (by omega) ((congrFun (hfa2 7 (by decide)) 0).trans ((congrFun (hqa1 7 (by decide)) 0).trans ew_6)) (y2_1) (by omega)) (x_recv hK hP 0 (by decide) (yG_9 rfl) rfl) rfl mw_1646 mw_1648 mw_71 mw_123 mw_1649 (by decide +kernel) ⟨by simp only [rmD]; omega, by simp only [rmD]; omega⟩ hl.1 rfl (Nat.le_of_ble_eq_true rfl) ⟨Nat.zero_le _, Nat.zero_le _⟩ dX9_goes_37 (fun v11 ar11 al11 H locs hq11 hP hS => ?_)
              obtain ⟨hI, hq11, hqa11, hql11, hp11, x11_1, x11_2, x11_3, hx11, ex11_1, ex11_2, ex11_3⟩ := hq11
              have hI : YI v11 ar11 := hI
              have hp11 : PX (w_6) (w_1) (y2_1) (arl2 12) (arl2 14) (ar11 12) (ar11 14) := hp11
              have hxs11 : x11_2 = sb (w_2) (y2_1) := by omega
              have hpx11 : pc (x11_2) = pc (sb (w_2) (y2_1)) := by rw [hxs11]
              have hcx11 : cb (x11_2) (y2_1) = cb (sb (w_2) (y2_1)) (y2_1) := by rw [hxs11]
              refine lv_aload_n hE.1 hE.2.1 dX9_goes_40 rfl (lv_at hl 1 rfl) ?_
              exact False.elim (by omega)
            · skip
              refine lv_goto (tgt := 48) hE.1 hE.2.1 dX9_goes_32 (by decide) ?_
              refine lv_iinc (v := iI (y2_1 + 1)) (lv' := [(1, .int (iI (y2_1 + 1))), (0, .ref (ad 0))]) hE.1 hE.2.1 dX9_goes_48 hl (k := 0) rfl ((iI_add (y2_1) (1)).trans (congrArg iI (by omega))) (by decide) rfl (fun ls hl => ?_)
              refine lv_goto (tgt := 6) hE.1 hE.2.1 dX9_goes_51 (by decide) ?_
              exact ih2 _ (by omega) (y2_1 + 1) (w_1) (w_2) vl2 arl2 all2 _ _ _ rfl (by omega) (by omega) e24_2 e25_2 (hb_xi2)  hI (fun i j h => (hfr2 i j h)) (fun i h => (hfa2 i h)) (fun i h => (hfl2 i h)) hP hS (lv_sub hl [0, 1] rfl)
    exact loop2 _ (0) (w_1) (w_2) v1 ar1 al1 _ _ _ rfl (by omega) (by omega) ((hq1 0 24 (by decide)).trans ew_1) ((hq1 0 25 (by decide)).trans ew_2) (fun j _ => congrFun (show ar1 12 = ar 12 from (hqa1 12 (by decide))) j) hI (fun _ _ _ => rfl) (fun _ _ => rfl) (fun _ _ => rfl) hP hS hl
  | succ k ih =>
    intro v ar al hI w_1 hw_1 ew_1 w_2 hw_2 ew_2 w_3 hw_3 ew_3 w_4 hw_4 ew_4 w_5 hw_5 ew_5 w_6 hw_6 ew_6 hyp hft hk
    refine s_metV (by decide) (Nat.le_of_ble_eq_true rfl) ?_
    intro p e s m below meth c ls args Q hE hB hl kr
    have hE : CallFix p m c cX9_goes 2 s args tbG "TaleCourtModel" := hE
    obtain ⟨hP, hK, hN⟩ := hB
    have hS : va_S (inW ad 21) s.heap s.heap [] := va_S.rf
    have hl : lv_has ls 2 [(0, .ref (ad 0))] := hl
    have hpl := pc_le w_2
    refine lv_aload_n hE.1 hE.2.1 dX9_goes_0 rfl (lv_at hl 0 rfl) ?_
    refine x_vv (nn := 0) (As := []) (rest := []) hE hK hN hP hS (s_X9_meets_e l D K ad v ar al hI (w_1) (by omega) ew_1 (w_2) (by omega) ew_2 (w_3) (by omega) ew_3 (w_4) (by omega) ew_4 (w_5) (by omega) ew_5  (by omega) (FTv_tr hft rfl rfl rfl)) (x_recv hK hP 0 (by decide) (yG_9 rfl) rfl) rfl mw_1806 mw_1808 mw_87 mw_123 mw_1809 (by decide +kernel) ⟨by simp only [rmD]; omega, by simp only [rmD]; omega⟩ hl.1 rfl (Nat.le_of_ble_eq_true rfl) ⟨Nat.zero_le _, Nat.zero_le _⟩ dX9_goes_1 (fun v1 ar1 al1 H locs hq1 hP hS => ?_)
    obtain ⟨hI, hq1, hqa1, hql1⟩ := hq1
    have hI : YI v1 ar1 := hI
    refine lv_iconst (v := iI (0)) hE.1 hE.2.1 dX9_goes_4 (by decide) ?_
    refine lv_istore_n (lv' := [(1, .int (iI (0))), (0, .ref (ad 0))]) hE.1 hE.2.1 dX9_goes_5 rfl hl (by decide) rfl (fun ls hl => ?_)
    have loop2 : ∀ (k2 : Nat) (y2_1 : Int) (yf2_0 : Int) (yf2_1 : Int) (vl2 arl2 : sI) (all2 : sL) (H : Heap) (locs : List Loc) (ls : Array Slot), (9 - y2_1).toNat = k2 → (0 ≤ y2_1 ∧ y2_1 ≤ 9) → (0 ≤ yf2_0 ∧ yf2_0 ≤ 27 ∧ 0 ≤ yf2_1 ∧ yf2_1 ≤ 511 ∧ (yf2_0 = w_1 ∧ yf2_1 = w_2)) → (vl2 0 24 = iI yf2_0) → (vl2 0 25 = iI yf2_1) → (NW w_1 (ar 12) (arl2 12)) → YI vl2 arl2 → (∀ i j : Nat, (i, j) ∉ ([(0, 24), (0, 25), (0, 26), (0, 27), (0, 32), (0, 33), (0, 37), (0, 38), (0, 39), (0, 40)] : List (Nat × Nat)) → vl2 i j = v1 i j) → (∀ i : Nat, i ∉ ([12, 13, 14, 15, 16, 17] : List Nat) → arl2 i = ar1 i) → (∀ i : Nat, i ∉ ([] : List Nat) → all2 i = al1 i) → va_P D xcl (wW ad (yG ad K) 21 vl2 arl2 all2) H → va_S (inW ad 21) s.heap H locs → lv_has ls 2 [(1, .int (iI (y2_1))), (0, .ref (ad 0))] → W p l e (rmD (4 + (k + 1))) s m args below meth c H locs 0 0 Q (F0 m 6 ls []) := by
      intro k2
      induction k2 using Nat.strongRecOn with
      | _ k2 ih2 =>
        intro y2_1 yf2_0 yf2_1 vl2 arl2 all2 H locs ls hk2 hb_y2_1 hyf2 eyf2_0 eyf2_1 hb_xi2 hI hfr2 hfa2 hfl2 hP hS hl
        have e24_2 : vl2 0 24 = iI w_1 := by rw [eyf2_0, show yf2_0 = w_1 by omega]
        have e25_2 : vl2 0 25 = iI w_2 := by rw [eyf2_1, show yf2_1 = w_2 by omega]
        refine lv_iload_n hE.1 hE.2.1 dX9_goes_6 rfl (lv_at hl 0 rfl) ?_
        refine lv_aload_n hE.1 hE.2.1 dX9_goes_7 rfl (lv_at hl 1 rfl) ?_
        refine x_get (x := .ref (ad 7)) hE hK hP 0 (by decide) (yG_9 rfl) rfl hin9 17 (by decide) mw_1351 rfl dX9_goes_8 ?_
        refine lv_iconst (v := iI (2)) hE.1 hE.2.1 dX9_goes_11 (by decide) ?_
        refine x_iald (j := iI (2)) hE hK hP 7 (by decide) (yG_10 rfl) (iI_in (n := 30) (by omega)) dX9_goes_12 ?_
        obtain ⟨z4, hz4, ez4⟩ := YI_h2 hI 2 (by decide)
        refine x_top (y := iI (z4)) (by rw [show (iI (2)).toNatClampNeg = 2 from by decide]; exact ez4) ?_
        refine s_icmp_ge (a := y2_1) (b := z4) (tgt := 54) hE.1 hE.2.1 (by omega) (by omega) dX9_goes_13 (by decide) (fun c5 => ?_) (fun c5 => ?_)
        · skip
          exact kr vl2 arl2 all2 _ _ _ _ ⟨hI, fun i j h => ((hfr2 i j (fun q => h (mem_sub (by decide) q))).trans (hq1 i j (fun q => h (mem_sub (by decide) q)))), fun i h => ((hfa2 i (fun q => h (mem_subn (by decide) q))).trans (hqa1 i (fun q => h (mem_subn (by decide) q)))), fun i h => ((hfl2 i (fun q => h (mem_subn (by decide) q))).trans (hql1 i (fun q => h (mem_subn (by decide) q)))), ⟨hb_xi2, e24_2, e25_2⟩⟩ hP hS dX9_goes_54
        · skip
          refine lv_iload_n hE.1 hE.2.1 dX9_goes_16 rfl (lv_at hl 0 rfl) ?_
          refine lv_aload_n hE.1 hE.2.1 dX9_goes_17 rfl (lv_at hl 1 rfl) ?_
          obtain ⟨z6, hz6, ez6⟩ := iI_of (vl2 0 42)
          refine x_get (x := .int (vl2 0 42)) hE hK hP 0 (by decide) (yG_9 rfl) rfl hin9 42 (by decide) mw_1376 rfl dX9_goes_18 ?_
          refine x_top (y := iI (z6)) ez6 ?_
          refine s_icmp_eq (a := y2_1) (b := z6) (tgt := 48) hE.1 hE.2.1 (by omega) (by omega) dX9_goes_21 (by decide) (fun c7 => ?_) (fun c7 => ?_)
          · skip
            refine lv_iinc (v := iI (y2_1 + 1)) (lv' := [(1, .int (iI (y2_1 + 1))), (0, .ref (ad 0))]) hE.1 hE.2.1 dX9_goes_48 hl (k := 0) rfl ((iI_add (y2_1) (1)).trans (congrArg iI (by omega))) (by decide) rfl (fun ls hl => ?_)
            refine lv_goto (tgt := 6) hE.1 hE.2.1 dX9_goes_51 (by decide) ?_
            exact ih2 _ (by omega) (y2_1 + 1) (w_1) (w_2) vl2 arl2 all2 _ _ _ rfl (by omega) (by omega) e24_2 e25_2 (hb_xi2)  hI (fun i j h => (hfr2 i j h)) (fun i h => (hfa2 i h)) (fun i h => (hfl2 i h)) hP hS (lv_sub hl [0, 1] rfl)
          · skip
            refine lv_aload_n hE.1 hE.2.1 dX9_goes_24 rfl (lv_at hl 1 rfl) ?_
            refine lv_iload_n hE.1 hE.2.1 dX9_goes_25 rfl (lv_at hl 0 rfl) ?_
            refine x_vp (nn := 1) (As := [.int (iI (y2_1))]) (rest := []) hE (s_X9_whyNot_e l D K ad vl2 arl2 all2 hI (w_6) (by omega) ((congrFun (hfa2 7 (by decide)) 0).trans ((congrFun (hqa1 7 (by decide)) 0).trans ew_6)) (w_2) (by omega) e25_2 (y2_1) (by omega)) wPre_blind (wPre_now hK hN hP) (x_recv hK hP 0 (by decide) (yG_9 rfl) rfl) rfl mw_1698 mw_1700 mw_75 mw_123 mw_1701 (by decide +kernel) ⟨by simp only [rmD]; omega, by simp only [rmD]; omega⟩ hl.1 rfl (Nat.le_of_ble_eq_true rfl) ⟨Nat.zero_le _, Nat.zero_le _⟩ dX9_goes_26 (fun r8 hr8 => ?_)
            obtain ⟨z8, hz8, rfl⟩ := hr8
            refine s_if_eq (a := z8) (tgt := 35) hE.1 hE.2.1 (by omega) dX9_goes_29 (by decide) (fun c9 => ?_) (fun c9 => ?_)
            · skip
              refine lv_aload_n hE.1 hE.2.1 dX9_goes_35 rfl (lv_at hl 1 rfl) ?_
              refine lv_iload_n hE.1 hE.2.1 dX9_goes_36 rfl (lv_at hl 0 rfl) ?_
              have hpc := sb_new (a := w_2) (m := y2_1) (by omega) (by omega) (by omega)
              obtain ⟨z10, hz10, ez10⟩ := YI_get hI 0 26 (-1) 8 (by decide)
              refine x_vv (nn := 1) (As := [.int (iI (y2_1))]) (rest := []) hE hK hN hP hS (s_X9_puts_e l D K ad vl2 arl2 all2 hI (w_1) (by omega) e24_2 (w_2) (by omega) e25_2 (z10) (by omega) ez10 (w_6) (by omega) ((congrFun (hfa2 7 (by decide)) 0).trans ((congrFun (hqa1 7 (by decide)) 0).trans ew_6)) (y2_1) (by omega)) (x_recv hK hP 0 (by decide) (yG_9 rfl) rfl) rfl mw_1646 mw_1648 mw_71 mw_123 mw_1649 (by decide +kernel) ⟨by simp only [rmD]; omega, by simp only [rmD]; omega⟩ hl.1 rfl (Nat.le_of_ble_eq_true rfl) ⟨Nat.zero_le _, Nat.zero_le _⟩ dX9_goes_37 (fun v11 ar11 al11 H locs hq11 hP hS => ?_)
              obtain ⟨hI, hq11, hqa11, hql11, hp11, x11_1, x11_2, x11_3, hx11, ex11_1, ex11_2, ex11_3⟩ := hq11
              have hI : YI v11 ar11 := hI
              have hp11 : PX (w_6) (w_1) (y2_1) (arl2 12) (arl2 14) (ar11 12) (ar11 14) := hp11
              have hxs11 : x11_2 = sb (w_2) (y2_1) := by omega
              have hpx11 : pc (x11_2) = pc (sb (w_2) (y2_1)) := by rw [hxs11]
              have hcx11 : cb (x11_2) (y2_1) = cb (sb (w_2) (y2_1)) (y2_1) := by rw [hxs11]
              refine lv_aload_n hE.1 hE.2.1 dX9_goes_40 rfl (lv_at hl 1 rfl) ?_
              refine x_vv (nn := 0) (As := []) (rest := []) hE hK hN hP hS (ih v11 ar11 al11 hI (x11_1) (by omega) ex11_1 (x11_2) (by omega) ex11_2 (x11_3) (by omega) ex11_3 (w_4) (by omega) ((hq11 0 31 (by decide)).trans ((hfr2 0 31 (by decide)).trans ((hq1 0 31 (by decide)).trans ew_4))) (w_5) (by omega) ((hq11 0 41 (by decide)).trans ((hfr2 0 41 (by decide)).trans ((hq1 0 41 (by decide)).trans ew_5))) (w_6) (by omega) ((congrFun (hqa11 7 (by decide)) 0).trans ((congrFun (hfa2 7 (by decide)) 0).trans ((congrFun (hqa1 7 (by decide)) 0).trans ew_6)))  (by omega) (FTv_tr hft ((hqa11 2 (by decide)).trans ((hfa2 2 (by decide)).trans (hqa1 2 (by decide)))) ((hql11 3 (by decide)).trans ((hfl2 3 (by decide)).trans (hql1 3 (by decide)))) rfl) (by omega)) (x_recv hK hP 0 (by decide) (yG_9 rfl) rfl) rfl mw_1802 mw_1804 mw_86 mw_123 mw_1805 (by decide +kernel) ⟨by simp only [rmD]; omega, by simp only [rmD]; omega⟩ hl.1 rfl (Nat.le_of_ble_eq_true rfl) ⟨Nat.zero_le _, Nat.zero_le _⟩ dX9_goes_41 (fun v12 ar12 al12 H locs hq12 hP hS => ?_)
              obtain ⟨hI, hq12, hqa12, hql12, hp12⟩ := hq12
              have hI : YI v12 ar12 := hI
              have hp12 : NW (x11_1) (ar11 12) (ar12 12) ∧ v12 0 24 = iI (x11_1) ∧ v12 0 25 = iI (x11_2) := hp12
              refine lv_aload_n hE.1 hE.2.1 dX9_goes_44 rfl (lv_at hl 1 rfl) ?_
              refine x_vv (nn := 0) (As := []) (rest := []) hE hK hN hP hS (s_X9_takesOff_e l D K ad v12 ar12 al12 hI (x11_1) (by omega) hp12.2.1 (x11_2) (by omega) hp12.2.2 (w_6) (by omega) ((congrFun (hqa12 7 (by decide)) 0).trans ((congrFun (hqa11 7 (by decide)) 0).trans ((congrFun (hfa2 7 (by decide)) 0).trans ((congrFun (hqa1 7 (by decide)) 0).trans ew_6))))  (y2_1) (by omega) (NW_at hp11 hp12.1 (by omega) (by omega) (by omega))) (x_recv hK hP 0 (by decide) (yG_9 rfl) rfl) rfl mw_1822 mw_1824 mw_91 mw_123 mw_1825 (by decide +kernel) ⟨by simp only [rmD]; omega, by simp only [rmD]; omega⟩ hl.1 rfl (Nat.le_of_ble_eq_true rfl) ⟨Nat.zero_le _, Nat.zero_le _⟩ dX9_goes_45 (fun v13 ar13 al13 H locs hq13 hP hS => ?_)
              obtain ⟨hI, hq13, hqa13, hql13, x13_1, x13_2, hx13, ex13_1, ex13_2⟩ := hq13
              have hI : YI v13 ar13 := hI
              refine lv_iinc (v := iI (y2_1 + 1)) (lv' := [(1, .int (iI (y2_1 + 1))), (0, .ref (ad 0))]) hE.1 hE.2.1 dX9_goes_48 hl (k := 0) rfl ((iI_add (y2_1) (1)).trans (congrArg iI (by omega))) (by decide) rfl (fun ls hl => ?_)
              refine lv_goto (tgt := 6) hE.1 hE.2.1 dX9_goes_51 (by decide) ?_
              exact ih2 _ (by omega) (y2_1 + 1) (x13_1) (x13_2) v13 ar13 al13 _ _ _ rfl (by omega) (by omega) ex13_1 ex13_2 (NW_eq (NW_put hb_xi2 hp11 hp12.1 (by omega) (by omega)) (hqa13 12 (by decide)))  hI (fun i j h => (((hq13 i j (fun q => h (mem_sub (by decide) q))).trans ((hq12 i j (fun q => h (mem_sub (by decide) q))).trans (hq11 i j (fun q => h (mem_sub (by decide) q))))).trans (hfr2 i j h))) (fun i h => (((hqa13 i (fun q => h (mem_subn (by decide) q))).trans ((hqa12 i (fun q => h (mem_subn (by decide) q))).trans (hqa11 i (fun q => h (mem_subn (by decide) q))))).trans (hfa2 i h))) (fun i h => (((hql13 i (fun q => h (mem_subn (by decide) q))).trans ((hql12 i (fun q => h (mem_subn (by decide) q))).trans (hql11 i (fun q => h (mem_subn (by decide) q))))).trans (hfl2 i h))) hP hS (lv_sub hl [0, 1] rfl)
            · skip
              refine lv_goto (tgt := 48) hE.1 hE.2.1 dX9_goes_32 (by decide) ?_
              refine lv_iinc (v := iI (y2_1 + 1)) (lv' := [(1, .int (iI (y2_1 + 1))), (0, .ref (ad 0))]) hE.1 hE.2.1 dX9_goes_48 hl (k := 0) rfl ((iI_add (y2_1) (1)).trans (congrArg iI (by omega))) (by decide) rfl (fun ls hl => ?_)
              refine lv_goto (tgt := 6) hE.1 hE.2.1 dX9_goes_51 (by decide) ?_
              exact ih2 _ (by omega) (y2_1 + 1) (w_1) (w_2) vl2 arl2 all2 _ _ _ rfl (by omega) (by omega) e24_2 e25_2 (hb_xi2)  hI (fun i j h => (hfr2 i j h)) (fun i h => (hfa2 i h)) (fun i h => (hfl2 i h)) hP hS (lv_sub hl [0, 1] rfl)
    exact loop2 _ (0) (w_1) (w_2) v1 ar1 al1 _ _ _ rfl (by omega) (by omega) ((hq1 0 24 (by decide)).trans ew_1) ((hq1 0 25 (by decide)).trans ew_2) (fun j _ => congrFun (show ar1 12 = ar 12 from (hqa1 12 (by decide))) j) hI (fun _ _ _ => rfl) (fun _ _ => rfl) (fun _ _ => rfl) hP hS hl
