theorem dX9_mayPlay_0 : decode cX9_mayPlay 0 = .ok (.iload_n 1, 1) := by decide +kernel
theorem dX9_mayPlay_1 : decode cX9_mayPlay 1 = .ok (.iload 4, 2) := by decide +kernel
theorem dX9_mayPlay_3 : decode cX9_mayPlay 3 = .ok (.invokestatic 261, 3) := by decide +kernel
theorem dX9_mayPlay_6 : decode cX9_mayPlay 6 = .ok (.ifCond .ne 16, 3) := by decide +kernel
theorem dX9_mayPlay_9 : decode cX9_mayPlay 9 = .ok (.iload_n 1, 1) := by decide +kernel
theorem dX9_mayPlay_10 : decode cX9_mayPlay 10 = .ok (.aload_n 0, 1) := by decide +kernel
theorem dX9_mayPlay_11 : decode cX9_mayPlay 11 = .ok (.iload 4, 2) := by decide +kernel
theorem dX9_mayPlay_13 : decode cX9_mayPlay 13 = .ok (.bipush 8, 2) := by decide +kernel
theorem dX9_mayPlay_15 : decode cX9_mayPlay 15 = .ok (.invokevirtual 258, 3) := by decide +kernel
theorem dX9_mayPlay_18 : decode cX9_mayPlay 18 = .ok (.iand, 1) := by decide +kernel
theorem dX9_mayPlay_19 : decode cX9_mayPlay 19 = .ok (.ifCond .eq 5, 3) := by decide +kernel
theorem dX9_mayPlay_22 : decode cX9_mayPlay 22 = .ok (.iconst 0, 1) := by decide +kernel
theorem dX9_mayPlay_23 : decode cX9_mayPlay 23 = .ok (.ireturn, 1) := by decide +kernel
theorem dX9_mayPlay_24 : decode cX9_mayPlay 24 = .ok (.iload_n 2, 1) := by decide +kernel
theorem dX9_mayPlay_25 : decode cX9_mayPlay 25 = .ok (.iconst (-1), 1) := by decide +kernel
theorem dX9_mayPlay_26 : decode cX9_mayPlay 26 = .ok (.if_icmp .ne 16, 3) := by decide +kernel
theorem dX9_mayPlay_29 : decode cX9_mayPlay 29 = .ok (.aload_n 0, 1) := by decide +kernel
theorem dX9_mayPlay_30 : decode cX9_mayPlay 30 = .ok (.iload 4, 2) := by decide +kernel
theorem dX9_mayPlay_32 : decode cX9_mayPlay 32 = .ok (.iconst 1, 1) := by decide +kernel
theorem dX9_mayPlay_33 : decode cX9_mayPlay 33 = .ok (.invokevirtual 258, 3) := by decide +kernel
theorem dX9_mayPlay_36 : decode cX9_mayPlay 36 = .ok (.ifCond .ne 23, 3) := by decide +kernel
theorem dX9_mayPlay_39 : decode cX9_mayPlay 39 = .ok (.goto 18, 3) := by decide +kernel
theorem dX9_mayPlay_42 : decode cX9_mayPlay 42 = .ok (.aload_n 0, 1) := by decide +kernel
theorem dX9_mayPlay_43 : decode cX9_mayPlay 43 = .ok (.iload_n 2, 1) := by decide +kernel
theorem dX9_mayPlay_44 : decode cX9_mayPlay 44 = .ok (.bipush 7, 2) := by decide +kernel
theorem dX9_mayPlay_46 : decode cX9_mayPlay 46 = .ok (.invokevirtual 258, 3) := by decide +kernel
theorem dX9_mayPlay_49 : decode cX9_mayPlay 49 = .ok (.iload 4, 2) := by decide +kernel
theorem dX9_mayPlay_51 : decode cX9_mayPlay 51 = .ok (.invokestatic 261, 3) := by decide +kernel
theorem dX9_mayPlay_54 : decode cX9_mayPlay 54 = .ok (.ifCond .ne 5, 3) := by decide +kernel
theorem dX9_mayPlay_57 : decode cX9_mayPlay 57 = .ok (.iconst 0, 1) := by decide +kernel
theorem dX9_mayPlay_58 : decode cX9_mayPlay 58 = .ok (.ireturn, 1) := by decide +kernel
theorem dX9_mayPlay_59 : decode cX9_mayPlay 59 = .ok (.aload_n 0, 1) := by decide +kernel
theorem dX9_mayPlay_60 : decode cX9_mayPlay 60 = .ok (.iload 4, 2) := by decide +kernel
theorem dX9_mayPlay_62 : decode cX9_mayPlay 62 = .ok (.iconst 2, 1) := by decide +kernel
theorem dX9_mayPlay_63 : decode cX9_mayPlay 63 = .ok (.invokevirtual 258, 3) := by decide +kernel
theorem dX9_mayPlay_66 : decode cX9_mayPlay 66 = .ok (.iconst 1, 1) := by decide +kernel
theorem dX9_mayPlay_67 : decode cX9_mayPlay 67 = .ok (.if_icmp .ne 7, 3) := by decide +kernel
theorem dX9_mayPlay_70 : decode cX9_mayPlay 70 = .ok (.iload_n 3, 1) := by decide +kernel
theorem dX9_mayPlay_71 : decode cX9_mayPlay 71 = .ok (.ifCond .eq 31, 3) := by decide +kernel
theorem dX9_mayPlay_74 : decode cX9_mayPlay 74 = .ok (.aload_n 0, 1) := by decide +kernel
theorem dX9_mayPlay_75 : decode cX9_mayPlay 75 = .ok (.iload 4, 2) := by decide +kernel
theorem dX9_mayPlay_77 : decode cX9_mayPlay 77 = .ok (.bipush 6, 2) := by decide +kernel
theorem dX9_mayPlay_79 : decode cX9_mayPlay 79 = .ok (.invokevirtual 258, 3) := by decide +kernel
theorem dX9_mayPlay_82 : decode cX9_mayPlay 82 = .ok (.iconst (-1), 1) := by decide +kernel
theorem dX9_mayPlay_83 : decode cX9_mayPlay 83 = .ok (.if_icmp .eq 15, 3) := by decide +kernel
theorem dX9_mayPlay_86 : decode cX9_mayPlay 86 = .ok (.aload_n 0, 1) := by decide +kernel
theorem dX9_mayPlay_87 : decode cX9_mayPlay 87 = .ok (.iload 4, 2) := by decide +kernel
theorem dX9_mayPlay_89 : decode cX9_mayPlay 89 = .ok (.bipush 6, 2) := by decide +kernel
theorem dX9_mayPlay_91 : decode cX9_mayPlay 91 = .ok (.invokevirtual 258, 3) := by decide +kernel
theorem dX9_mayPlay_94 : decode cX9_mayPlay 94 = .ok (.iload_n 3, 1) := by decide +kernel
theorem dX9_mayPlay_95 : decode cX9_mayPlay 95 = .ok (.if_icmp .ne 7, 3) := by decide +kernel
theorem dX9_mayPlay_98 : decode cX9_mayPlay 98 = .ok (.iconst 1, 1) := by decide +kernel
theorem dX9_mayPlay_99 : decode cX9_mayPlay 99 = .ok (.goto 4, 3) := by decide +kernel
theorem dX9_mayPlay_102 : decode cX9_mayPlay 102 = .ok (.iconst 0, 1) := by decide +kernel
theorem dX9_mayPlay_103 : decode cX9_mayPlay 103 = .ok (.ireturn, 1) := by decide +kernel
set_option maxHeartbeats 4000000 in
set_option maxRecDepth 100000 in
theorem s_X9_mayPlay_e (l : Launch) (D : va_G) (K : Nat → ClassId) (ad : Nat → Nat) (v ar : sI) (al : sL) (hI : YI v ar) (z_1 : Int) (hz_1 : 0 ≤ z_1 ∧ z_1 ≤ 511) (z_2 : Int) (hz_2 : -1 ≤ z_2 ∧ z_2 ≤ 8) (z_3 : Int) (hz_3 : 0 ≤ z_3 ∧ z_3 ≤ 1) (z_4 : Int) (hz_4 : 0 ≤ z_4 ∧ z_4 ≤ 8) : Met l yX9_mayPlay (wM yX9_mayPlay cX9_mayPlay 5 (some .boolean)) (rmD 1) (va_Pc [.ref (ad 0), .int (iI (z_1)), .int (iI (z_2)), .int (iI (z_3)), .int (iI (z_4))] (wPre D K ad (yG ad K) 21 v ar al)) (vp_Si (fun r => ∃ z : Int, (z = 0 ∨ (z = 1 ∧ bt z_1 z_4 = 0)) ∧ r = iI z)) 0 0 (fun _ => False) := by
  refine s_metP (by decide) (Nat.le_of_ble_eq_true rfl) ?_
  intro p e s m below meth c ls args Q hE hB hl kr
  have hE : CallFix p m c cX9_mayPlay 5 s args tbG "TaleCourtModel" := hE
  obtain ⟨hP, hK, hN⟩ := hB
  have hl : lv_has ls 5 [(0, .ref (ad 0)), (1, .int (iI (z_1))), (2, .int (iI (z_2))), (3, .int (iI (z_3))), (4, .int (iI (z_4)))] := hl
  refine lv_iload_n hE.1 hE.2.1 dX9_mayPlay_0 rfl (lv_at hl 1 rfl) ?_
  refine lv_iload hE.1 hE.2.1 dX9_mayPlay_1 (lv_at hl 4 rfl) ?_
  refine x_sp (nn := 2) (As := [.int (iI (z_1)), .int (iI (z_4))]) (rest := []) hE (s_X9_isBit_e l (z_1) (by omega) (z_4) (by omega)) tt_blind (fun _ _ _ => trivial) rfl mw_1683 mw_1684 mw_123 mw_1685 (by decide +kernel) ⟨by decide, by decide⟩ hl.1 rfl (Nat.le_of_ble_eq_true rfl) ⟨Nat.zero_le _, Nat.zero_le _⟩ dX9_mayPlay_3 (fun r1 hr1 => ?_)
  obtain ⟨z1, hz1, rfl⟩ := hr1
  refine s_if_ne (a := z1) (tgt := 22) hE.1 hE.2.1 (by omega) dX9_mayPlay_6 (by decide) (fun c2 => ?_) (fun c2 => ?_)
  · skip
    refine lv_iconst (v := iI (0)) hE.1 hE.2.1 dX9_mayPlay_22 (by decide) ?_
    exact kr _ _ _ (nar01 (by omega)) ⟨0, by omega, rfl⟩ dX9_mayPlay_23
  · skip
    refine lv_iload_n hE.1 hE.2.1 dX9_mayPlay_9 rfl (lv_at hl 1 rfl) ?_
    refine lv_aload_n hE.1 hE.2.1 dX9_mayPlay_10 rfl (lv_at hl 0 rfl) ?_
    refine lv_iload hE.1 hE.2.1 dX9_mayPlay_11 (lv_at hl 4 rfl) ?_
    refine lv_bipush (v := iI (8)) hE.1 hE.2.1 dX9_mayPlay_13 (by decide) ?_
    refine x_vp (nn := 2) (As := [.int (iI (z_4)), .int (iI (8))]) (rest := [.int (iI (z_1))]) hE (s_X9_of l D K ad v ar al hI  (z_4) (by omega) (8) (by omega)) wPre_blind (wPre_now hK hN hP) (x_recv hK hP 0 (by decide) (yG_9 rfl) rfl) rfl mw_1654 mw_1656 mw_73 mw_123 mw_1657 (by decide +kernel) ⟨by decide, by decide⟩ hl.1 rfl (Nat.le_of_ble_eq_true rfl) ⟨Nat.zero_le _, Nat.zero_le _⟩ dX9_mayPlay_15 (fun r3 hr3 => ?_)
    obtain ⟨z3, hz3, rfl⟩ := hr3
    refine lv_iand hE.1 hE.2.1 dX9_mayPlay_18 ?_
    obtain ⟨z4, hz4, ez4⟩ := iI_and9 (a := z_1) (by omega) (iI (z3))
    refine x_top ez4 ?_
    refine s_if_eq (a := z4) (tgt := 24) hE.1 hE.2.1 (by omega) dX9_mayPlay_19 (by decide) (fun c5 => ?_) (fun c5 => ?_)
    · skip
      refine lv_iload_n hE.1 hE.2.1 dX9_mayPlay_24 rfl (lv_at hl 2 rfl) ?_
      refine lv_iconst (v := iI (-1)) hE.1 hE.2.1 dX9_mayPlay_25 (by decide) ?_
      refine s_icmp_ne (a := z_2) (b := -1) (tgt := 42) hE.1 hE.2.1 (by omega) (by omega) dX9_mayPlay_26 (by decide) (fun c6 => ?_) (fun c6 => ?_)
      · skip
        refine lv_aload_n hE.1 hE.2.1 dX9_mayPlay_42 rfl (lv_at hl 0 rfl) ?_
        refine lv_iload_n hE.1 hE.2.1 dX9_mayPlay_43 rfl (lv_at hl 2 rfl) ?_
        refine lv_bipush (v := iI (7)) hE.1 hE.2.1 dX9_mayPlay_44 (by decide) ?_
        refine x_vp (nn := 2) (As := [.int (iI (z_2)), .int (iI (7))]) (rest := []) hE (s_X9_of l D K ad v ar al hI  (z_2) (by omega) (7) (by omega)) wPre_blind (wPre_now hK hN hP) (x_recv hK hP 0 (by decide) (yG_9 rfl) rfl) rfl mw_1654 mw_1656 mw_73 mw_123 mw_1657 (by decide +kernel) ⟨by decide, by decide⟩ hl.1 rfl (Nat.le_of_ble_eq_true rfl) ⟨Nat.zero_le _, Nat.zero_le _⟩ dX9_mayPlay_46 (fun r7 hr7 => ?_)
        obtain ⟨z7, hz7, rfl⟩ := hr7
        refine lv_iload hE.1 hE.2.1 dX9_mayPlay_49 (lv_at hl 4 rfl) ?_
        refine x_sp (nn := 2) (As := [.int (iI (z7)), .int (iI (z_4))]) (rest := []) hE (s_X9_isBit_e l (z7) (by omega) (z_4) (by omega)) tt_blind (fun _ _ _ => trivial) rfl mw_1683 mw_1684 mw_123 mw_1685 (by decide +kernel) ⟨by decide, by decide⟩ hl.1 rfl (Nat.le_of_ble_eq_true rfl) ⟨Nat.zero_le _, Nat.zero_le _⟩ dX9_mayPlay_51 (fun r8 hr8 => ?_)
        obtain ⟨z8, hz8, rfl⟩ := hr8
        refine s_if_ne (a := z8) (tgt := 59) hE.1 hE.2.1 (by omega) dX9_mayPlay_54 (by decide) (fun c9 => ?_) (fun c9 => ?_)
        · skip
          refine lv_aload_n hE.1 hE.2.1 dX9_mayPlay_59 rfl (lv_at hl 0 rfl) ?_
          refine lv_iload hE.1 hE.2.1 dX9_mayPlay_60 (lv_at hl 4 rfl) ?_
          refine lv_iconst (v := iI (2)) hE.1 hE.2.1 dX9_mayPlay_62 (by decide) ?_
          refine x_vp (nn := 2) (As := [.int (iI (z_4)), .int (iI (2))]) (rest := []) hE (s_X9_of l D K ad v ar al hI  (z_4) (by omega) (2) (by omega)) wPre_blind (wPre_now hK hN hP) (x_recv hK hP 0 (by decide) (yG_9 rfl) rfl) rfl mw_1654 mw_1656 mw_73 mw_123 mw_1657 (by decide +kernel) ⟨by decide, by decide⟩ hl.1 rfl (Nat.le_of_ble_eq_true rfl) ⟨Nat.zero_le _, Nat.zero_le _⟩ dX9_mayPlay_63 (fun r10 hr10 => ?_)
          obtain ⟨z10, hz10, rfl⟩ := hr10
          refine lv_iconst (v := iI (1)) hE.1 hE.2.1 dX9_mayPlay_66 (by decide) ?_
          refine s_icmp_ne (a := z10) (b := 1) (tgt := 74) hE.1 hE.2.1 (by omega) (by omega) dX9_mayPlay_67 (by decide) (fun c11 => ?_) (fun c11 => ?_)
          · skip
            refine lv_aload_n hE.1 hE.2.1 dX9_mayPlay_74 rfl (lv_at hl 0 rfl) ?_
            refine lv_iload hE.1 hE.2.1 dX9_mayPlay_75 (lv_at hl 4 rfl) ?_
            refine lv_bipush (v := iI (6)) hE.1 hE.2.1 dX9_mayPlay_77 (by decide) ?_
            refine x_vp (nn := 2) (As := [.int (iI (z_4)), .int (iI (6))]) (rest := []) hE (s_X9_of l D K ad v ar al hI  (z_4) (by omega) (6) (by omega)) wPre_blind (wPre_now hK hN hP) (x_recv hK hP 0 (by decide) (yG_9 rfl) rfl) rfl mw_1654 mw_1656 mw_73 mw_123 mw_1657 (by decide +kernel) ⟨by decide, by decide⟩ hl.1 rfl (Nat.le_of_ble_eq_true rfl) ⟨Nat.zero_le _, Nat.zero_le _⟩ dX9_mayPlay_79 (fun r12 hr12 => ?_)
            obtain ⟨z12, hz12, rfl⟩ := hr12
            refine lv_iconst (v := iI (-1)) hE.1 hE.2.1 dX9_mayPlay_82 (by decide) ?_
            refine s_icmp_eq (a := z12) (b := -1) (tgt := 98) hE.1 hE.2.1 (by omega) (by omega) dX9_mayPlay_83 (by decide) (fun c13 => ?_) (fun c13 => ?_)
            · skip
              refine lv_iconst (v := iI (1)) hE.1 hE.2.1 dX9_mayPlay_98 (by decide) ?_
              refine lv_goto (tgt := 103) hE.1 hE.2.1 dX9_mayPlay_99 (by decide) ?_
              exact kr _ _ _ (nar01 (by omega)) ⟨1, by omega, rfl⟩ dX9_mayPlay_103
            · skip
              refine lv_aload_n hE.1 hE.2.1 dX9_mayPlay_86 rfl (lv_at hl 0 rfl) ?_
              refine lv_iload hE.1 hE.2.1 dX9_mayPlay_87 (lv_at hl 4 rfl) ?_
              refine lv_bipush (v := iI (6)) hE.1 hE.2.1 dX9_mayPlay_89 (by decide) ?_
              refine x_vp (nn := 2) (As := [.int (iI (z_4)), .int (iI (6))]) (rest := []) hE (s_X9_of l D K ad v ar al hI  (z_4) (by omega) (6) (by omega)) wPre_blind (wPre_now hK hN hP) (x_recv hK hP 0 (by decide) (yG_9 rfl) rfl) rfl mw_1654 mw_1656 mw_73 mw_123 mw_1657 (by decide +kernel) ⟨by decide, by decide⟩ hl.1 rfl (Nat.le_of_ble_eq_true rfl) ⟨Nat.zero_le _, Nat.zero_le _⟩ dX9_mayPlay_91 (fun r14 hr14 => ?_)
              obtain ⟨z14, hz14, rfl⟩ := hr14
              refine lv_iload_n hE.1 hE.2.1 dX9_mayPlay_94 rfl (lv_at hl 3 rfl) ?_
              refine s_icmp_ne (a := z14) (b := z_3) (tgt := 102) hE.1 hE.2.1 (by omega) (by omega) dX9_mayPlay_95 (by decide) (fun c15 => ?_) (fun c15 => ?_)
              · skip
                refine lv_iconst (v := iI (0)) hE.1 hE.2.1 dX9_mayPlay_102 (by decide) ?_
                exact kr _ _ _ (nar01 (by omega)) ⟨0, by omega, rfl⟩ dX9_mayPlay_103
              · skip
                refine lv_iconst (v := iI (1)) hE.1 hE.2.1 dX9_mayPlay_98 (by decide) ?_
                refine lv_goto (tgt := 103) hE.1 hE.2.1 dX9_mayPlay_99 (by decide) ?_
                exact kr _ _ _ (nar01 (by omega)) ⟨1, by omega, rfl⟩ dX9_mayPlay_103
          · skip
            refine lv_iload_n hE.1 hE.2.1 dX9_mayPlay_70 rfl (lv_at hl 3 rfl) ?_
            refine s_if_eq (a := z_3) (tgt := 102) hE.1 hE.2.1 (by omega) dX9_mayPlay_71 (by decide) (fun c16 => ?_) (fun c16 => ?_)
            · skip
              refine lv_iconst (v := iI (0)) hE.1 hE.2.1 dX9_mayPlay_102 (by decide) ?_
              exact kr _ _ _ (nar01 (by omega)) ⟨0, by omega, rfl⟩ dX9_mayPlay_103
            · skip
              refine lv_aload_n hE.1 hE.2.1 dX9_mayPlay_74 rfl (lv_at hl 0 rfl) ?_
              refine lv_iload hE.1 hE.2.1 dX9_mayPlay_75 (lv_at hl 4 rfl) ?_
              refine lv_bipush (v := iI (6)) hE.1 hE.2.1 dX9_mayPlay_77 (by decide) ?_
              refine x_vp (nn := 2) (As := [.int (iI (z_4)), .int (iI (6))]) (rest := []) hE (s_X9_of l D K ad v ar al hI  (z_4) (by omega) (6) (by omega)) wPre_blind (wPre_now hK hN hP) (x_recv hK hP 0 (by decide) (yG_9 rfl) rfl) rfl mw_1654 mw_1656 mw_73 mw_123 mw_1657 (by decide +kernel) ⟨by decide, by decide⟩ hl.1 rfl (Nat.le_of_ble_eq_true rfl) ⟨Nat.zero_le _, Nat.zero_le _⟩ dX9_mayPlay_79 (fun r17 hr17 => ?_)
              obtain ⟨z17, hz17, rfl⟩ := hr17
              refine lv_iconst (v := iI (-1)) hE.1 hE.2.1 dX9_mayPlay_82 (by decide) ?_
              refine s_icmp_eq (a := z17) (b := -1) (tgt := 98) hE.1 hE.2.1 (by omega) (by omega) dX9_mayPlay_83 (by decide) (fun c18 => ?_) (fun c18 => ?_)
              · skip
                refine lv_iconst (v := iI (1)) hE.1 hE.2.1 dX9_mayPlay_98 (by decide) ?_
                refine lv_goto (tgt := 103) hE.1 hE.2.1 dX9_mayPlay_99 (by decide) ?_
                exact kr _ _ _ (nar01 (by omega)) ⟨1, by omega, rfl⟩ dX9_mayPlay_103
              · skip
                refine lv_aload_n hE.1 hE.2.1 dX9_mayPlay_86 rfl (lv_at hl 0 rfl) ?_
                refine lv_iload hE.1 hE.2.1 dX9_mayPlay_87 (lv_at hl 4 rfl) ?_
                refine lv_bipush (v := iI (6)) hE.1 hE.2.1 dX9_mayPlay_89 (by decide) ?_
                refine x_vp (nn := 2) (As := [.int (iI (z_4)), .int (iI (6))]) (rest := []) hE (s_X9_of l D K ad v ar al hI  (z_4) (by omega) (6) (by omega)) wPre_blind (wPre_now hK hN hP) (x_recv hK hP 0 (by decide) (yG_9 rfl) rfl) rfl mw_1654 mw_1656 mw_73 mw_123 mw_1657 (by decide +kernel) ⟨by decide, by decide⟩ hl.1 rfl (Nat.le_of_ble_eq_true rfl) ⟨Nat.zero_le _, Nat.zero_le _⟩ dX9_mayPlay_91 (fun r19 hr19 => ?_)
                obtain ⟨z19, hz19, rfl⟩ := hr19
                refine lv_iload_n hE.1 hE.2.1 dX9_mayPlay_94 rfl (lv_at hl 3 rfl) ?_
                refine s_icmp_ne (a := z19) (b := z_3) (tgt := 102) hE.1 hE.2.1 (by omega) (by omega) dX9_mayPlay_95 (by decide) (fun c20 => ?_) (fun c20 => ?_)
                · skip
                  refine lv_iconst (v := iI (0)) hE.1 hE.2.1 dX9_mayPlay_102 (by decide) ?_
                  exact kr _ _ _ (nar01 (by omega)) ⟨0, by omega, rfl⟩ dX9_mayPlay_103
                · skip
                  refine lv_iconst (v := iI (1)) hE.1 hE.2.1 dX9_mayPlay_98 (by decide) ?_
                  refine lv_goto (tgt := 103) hE.1 hE.2.1 dX9_mayPlay_99 (by decide) ?_
                  exact kr _ _ _ (nar01 (by omega)) ⟨1, by omega, rfl⟩ dX9_mayPlay_103
        · skip
          refine lv_iconst (v := iI (0)) hE.1 hE.2.1 dX9_mayPlay_57 (by decide) ?_
          exact kr _ _ _ (nar01 (by omega)) ⟨0, by omega, rfl⟩ dX9_mayPlay_58
      · skip
        refine lv_aload_n hE.1 hE.2.1 dX9_mayPlay_29 rfl (lv_at hl 0 rfl) ?_
        refine lv_iload hE.1 hE.2.1 dX9_mayPlay_30 (lv_at hl 4 rfl) ?_
        refine lv_iconst (v := iI (1)) hE.1 hE.2.1 dX9_mayPlay_32 (by decide) ?_
        refine x_vp (nn := 2) (As := [.int (iI (z_4)), .int (iI (1))]) (rest := []) hE (s_X9_of l D K ad v ar al hI  (z_4) (by omega) (1) (by omega)) wPre_blind (wPre_now hK hN hP) (x_recv hK hP 0 (by decide) (yG_9 rfl) rfl) rfl mw_1654 mw_1656 mw_73 mw_123 mw_1657 (by decide +kernel) ⟨by decide, by decide⟩ hl.1 rfl (Nat.le_of_ble_eq_true rfl) ⟨Nat.zero_le _, Nat.zero_le _⟩ dX9_mayPlay_33 (fun r21 hr21 => ?_)
        obtain ⟨z21, hz21, rfl⟩ := hr21
        refine s_if_ne (a := z21) (tgt := 59) hE.1 hE.2.1 (by omega) dX9_mayPlay_36 (by decide) (fun c22 => ?_) (fun c22 => ?_)
        · skip
          refine lv_aload_n hE.1 hE.2.1 dX9_mayPlay_59 rfl (lv_at hl 0 rfl) ?_
          refine lv_iload hE.1 hE.2.1 dX9_mayPlay_60 (lv_at hl 4 rfl) ?_
          refine lv_iconst (v := iI (2)) hE.1 hE.2.1 dX9_mayPlay_62 (by decide) ?_
          refine x_vp (nn := 2) (As := [.int (iI (z_4)), .int (iI (2))]) (rest := []) hE (s_X9_of l D K ad v ar al hI  (z_4) (by omega) (2) (by omega)) wPre_blind (wPre_now hK hN hP) (x_recv hK hP 0 (by decide) (yG_9 rfl) rfl) rfl mw_1654 mw_1656 mw_73 mw_123 mw_1657 (by decide +kernel) ⟨by decide, by decide⟩ hl.1 rfl (Nat.le_of_ble_eq_true rfl) ⟨Nat.zero_le _, Nat.zero_le _⟩ dX9_mayPlay_63 (fun r23 hr23 => ?_)
          obtain ⟨z23, hz23, rfl⟩ := hr23
          refine lv_iconst (v := iI (1)) hE.1 hE.2.1 dX9_mayPlay_66 (by decide) ?_
          refine s_icmp_ne (a := z23) (b := 1) (tgt := 74) hE.1 hE.2.1 (by omega) (by omega) dX9_mayPlay_67 (by decide) (fun c24 => ?_) (fun c24 => ?_)
          · skip
            refine lv_aload_n hE.1 hE.2.1 dX9_mayPlay_74 rfl (lv_at hl 0 rfl) ?_
            refine lv_iload hE.1 hE.2.1 dX9_mayPlay_75 (lv_at hl 4 rfl) ?_
            refine lv_bipush (v := iI (6)) hE.1 hE.2.1 dX9_mayPlay_77 (by decide) ?_
            refine x_vp (nn := 2) (As := [.int (iI (z_4)), .int (iI (6))]) (rest := []) hE (s_X9_of l D K ad v ar al hI  (z_4) (by omega) (6) (by omega)) wPre_blind (wPre_now hK hN hP) (x_recv hK hP 0 (by decide) (yG_9 rfl) rfl) rfl mw_1654 mw_1656 mw_73 mw_123 mw_1657 (by decide +kernel) ⟨by decide, by decide⟩ hl.1 rfl (Nat.le_of_ble_eq_true rfl) ⟨Nat.zero_le _, Nat.zero_le _⟩ dX9_mayPlay_79 (fun r25 hr25 => ?_)
            obtain ⟨z25, hz25, rfl⟩ := hr25
            refine lv_iconst (v := iI (-1)) hE.1 hE.2.1 dX9_mayPlay_82 (by decide) ?_
            refine s_icmp_eq (a := z25) (b := -1) (tgt := 98) hE.1 hE.2.1 (by omega) (by omega) dX9_mayPlay_83 (by decide) (fun c26 => ?_) (fun c26 => ?_)
            · skip
              refine lv_iconst (v := iI (1)) hE.1 hE.2.1 dX9_mayPlay_98 (by decide) ?_
              refine lv_goto (tgt := 103) hE.1 hE.2.1 dX9_mayPlay_99 (by decide) ?_
              exact kr _ _ _ (nar01 (by omega)) ⟨1, by omega, rfl⟩ dX9_mayPlay_103
            · skip
              refine lv_aload_n hE.1 hE.2.1 dX9_mayPlay_86 rfl (lv_at hl 0 rfl) ?_
              refine lv_iload hE.1 hE.2.1 dX9_mayPlay_87 (lv_at hl 4 rfl) ?_
              refine lv_bipush (v := iI (6)) hE.1 hE.2.1 dX9_mayPlay_89 (by decide) ?_
              refine x_vp (nn := 2) (As := [.int (iI (z_4)), .int (iI (6))]) (rest := []) hE (s_X9_of l D K ad v ar al hI  (z_4) (by omega) (6) (by omega)) wPre_blind (wPre_now hK hN hP) (x_recv hK hP 0 (by decide) (yG_9 rfl) rfl) rfl mw_1654 mw_1656 mw_73 mw_123 mw_1657 (by decide +kernel) ⟨by decide, by decide⟩ hl.1 rfl (Nat.le_of_ble_eq_true rfl) ⟨Nat.zero_le _, Nat.zero_le _⟩ dX9_mayPlay_91 (fun r27 hr27 => ?_)
              obtain ⟨z27, hz27, rfl⟩ := hr27
              refine lv_iload_n hE.1 hE.2.1 dX9_mayPlay_94 rfl (lv_at hl 3 rfl) ?_
              refine s_icmp_ne (a := z27) (b := z_3) (tgt := 102) hE.1 hE.2.1 (by omega) (by omega) dX9_mayPlay_95 (by decide) (fun c28 => ?_) (fun c28 => ?_)
              · skip
                refine lv_iconst (v := iI (0)) hE.1 hE.2.1 dX9_mayPlay_102 (by decide) ?_
                exact kr _ _ _ (nar01 (by omega)) ⟨0, by omega, rfl⟩ dX9_mayPlay_103
              · skip
                refine lv_iconst (v := iI (1)) hE.1 hE.2.1 dX9_mayPlay_98 (by decide) ?_
                refine lv_goto (tgt := 103) hE.1 hE.2.1 dX9_mayPlay_99 (by decide) ?_
                exact kr _ _ _ (nar01 (by omega)) ⟨1, by omega, rfl⟩ dX9_mayPlay_103
          · skip
            refine lv_iload_n hE.1 hE.2.1 dX9_mayPlay_70 rfl (lv_at hl 3 rfl) ?_
            refine s_if_eq (a := z_3) (tgt := 102) hE.1 hE.2.1 (by omega) dX9_mayPlay_71 (by decide) (fun c29 => ?_) (fun c29 => ?_)
            · skip
              refine lv_iconst (v := iI (0)) hE.1 hE.2.1 dX9_mayPlay_102 (by decide) ?_
              exact kr _ _ _ (nar01 (by omega)) ⟨0, by omega, rfl⟩ dX9_mayPlay_103
            · skip
              refine lv_aload_n hE.1 hE.2.1 dX9_mayPlay_74 rfl (lv_at hl 0 rfl) ?_
              refine lv_iload hE.1 hE.2.1 dX9_mayPlay_75 (lv_at hl 4 rfl) ?_
              refine lv_bipush (v := iI (6)) hE.1 hE.2.1 dX9_mayPlay_77 (by decide) ?_
              refine x_vp (nn := 2) (As := [.int (iI (z_4)), .int (iI (6))]) (rest := []) hE (s_X9_of l D K ad v ar al hI  (z_4) (by omega) (6) (by omega)) wPre_blind (wPre_now hK hN hP) (x_recv hK hP 0 (by decide) (yG_9 rfl) rfl) rfl mw_1654 mw_1656 mw_73 mw_123 mw_1657 (by decide +kernel) ⟨by decide, by decide⟩ hl.1 rfl (Nat.le_of_ble_eq_true rfl) ⟨Nat.zero_le _, Nat.zero_le _⟩ dX9_mayPlay_79 (fun r30 hr30 => ?_)
              obtain ⟨z30, hz30, rfl⟩ := hr30
              refine lv_iconst (v := iI (-1)) hE.1 hE.2.1 dX9_mayPlay_82 (by decide) ?_
              refine s_icmp_eq (a := z30) (b := -1) (tgt := 98) hE.1 hE.2.1 (by omega) (by omega) dX9_mayPlay_83 (by decide) (fun c31 => ?_) (fun c31 => ?_)
              · skip
                refine lv_iconst (v := iI (1)) hE.1 hE.2.1 dX9_mayPlay_98 (by decide) ?_
                refine lv_goto (tgt := 103) hE.1 hE.2.1 dX9_mayPlay_99 (by decide) ?_
                exact kr _ _ _ (nar01 (by omega)) ⟨1, by omega, rfl⟩ dX9_mayPlay_103
              · skip
                refine lv_aload_n hE.1 hE.2.1 dX9_mayPlay_86 rfl (lv_at hl 0 rfl) ?_
                refine lv_iload hE.1 hE.2.1 dX9_mayPlay_87 (lv_at hl 4 rfl) ?_
                refine lv_bipush (v := iI (6)) hE.1 hE.2.1 dX9_mayPlay_89 (by decide) ?_
                refine x_vp (nn := 2) (As := [.int (iI (z_4)), .int (iI (6))]) (rest := []) hE (s_X9_of l D K ad v ar al hI  (z_4) (by omega) (6) (by omega)) wPre_blind (wPre_now hK hN hP) (x_recv hK hP 0 (by decide) (yG_9 rfl) rfl) rfl mw_1654 mw_1656 mw_73 mw_123 mw_1657 (by decide +kernel) ⟨by decide, by decide⟩ hl.1 rfl (Nat.le_of_ble_eq_true rfl) ⟨Nat.zero_le _, Nat.zero_le _⟩ dX9_mayPlay_91 (fun r32 hr32 => ?_)
                obtain ⟨z32, hz32, rfl⟩ := hr32
                refine lv_iload_n hE.1 hE.2.1 dX9_mayPlay_94 rfl (lv_at hl 3 rfl) ?_
                refine s_icmp_ne (a := z32) (b := z_3) (tgt := 102) hE.1 hE.2.1 (by omega) (by omega) dX9_mayPlay_95 (by decide) (fun c33 => ?_) (fun c33 => ?_)
                · skip
                  refine lv_iconst (v := iI (0)) hE.1 hE.2.1 dX9_mayPlay_102 (by decide) ?_
                  exact kr _ _ _ (nar01 (by omega)) ⟨0, by omega, rfl⟩ dX9_mayPlay_103
                · skip
                  refine lv_iconst (v := iI (1)) hE.1 hE.2.1 dX9_mayPlay_98 (by decide) ?_
                  refine lv_goto (tgt := 103) hE.1 hE.2.1 dX9_mayPlay_99 (by decide) ?_
                  exact kr _ _ _ (nar01 (by omega)) ⟨1, by omega, rfl⟩ dX9_mayPlay_103
        · skip
          refine lv_goto (tgt := 57) hE.1 hE.2.1 dX9_mayPlay_39 (by decide) ?_
          refine lv_iconst (v := iI (0)) hE.1 hE.2.1 dX9_mayPlay_57 (by decide) ?_
          exact kr _ _ _ (nar01 (by omega)) ⟨0, by omega, rfl⟩ dX9_mayPlay_58
    · skip
      refine lv_iconst (v := iI (0)) hE.1 hE.2.1 dX9_mayPlay_22 (by decide) ?_
      exact kr _ _ _ (nar01 (by omega)) ⟨0, by omega, rfl⟩ dX9_mayPlay_23

theorem dX9_act_0 : decode cX9_act 0 = .ok (.iload 6, 2) := by decide +kernel
theorem dX9_act_2 : decode cX9_act 2 = .ok (.bipush 9, 2) := by decide +kernel
theorem dX9_act_4 : decode cX9_act 4 = .ok (.if_icmp .ne 56, 3) := by decide +kernel
theorem dX9_act_7 : decode cX9_act 7 = .ok (.iload_n 3, 1) := by decide +kernel
theorem dX9_act_8 : decode cX9_act 8 = .ok (.ifCond .ne 8, 3) := by decide +kernel
theorem dX9_act_11 : decode cX9_act 11 = .ok (.iload 4, 2) := by decide +kernel
theorem dX9_act_13 : decode cX9_act 13 = .ok (.goto 5, 3) := by decide +kernel
theorem dX9_act_16 : decode cX9_act 16 = .ok (.iload 5, 2) := by decide +kernel
theorem dX9_act_18 : decode cX9_act 18 = .ok (.ifCond .ne 5, 3) := by decide +kernel
theorem dX9_act_21 : decode cX9_act 21 = .ok (.iconst 0, 1) := by decide +kernel
theorem dX9_act_22 : decode cX9_act 22 = .ok (.ireturn, 1) := by decide +kernel
theorem dX9_act_23 : decode cX9_act 23 = .ok (.aload_n 0, 1) := by decide +kernel
theorem dX9_act_24 : decode cX9_act 24 = .ok (.iload_n 1, 1) := by decide +kernel
theorem dX9_act_25 : decode cX9_act 25 = .ok (.iload_n 2, 1) := by decide +kernel
theorem dX9_act_26 : decode cX9_act 26 = .ok (.iconst 1, 1) := by decide +kernel
theorem dX9_act_27 : decode cX9_act 27 = .ok (.iload_n 3, 1) := by decide +kernel
theorem dX9_act_28 : decode cX9_act 28 = .ok (.isub, 1) := by decide +kernel
theorem dX9_act_29 : decode cX9_act 29 = .ok (.iload_n 3, 1) := by decide +kernel
theorem dX9_act_30 : decode cX9_act 30 = .ok (.ifCond .ne 10, 3) := by decide +kernel
theorem dX9_act_33 : decode cX9_act 33 = .ok (.iload 4, 2) := by decide +kernel
theorem dX9_act_35 : decode cX9_act 35 = .ok (.iconst 1, 1) := by decide +kernel
theorem dX9_act_36 : decode cX9_act 36 = .ok (.isub, 1) := by decide +kernel
theorem dX9_act_37 : decode cX9_act 37 = .ok (.goto 5, 3) := by decide +kernel
theorem dX9_act_40 : decode cX9_act 40 = .ok (.iload 4, 2) := by decide +kernel
theorem dX9_act_42 : decode cX9_act 42 = .ok (.iload_n 3, 1) := by decide +kernel
theorem dX9_act_43 : decode cX9_act 43 = .ok (.iconst 1, 1) := by decide +kernel
theorem dX9_act_44 : decode cX9_act 44 = .ok (.if_icmp .ne 10, 3) := by decide +kernel
theorem dX9_act_47 : decode cX9_act 47 = .ok (.iload 5, 2) := by decide +kernel
theorem dX9_act_49 : decode cX9_act 49 = .ok (.iconst 1, 1) := by decide +kernel
theorem dX9_act_50 : decode cX9_act 50 = .ok (.isub, 1) := by decide +kernel
theorem dX9_act_51 : decode cX9_act 51 = .ok (.goto 5, 3) := by decide +kernel
theorem dX9_act_54 : decode cX9_act 54 = .ok (.iload 5, 2) := by decide +kernel
theorem dX9_act_56 : decode cX9_act 56 = .ok (.invokevirtual 384, 3) := by decide +kernel
theorem dX9_act_59 : decode cX9_act 59 = .ok (.ireturn, 1) := by decide +kernel
theorem dX9_act_60 : decode cX9_act 60 = .ok (.aload_n 0, 1) := by decide +kernel
theorem dX9_act_61 : decode cX9_act 61 = .ok (.iload 6, 2) := by decide +kernel
theorem dX9_act_63 : decode cX9_act 63 = .ok (.i2l, 1) := by decide +kernel
theorem dX9_act_64 : decode cX9_act 64 = .ok (.invokevirtual 253, 3) := by decide +kernel
theorem dX9_act_67 : decode cX9_act 67 = .ok (.ifCond .eq 37, 3) := by decide +kernel
theorem dX9_act_70 : decode cX9_act 70 = .ok (.aload_n 0, 1) := by decide +kernel
theorem dX9_act_71 : decode cX9_act 71 = .ok (.iload_n 1, 1) := by decide +kernel
theorem dX9_act_72 : decode cX9_act 72 = .ok (.iload_n 2, 1) := by decide +kernel
theorem dX9_act_73 : decode cX9_act 73 = .ok (.iload_n 3, 1) := by decide +kernel
theorem dX9_act_74 : decode cX9_act 74 = .ok (.iload 6, 2) := by decide +kernel
theorem dX9_act_76 : decode cX9_act 76 = .ok (.invokevirtual 387, 3) := by decide +kernel
theorem dX9_act_79 : decode cX9_act 79 = .ok (.ifCond .eq 25, 3) := by decide +kernel
theorem dX9_act_82 : decode cX9_act 82 = .ok (.aload_n 0, 1) := by decide +kernel
theorem dX9_act_83 : decode cX9_act 83 = .ok (.iload_n 1, 1) := by decide +kernel
theorem dX9_act_84 : decode cX9_act 84 = .ok (.iconst 1, 1) := by decide +kernel
theorem dX9_act_85 : decode cX9_act 85 = .ok (.iload 6, 2) := by decide +kernel
theorem dX9_act_87 : decode cX9_act 87 = .ok (.ishl, 1) := by decide +kernel
theorem dX9_act_88 : decode cX9_act 88 = .ok (.ior, 1) := by decide +kernel
theorem dX9_act_89 : decode cX9_act 89 = .ok (.iload 6, 2) := by decide +kernel
theorem dX9_act_91 : decode cX9_act 91 = .ok (.iconst 1, 1) := by decide +kernel
theorem dX9_act_92 : decode cX9_act 92 = .ok (.iload_n 3, 1) := by decide +kernel
theorem dX9_act_93 : decode cX9_act 93 = .ok (.isub, 1) := by decide +kernel
theorem dX9_act_94 : decode cX9_act 94 = .ok (.iload 4, 2) := by decide +kernel
theorem dX9_act_96 : decode cX9_act 96 = .ok (.iload 5, 2) := by decide +kernel
theorem dX9_act_98 : decode cX9_act 98 = .ok (.invokevirtual 384, 3) := by decide +kernel
theorem dX9_act_101 : decode cX9_act 101 = .ok (.goto 4, 3) := by decide +kernel
theorem dX9_act_104 : decode cX9_act 104 = .ok (.iconst 0, 1) := by decide +kernel
theorem dX9_act_105 : decode cX9_act 105 = .ok (.ireturn, 1) := by decide +kernel
set_option maxHeartbeats 4000000 in
set_option maxRecDepth 100000 in
theorem s_X9_act (l : Launch) (D : va_G) (K : Nat → ClassId) (ad : Nat → Nat) (k : Nat) (hpl : ∀ k1 : Nat, k = k1 + 1 → ∀ (v ar : sI) (al : sL) (hI : YI v ar) (z_1 : Int) (hz_1 : 0 ≤ z_1 ∧ z_1 ≤ 511) (z_2 : Int) (hz_2 : -1 ≤ z_2 ∧ z_2 ≤ 8) (z_3 : Int) (hz_3 : 0 ≤ z_3 ∧ z_3 ≤ 1) (z_4 : Int) (hz_4 : 0 ≤ z_4 ∧ z_4 ≤ 3) (z_5 : Int) (hz_5 : 0 ≤ z_5 ∧ z_5 ≤ 3) (hm : 9 - pc z_1 + z_4 + z_5 ≤ (k1 : Int)), Met l yX9_plays (wM yX9_plays cX9_plays 12 (some .int)) (rmD (4 + 2 * k1)) (va_Pc [.ref (ad 0), .int (iI (z_1)), .int (iI (z_2)), .int (iI (z_3)), .int (iI (z_4)), .int (iI (z_5))] (wPre D K ad (yG ad K) 21 v ar al)) (va_Qi (fun (r : Int32) (u : sT) => (∃ z : Int, (-2147483648 ≤ z ∧ z ≤ 2147483647) ∧ r = iI z) ∧ YI u.1 u.2.1 ∧ (∀ i j : Nat, (i, j) ∉ ([] : List (Nat × Nat)) → u.1 i j = v i j) ∧ (∀ i : Nat, i ∉ ([18] : List Nat) → u.2.1 i = ar i) ∧ (∀ i : Nat, i ∉ ([] : List Nat) → u.2.2 i = al i)) (wB D ad (yG ad K) 21) (inW ad 21)) 0 0 (inW ad 21)) (v ar : sI) (al : sL) (hI : YI v ar) (z_1 : Int) (hz_1 : 0 ≤ z_1 ∧ z_1 ≤ 511) (z_2 : Int) (hz_2 : -1 ≤ z_2 ∧ z_2 ≤ 8) (z_3 : Int) (hz_3 : 0 ≤ z_3 ∧ z_3 ≤ 1) (z_4 : Int) (hz_4 : 0 ≤ z_4 ∧ z_4 ≤ 3) (z_5 : Int) (hz_5 : 0 ≤ z_5 ∧ z_5 ≤ 3) (z_6 : Int) (hz_6 : 0 ≤ z_6 ∧ z_6 ≤ 9) (hm : 9 - pc z_1 + z_4 + z_5 ≤ (k : Int)) : Met l yX9_act (wM yX9_act cX9_act 7 (some .int)) (rmD (3 + 2 * k)) (va_Pc [.ref (ad 0), .int (iI (z_1)), .int (iI (z_2)), .int (iI (z_3)), .int (iI (z_4)), .int (iI (z_5)), .int (iI (z_6))] (wPre D K ad (yG ad K) 21 v ar al)) (va_Qi (fun (r : Int32) (u : sT) => (∃ z : Int, (-2147483648 ≤ z ∧ z ≤ 2147483647) ∧ r = iI z) ∧ YI u.1 u.2.1 ∧ (∀ i j : Nat, (i, j) ∉ ([] : List (Nat × Nat)) → u.1 i j = v i j) ∧ (∀ i : Nat, i ∉ ([18] : List Nat) → u.2.1 i = ar i) ∧ (∀ i : Nat, i ∉ ([] : List Nat) → u.2.2 i = al i)) (wB D ad (yG ad K) 21) (inW ad 21)) 0 0 (inW ad 21) := by
  refine s_metI (by decide) (Nat.le_of_ble_eq_true rfl) ?_
  intro p e s m below meth c ls args Q hE hB hl kr
  have hE : CallFix p m c cX9_act 7 s args tbG "TaleCourtModel" := hE
  obtain ⟨hP, hK, hN⟩ := hB
  have hS : va_S (inW ad 21) s.heap s.heap [] := va_S.rf
  have hl : lv_has ls 7 [(0, .ref (ad 0)), (1, .int (iI (z_1))), (2, .int (iI (z_2))), (3, .int (iI (z_3))), (4, .int (iI (z_4))), (5, .int (iI (z_5))), (6, .int (iI (z_6)))] := hl
  have hpl0 := pc_le z_1
  refine lv_iload hE.1 hE.2.1 dX9_act_0 (lv_at hl 6 rfl) ?_
  refine lv_bipush (v := iI (9)) hE.1 hE.2.1 dX9_act_2 (by decide) ?_
  refine s_icmp_ne (a := z_6) (b := 9) (tgt := 60) hE.1 hE.2.1 (by omega) (by omega) dX9_act_4 (by decide) (fun c1 => ?_) (fun c1 => ?_)
  · skip
    refine lv_aload_n hE.1 hE.2.1 dX9_act_60 rfl (lv_at hl 0 rfl) ?_
    refine lv_iload hE.1 hE.2.1 dX9_act_61 (lv_at hl 6 rfl) ?_
    refine lv_i2l (v := lI (z_6)) hE.1 hE.2.1 dX9_act_63 (iI_i2l (by omega)) ?_
    obtain ⟨z2, hz2, ez2⟩ := YI_h2 hI 2 (by decide)
    refine x_vp (nn := 1) (As := [.long (lI (z_6))]) (rest := []) hE (s_X9_isMotif l D K ad v ar al hI (z2) (by omega) ez2 (z_6) (by omega)) wPre_blind (wPre_now hK hN hP) (x_recv hK hP 0 (by decide) (yG_9 rfl) rfl) rfl mw_1662 mw_1664 mw_74 mw_123 mw_1665 (by decide +kernel) ⟨by simp only [rmD]; omega, by simp only [rmD]; omega⟩ hl.1 rfl (Nat.le_of_ble_eq_true rfl) ⟨Nat.zero_le _, Nat.zero_le _⟩ dX9_act_64 (fun r3 hr3 => ?_)
    obtain ⟨z3, hz3, rfl⟩ := hr3
    refine s_if_eq (a := z3) (tgt := 104) hE.1 hE.2.1 (by omega) dX9_act_67 (by decide) (fun c4 => ?_) (fun c4 => ?_)
    · skip
      refine lv_iconst (v := iI (0)) hE.1 hE.2.1 dX9_act_104 (by decide) ?_
      exact kr _ v ar al _ _ _ _ rfl ⟨⟨0, by omega, rfl⟩, hI, fun i j h => rfl, fun i h => rfl, fun i h => rfl⟩ hP hS dX9_act_105
    · skip
      refine lv_aload_n hE.1 hE.2.1 dX9_act_70 rfl (lv_at hl 0 rfl) ?_
      refine lv_iload_n hE.1 hE.2.1 dX9_act_71 rfl (lv_at hl 1 rfl) ?_
      refine lv_iload_n hE.1 hE.2.1 dX9_act_72 rfl (lv_at hl 2 rfl) ?_
      refine lv_iload_n hE.1 hE.2.1 dX9_act_73 rfl (lv_at hl 3 rfl) ?_
      refine lv_iload hE.1 hE.2.1 dX9_act_74 (lv_at hl 6 rfl) ?_
      refine x_vp (nn := 4) (As := [.int (iI (z_1)), .int (iI (z_2)), .int (iI (z_3)), .int (iI (z_6))]) (rest := []) hE (s_X9_mayPlay_e l D K ad v ar al hI  (z_1) (by omega) (z_2) (by omega) (z_3) (by omega) (z_6) (by omega)) wPre_blind (wPre_now hK hN hP) (x_recv hK hP 0 (by decide) (yG_9 rfl) rfl) rfl mw_1903 mw_1905 mw_100 mw_123 mw_1906 (by decide +kernel) ⟨by simp only [rmD]; omega, by simp only [rmD]; omega⟩ hl.1 rfl (Nat.le_of_ble_eq_true rfl) ⟨Nat.zero_le _, Nat.zero_le _⟩ dX9_act_76 (fun r5 hr5 => ?_)
      obtain ⟨z5, hz5, rfl⟩ := hr5
      refine s_if_eq (a := z5) (tgt := 104) hE.1 hE.2.1 (by omega) dX9_act_79 (by decide) (fun c6 => ?_) (fun c6 => ?_)
      · skip
        refine lv_iconst (v := iI (0)) hE.1 hE.2.1 dX9_act_104 (by decide) ?_
        exact kr _ v ar al _ _ _ _ rfl ⟨⟨0, by omega, rfl⟩, hI, fun i j h => rfl, fun i h => rfl, fun i h => rfl⟩ hP hS dX9_act_105
      · skip
        refine lv_aload_n hE.1 hE.2.1 dX9_act_82 rfl (lv_at hl 0 rfl) ?_
        refine lv_iload_n hE.1 hE.2.1 dX9_act_83 rfl (lv_at hl 1 rfl) ?_
        refine lv_iconst (v := iI (1)) hE.1 hE.2.1 dX9_act_84 (by decide) ?_
        refine lv_iload hE.1 hE.2.1 dX9_act_85 (lv_at hl 6 rfl) ?_
        refine lv_ishl hE.1 hE.2.1 dX9_act_87 ?_
        obtain ⟨z7, hz7, ez7⟩ := iI_shl8 (a := z_6) (by omega)
        refine x_top ez7 ?_
        refine lv_ior hE.1 hE.2.1 dX9_act_88 ?_
        obtain ⟨z8, hz8, ez8⟩ := sb_of (a := z_1) (m := z_6) (by omega) (by omega) ez7
        refine x_top ez8 ?_
        refine lv_iload hE.1 hE.2.1 dX9_act_89 (lv_at hl 6 rfl) ?_
        refine lv_iconst (v := iI (1)) hE.1 hE.2.1 dX9_act_91 (by decide) ?_
        refine lv_iload_n hE.1 hE.2.1 dX9_act_92 rfl (lv_at hl 3 rfl) ?_
        refine lv_isub hE.1 hE.2.1 dX9_act_93 ?_
        refine x_top (y := iI (-z_3 + 1)) ((iI_sub (1) (z_3)).trans (congrArg iI (by omega))) ?_
        refine lv_iload hE.1 hE.2.1 dX9_act_94 (lv_at hl 4 rfl) ?_
        refine lv_iload hE.1 hE.2.1 dX9_act_96 (lv_at hl 5 rfl) ?_
        have hpc := sb_new (a := z_1) (m := z_6) (by omega) (by omega) (by omega)
        have hpx : pc (z8) = pc (sb (z_1) (z_6)) := by rw [show z8 = sb (z_1) (z_6) by omega]
        obtain ⟨k9, hk9⟩ : ∃ k1 : Nat, k = k1 + 1 := ⟨k - 1, by omega⟩
        refine x_vi (nn := 5) (As := [.int (iI (z8)), .int (iI (z_6)), .int (iI (-z_3 + 1)), .int (iI (z_4)), .int (iI (z_5))]) (rest := []) hE hK hN hP hS (hpl k9 hk9 v ar al hI  (z8) (by omega) (z_6) (by omega) (-z_3 + 1) (by omega) (z_4) (by omega) (z_5) (by omega) (by omega)) (x_recv hK hP 0 (by decide) (yG_9 rfl) rfl) rfl mw_1891 mw_1893 mw_97 mw_123 mw_1894 (by decide +kernel) ⟨by simp only [rmD]; omega, by simp only [rmD]; omega⟩ hl.1 rfl (Nat.le_of_ble_eq_true rfl) ⟨Nat.zero_le _, Nat.zero_le _⟩ dX9_act_98 (fun r10 v10 ar10 al10 H locs hq10 hP hS => ?_)
        obtain ⟨⟨z10, hz10, rfl⟩, hI, hq10, hqa10, hql10⟩ := hq10
        have hI : YI v10 ar10 := hI
        refine lv_goto (tgt := 105) hE.1 hE.2.1 dX9_act_101 (by decide) ?_
        exact kr _ v10 ar10 al10 _ _ _ _ rfl ⟨⟨z10, by omega, rfl⟩, hI, fun i j h => (hq10 i j (fun q => h (mem_sub (by decide) q))), fun i h => (hqa10 i (fun q => h (mem_subn (by decide) q))), fun i h => (hql10 i (fun q => h (mem_subn (by decide) q)))⟩ hP hS dX9_act_105
  · skip
    refine lv_iload_n hE.1 hE.2.1 dX9_act_7 rfl (lv_at hl 3 rfl) ?_
    refine s_if_ne (a := z_3) (tgt := 16) hE.1 hE.2.1 (by omega) dX9_act_8 (by decide) (fun c11 => ?_) (fun c11 => ?_)
    · skip
      refine lv_iload hE.1 hE.2.1 dX9_act_16 (lv_at hl 5 rfl) ?_
      refine s_if_ne (a := z_5) (tgt := 23) hE.1 hE.2.1 (by omega) dX9_act_18 (by decide) (fun c12 => ?_) (fun c12 => ?_)
      · skip
        refine lv_aload_n hE.1 hE.2.1 dX9_act_23 rfl (lv_at hl 0 rfl) ?_
        refine lv_iload_n hE.1 hE.2.1 dX9_act_24 rfl (lv_at hl 1 rfl) ?_
        refine lv_iload_n hE.1 hE.2.1 dX9_act_25 rfl (lv_at hl 2 rfl) ?_
        refine lv_iconst (v := iI (1)) hE.1 hE.2.1 dX9_act_26 (by decide) ?_
        refine lv_iload_n hE.1 hE.2.1 dX9_act_27 rfl (lv_at hl 3 rfl) ?_
        refine lv_isub hE.1 hE.2.1 dX9_act_28 ?_
        refine x_top (y := iI (-z_3 + 1)) ((iI_sub (1) (z_3)).trans (congrArg iI (by omega))) ?_
        refine lv_iload_n hE.1 hE.2.1 dX9_act_29 rfl (lv_at hl 3 rfl) ?_
        refine s_if_ne (a := z_3) (tgt := 40) hE.1 hE.2.1 (by omega) dX9_act_30 (by decide) (fun _ => ?_) (fun c13 => False.elim (by omega))
        refine lv_iload hE.1 hE.2.1 dX9_act_40 (lv_at hl 4 rfl) ?_
        refine lv_iload_n hE.1 hE.2.1 dX9_act_42 rfl (lv_at hl 3 rfl) ?_
        refine lv_iconst (v := iI (1)) hE.1 hE.2.1 dX9_act_43 (by decide) ?_
        refine s_icmp_ne (a := z_3) (b := 1) (tgt := 54) hE.1 hE.2.1 (by omega) (by omega) dX9_act_44 (by decide) (fun c14 => False.elim (by omega)) (fun _ => ?_)
        refine lv_iload hE.1 hE.2.1 dX9_act_47 (lv_at hl 5 rfl) ?_
        refine lv_iconst (v := iI (1)) hE.1 hE.2.1 dX9_act_49 (by decide) ?_
        refine lv_isub hE.1 hE.2.1 dX9_act_50 ?_
        refine x_top (y := iI (z_5 - 1)) ((iI_sub (z_5) (1)).trans (congrArg iI (by omega))) ?_
        refine lv_goto (tgt := 56) hE.1 hE.2.1 dX9_act_51 (by decide) ?_
        obtain ⟨k15, hk15⟩ : ∃ k1 : Nat, k = k1 + 1 := ⟨k - 1, by omega⟩
        refine x_vi (nn := 5) (As := [.int (iI (z_1)), .int (iI (z_2)), .int (iI (-z_3 + 1)), .int (iI (z_4)), .int (iI (z_5 - 1))]) (rest := []) hE hK hN hP hS (hpl k15 hk15 v ar al hI  (z_1) (by omega) (z_2) (by omega) (-z_3 + 1) (by omega) (z_4) (by omega) (z_5 - 1) (by omega) (by omega)) (x_recv hK hP 0 (by decide) (yG_9 rfl) rfl) rfl mw_1891 mw_1893 mw_97 mw_123 mw_1894 (by decide +kernel) ⟨by simp only [rmD]; omega, by simp only [rmD]; omega⟩ hl.1 rfl (Nat.le_of_ble_eq_true rfl) ⟨Nat.zero_le _, Nat.zero_le _⟩ dX9_act_56 (fun r16 v16 ar16 al16 H locs hq16 hP hS => ?_)
        obtain ⟨⟨z16, hz16, rfl⟩, hI, hq16, hqa16, hql16⟩ := hq16
        have hI : YI v16 ar16 := hI
        exact kr _ v16 ar16 al16 _ _ _ _ rfl ⟨⟨z16, by omega, rfl⟩, hI, fun i j h => (hq16 i j (fun q => h (mem_sub (by decide) q))), fun i h => (hqa16 i (fun q => h (mem_subn (by decide) q))), fun i h => (hql16 i (fun q => h (mem_subn (by decide) q)))⟩ hP hS dX9_act_59
      · skip
        refine lv_iconst (v := iI (0)) hE.1 hE.2.1 dX9_act_21 (by decide) ?_
        exact kr _ v ar al _ _ _ _ rfl ⟨⟨0, by omega, rfl⟩, hI, fun i j h => rfl, fun i h => rfl, fun i h => rfl⟩ hP hS dX9_act_22
    · skip
      refine lv_iload hE.1 hE.2.1 dX9_act_11 (lv_at hl 4 rfl) ?_
      refine lv_goto (tgt := 18) hE.1 hE.2.1 dX9_act_13 (by decide) ?_
      refine s_if_ne (a := z_4) (tgt := 23) hE.1 hE.2.1 (by omega) dX9_act_18 (by decide) (fun c17 => ?_) (fun c17 => ?_)
      · skip
        refine lv_aload_n hE.1 hE.2.1 dX9_act_23 rfl (lv_at hl 0 rfl) ?_
        refine lv_iload_n hE.1 hE.2.1 dX9_act_24 rfl (lv_at hl 1 rfl) ?_
        refine lv_iload_n hE.1 hE.2.1 dX9_act_25 rfl (lv_at hl 2 rfl) ?_
        refine lv_iconst (v := iI (1)) hE.1 hE.2.1 dX9_act_26 (by decide) ?_
        refine lv_iload_n hE.1 hE.2.1 dX9_act_27 rfl (lv_at hl 3 rfl) ?_
        refine lv_isub hE.1 hE.2.1 dX9_act_28 ?_
        refine x_top (y := iI (-z_3 + 1)) ((iI_sub (1) (z_3)).trans (congrArg iI (by omega))) ?_
        refine lv_iload_n hE.1 hE.2.1 dX9_act_29 rfl (lv_at hl 3 rfl) ?_
        refine s_if_ne (a := z_3) (tgt := 40) hE.1 hE.2.1 (by omega) dX9_act_30 (by decide) (fun c18 => False.elim (by omega)) (fun _ => ?_)
        refine lv_iload hE.1 hE.2.1 dX9_act_33 (lv_at hl 4 rfl) ?_
        refine lv_iconst (v := iI (1)) hE.1 hE.2.1 dX9_act_35 (by decide) ?_
        refine lv_isub hE.1 hE.2.1 dX9_act_36 ?_
        refine x_top (y := iI (z_4 - 1)) ((iI_sub (z_4) (1)).trans (congrArg iI (by omega))) ?_
        refine lv_goto (tgt := 42) hE.1 hE.2.1 dX9_act_37 (by decide) ?_
        refine lv_iload_n hE.1 hE.2.1 dX9_act_42 rfl (lv_at hl 3 rfl) ?_
        refine lv_iconst (v := iI (1)) hE.1 hE.2.1 dX9_act_43 (by decide) ?_
        refine s_icmp_ne (a := z_3) (b := 1) (tgt := 54) hE.1 hE.2.1 (by omega) (by omega) dX9_act_44 (by decide) (fun _ => ?_) (fun c19 => False.elim (by omega))
        refine lv_iload hE.1 hE.2.1 dX9_act_54 (lv_at hl 5 rfl) ?_
        obtain ⟨k20, hk20⟩ : ∃ k1 : Nat, k = k1 + 1 := ⟨k - 1, by omega⟩
        refine x_vi (nn := 5) (As := [.int (iI (z_1)), .int (iI (z_2)), .int (iI (-z_3 + 1)), .int (iI (z_4 - 1)), .int (iI (z_5))]) (rest := []) hE hK hN hP hS (hpl k20 hk20 v ar al hI  (z_1) (by omega) (z_2) (by omega) (-z_3 + 1) (by omega) (z_4 - 1) (by omega) (z_5) (by omega) (by omega)) (x_recv hK hP 0 (by decide) (yG_9 rfl) rfl) rfl mw_1891 mw_1893 mw_97 mw_123 mw_1894 (by decide +kernel) ⟨by simp only [rmD]; omega, by simp only [rmD]; omega⟩ hl.1 rfl (Nat.le_of_ble_eq_true rfl) ⟨Nat.zero_le _, Nat.zero_le _⟩ dX9_act_56 (fun r21 v21 ar21 al21 H locs hq21 hP hS => ?_)
        obtain ⟨⟨z21, hz21, rfl⟩, hI, hq21, hqa21, hql21⟩ := hq21
        have hI : YI v21 ar21 := hI
        exact kr _ v21 ar21 al21 _ _ _ _ rfl ⟨⟨z21, by omega, rfl⟩, hI, fun i j h => (hq21 i j (fun q => h (mem_sub (by decide) q))), fun i h => (hqa21 i (fun q => h (mem_subn (by decide) q))), fun i h => (hql21 i (fun q => h (mem_subn (by decide) q)))⟩ hP hS dX9_act_59
      · skip
        refine lv_iconst (v := iI (0)) hE.1 hE.2.1 dX9_act_21 (by decide) ?_
        exact kr _ v ar al _ _ _ _ rfl ⟨⟨0, by omega, rfl⟩, hI, fun i j h => rfl, fun i h => rfl, fun i h => rfl⟩ hP hS dX9_act_22

theorem dX9_stateOf_0 : decode cX9_stateOf 0 = .ok (.iload_n 1, 1) := by decide +kernel
theorem dX9_stateOf_1 : decode cX9_stateOf 1 = .ok (.bipush 10, 2) := by decide +kernel
theorem dX9_stateOf_3 : decode cX9_stateOf 3 = .ok (.imul, 1) := by decide +kernel
theorem dX9_stateOf_4 : decode cX9_stateOf 4 = .ok (.iload_n 2, 1) := by decide +kernel
theorem dX9_stateOf_5 : decode cX9_stateOf 5 = .ok (.iadd, 1) := by decide +kernel
theorem dX9_stateOf_6 : decode cX9_stateOf 6 = .ok (.iconst 1, 1) := by decide +kernel
theorem dX9_stateOf_7 : decode cX9_stateOf 7 = .ok (.iadd, 1) := by decide +kernel
theorem dX9_stateOf_8 : decode cX9_stateOf 8 = .ok (.iconst 2, 1) := by decide +kernel
theorem dX9_stateOf_9 : decode cX9_stateOf 9 = .ok (.imul, 1) := by decide +kernel
theorem dX9_stateOf_10 : decode cX9_stateOf 10 = .ok (.iload_n 3, 1) := by decide +kernel
theorem dX9_stateOf_11 : decode cX9_stateOf 11 = .ok (.iadd, 1) := by decide +kernel
theorem dX9_stateOf_12 : decode cX9_stateOf 12 = .ok (.iconst 4, 1) := by decide +kernel
theorem dX9_stateOf_13 : decode cX9_stateOf 13 = .ok (.imul, 1) := by decide +kernel
theorem dX9_stateOf_14 : decode cX9_stateOf 14 = .ok (.iload 4, 2) := by decide +kernel
theorem dX9_stateOf_16 : decode cX9_stateOf 16 = .ok (.iadd, 1) := by decide +kernel
theorem dX9_stateOf_17 : decode cX9_stateOf 17 = .ok (.iconst 4, 1) := by decide +kernel
theorem dX9_stateOf_18 : decode cX9_stateOf 18 = .ok (.imul, 1) := by decide +kernel
theorem dX9_stateOf_19 : decode cX9_stateOf 19 = .ok (.iload 5, 2) := by decide +kernel
theorem dX9_stateOf_21 : decode cX9_stateOf 21 = .ok (.iadd, 1) := by decide +kernel
theorem dX9_stateOf_22 : decode cX9_stateOf 22 = .ok (.ireturn, 1) := by decide +kernel
set_option maxHeartbeats 4000000 in
set_option maxRecDepth 100000 in
theorem s_X9_stateOf_e (l : Launch) (D : va_G) (K : Nat → ClassId) (ad : Nat → Nat) (v ar : sI) (al : sL) (hI : YI v ar) (z_1 : Int) (hz_1 : 0 ≤ z_1 ∧ z_1 ≤ 511) (z_2 : Int) (hz_2 : -1 ≤ z_2 ∧ z_2 ≤ 8) (z_3 : Int) (hz_3 : 0 ≤ z_3 ∧ z_3 ≤ 1) (z_4 : Int) (hz_4 : 0 ≤ z_4 ∧ z_4 ≤ 3) (z_5 : Int) (hz_5 : 0 ≤ z_5 ∧ z_5 ≤ 3) : Met l yX9_stateOf (wM yX9_stateOf cX9_stateOf 6 (some .int)) (rmD 0) (va_Pc [.ref (ad 0), .int (iI (z_1)), .int (iI (z_2)), .int (iI (z_3)), .int (iI (z_4)), .int (iI (z_5))] (wPre D K ad (yG ad K) 21 v ar al)) (vp_Si (fun r => ∃ z : Int, (z = 320 * z_1 + 32 * z_2 + 32 + 16 * z_3 + 4 * z_4 + z_5) ∧ r = iI z)) 0 0 (fun _ => False) := by
  refine s_metP (by decide) (Nat.le_of_ble_eq_true rfl) ?_
  intro p e s m below meth c ls args Q hE hB hl kr
  have hE : CallFix p m c cX9_stateOf 6 s args tbG "TaleCourtModel" := hE
  obtain ⟨hP, hK, hN⟩ := hB
  have hl : lv_has ls 6 [(0, .ref (ad 0)), (1, .int (iI (z_1))), (2, .int (iI (z_2))), (3, .int (iI (z_3))), (4, .int (iI (z_4))), (5, .int (iI (z_5)))] := hl
  refine lv_iload_n hE.1 hE.2.1 dX9_stateOf_0 rfl (lv_at hl 1 rfl) ?_
  refine lv_bipush (v := iI (10)) hE.1 hE.2.1 dX9_stateOf_1 (by decide) ?_
  refine lv_imul hE.1 hE.2.1 dX9_stateOf_3 ?_
  refine x_top (y := iI (10 * z_1)) ((iI_mul (z_1) (10)).trans (congrArg iI (by omega))) ?_
  refine lv_iload_n hE.1 hE.2.1 dX9_stateOf_4 rfl (lv_at hl 2 rfl) ?_
  refine lv_iadd hE.1 hE.2.1 dX9_stateOf_5 ?_
  refine x_top (y := iI (10 * z_1 + z_2)) ((iI_add (10 * z_1) (z_2)).trans (congrArg iI (by omega))) ?_
  refine lv_iconst (v := iI (1)) hE.1 hE.2.1 dX9_stateOf_6 (by decide) ?_
  refine lv_iadd hE.1 hE.2.1 dX9_stateOf_7 ?_
  refine x_top (y := iI (10 * z_1 + z_2 + 1)) ((iI_add (10 * z_1 + z_2) (1)).trans (congrArg iI (by omega))) ?_
  refine lv_iconst (v := iI (2)) hE.1 hE.2.1 dX9_stateOf_8 (by decide) ?_
  refine lv_imul hE.1 hE.2.1 dX9_stateOf_9 ?_
  refine x_top (y := iI (20 * z_1 + 2 * z_2 + 2)) ((iI_mul (10 * z_1 + z_2 + 1) (2)).trans (congrArg iI (by omega))) ?_
  refine lv_iload_n hE.1 hE.2.1 dX9_stateOf_10 rfl (lv_at hl 3 rfl) ?_
  refine lv_iadd hE.1 hE.2.1 dX9_stateOf_11 ?_
  refine x_top (y := iI (20 * z_1 + 2 * z_2 + z_3 + 2)) ((iI_add (20 * z_1 + 2 * z_2 + 2) (z_3)).trans (congrArg iI (by omega))) ?_
  refine lv_iconst (v := iI (4)) hE.1 hE.2.1 dX9_stateOf_12 (by decide) ?_
  refine lv_imul hE.1 hE.2.1 dX9_stateOf_13 ?_
  refine x_top (y := iI (80 * z_1 + 8 * z_2 + 4 * z_3 + 8)) ((iI_mul (20 * z_1 + 2 * z_2 + z_3 + 2) (4)).trans (congrArg iI (by omega))) ?_
  refine lv_iload hE.1 hE.2.1 dX9_stateOf_14 (lv_at hl 4 rfl) ?_
  refine lv_iadd hE.1 hE.2.1 dX9_stateOf_16 ?_
  refine x_top (y := iI (80 * z_1 + 8 * z_2 + 4 * z_3 + z_4 + 8)) ((iI_add (80 * z_1 + 8 * z_2 + 4 * z_3 + 8) (z_4)).trans (congrArg iI (by omega))) ?_
  refine lv_iconst (v := iI (4)) hE.1 hE.2.1 dX9_stateOf_17 (by decide) ?_
  refine lv_imul hE.1 hE.2.1 dX9_stateOf_18 ?_
  refine x_top (y := iI (320 * z_1 + 32 * z_2 + 16 * z_3 + 4 * z_4 + 32)) ((iI_mul (80 * z_1 + 8 * z_2 + 4 * z_3 + z_4 + 8) (4)).trans (congrArg iI (by omega))) ?_
  refine lv_iload hE.1 hE.2.1 dX9_stateOf_19 (lv_at hl 5 rfl) ?_
  refine lv_iadd hE.1 hE.2.1 dX9_stateOf_21 ?_
  refine x_top (y := iI (320 * z_1 + 32 * z_2 + 16 * z_3 + 4 * z_4 + z_5 + 32)) ((iI_add (320 * z_1 + 32 * z_2 + 16 * z_3 + 4 * z_4 + 32) (z_5)).trans (congrArg iI (by omega))) ?_
  exact kr _ _ _ rfl ⟨320 * z_1 + 32 * z_2 + 16 * z_3 + 4 * z_4 + z_5 + 32, by omega, rfl⟩ dX9_stateOf_22

theorem dX9_isBetter_0 : decode cX9_isBetter 0 = .ok (.iload_n 0, 1) := by decide +kernel
theorem dX9_isBetter_1 : decode cX9_isBetter 1 = .ok (.bipush 100, 2) := by decide +kernel
theorem dX9_isBetter_3 : decode cX9_isBetter 3 = .ok (.if_icmp .le 7, 3) := by decide +kernel
theorem dX9_isBetter_6 : decode cX9_isBetter 6 = .ok (.iconst 1, 1) := by decide +kernel
theorem dX9_isBetter_7 : decode cX9_isBetter 7 = .ok (.goto 4, 3) := by decide +kernel
theorem dX9_isBetter_10 : decode cX9_isBetter 10 = .ok (.iconst 0, 1) := by decide +kernel
theorem dX9_isBetter_11 : decode cX9_isBetter 11 = .ok (.iload_n 1, 1) := by decide +kernel
theorem dX9_isBetter_12 : decode cX9_isBetter 12 = .ok (.bipush 100, 2) := by decide +kernel
theorem dX9_isBetter_14 : decode cX9_isBetter 14 = .ok (.if_icmp .le 7, 3) := by decide +kernel
theorem dX9_isBetter_17 : decode cX9_isBetter 17 = .ok (.iconst 1, 1) := by decide +kernel
theorem dX9_isBetter_18 : decode cX9_isBetter 18 = .ok (.goto 4, 3) := by decide +kernel
theorem dX9_isBetter_21 : decode cX9_isBetter 21 = .ok (.iconst 0, 1) := by decide +kernel
theorem dX9_isBetter_22 : decode cX9_isBetter 22 = .ok (.if_icmp .eq 15, 3) := by decide +kernel
theorem dX9_isBetter_25 : decode cX9_isBetter 25 = .ok (.iload_n 0, 1) := by decide +kernel
theorem dX9_isBetter_26 : decode cX9_isBetter 26 = .ok (.bipush 100, 2) := by decide +kernel
theorem dX9_isBetter_28 : decode cX9_isBetter 28 = .ok (.if_icmp .le 7, 3) := by decide +kernel
theorem dX9_isBetter_31 : decode cX9_isBetter 31 = .ok (.iconst 1, 1) := by decide +kernel
theorem dX9_isBetter_32 : decode cX9_isBetter 32 = .ok (.goto 4, 3) := by decide +kernel
theorem dX9_isBetter_35 : decode cX9_isBetter 35 = .ok (.iconst 0, 1) := by decide +kernel
theorem dX9_isBetter_36 : decode cX9_isBetter 36 = .ok (.ireturn, 1) := by decide +kernel
theorem dX9_isBetter_37 : decode cX9_isBetter 37 = .ok (.iload_n 0, 1) := by decide +kernel
theorem dX9_isBetter_38 : decode cX9_isBetter 38 = .ok (.bipush 100, 2) := by decide +kernel
theorem dX9_isBetter_40 : decode cX9_isBetter 40 = .ok (.if_icmp .le 16, 3) := by decide +kernel
theorem dX9_isBetter_43 : decode cX9_isBetter 43 = .ok (.iload_n 0, 1) := by decide +kernel
theorem dX9_isBetter_44 : decode cX9_isBetter 44 = .ok (.iload_n 1, 1) := by decide +kernel
theorem dX9_isBetter_45 : decode cX9_isBetter 45 = .ok (.if_icmp .ge 7, 3) := by decide +kernel
theorem dX9_isBetter_48 : decode cX9_isBetter 48 = .ok (.iconst 1, 1) := by decide +kernel
theorem dX9_isBetter_49 : decode cX9_isBetter 49 = .ok (.goto 17, 3) := by decide +kernel
theorem dX9_isBetter_52 : decode cX9_isBetter 52 = .ok (.iconst 0, 1) := by decide +kernel
theorem dX9_isBetter_53 : decode cX9_isBetter 53 = .ok (.goto 13, 3) := by decide +kernel
theorem dX9_isBetter_56 : decode cX9_isBetter 56 = .ok (.iload_n 0, 1) := by decide +kernel
theorem dX9_isBetter_57 : decode cX9_isBetter 57 = .ok (.iload_n 1, 1) := by decide +kernel
theorem dX9_isBetter_58 : decode cX9_isBetter 58 = .ok (.if_icmp .le 7, 3) := by decide +kernel
theorem dX9_isBetter_61 : decode cX9_isBetter 61 = .ok (.iconst 1, 1) := by decide +kernel
theorem dX9_isBetter_62 : decode cX9_isBetter 62 = .ok (.goto 4, 3) := by decide +kernel
theorem dX9_isBetter_65 : decode cX9_isBetter 65 = .ok (.iconst 0, 1) := by decide +kernel
theorem dX9_isBetter_66 : decode cX9_isBetter 66 = .ok (.ireturn, 1) := by decide +kernel
set_option maxHeartbeats 4000000 in
set_option maxRecDepth 100000 in
theorem s_X9_isBetter_e (l : Launch) (z_1 : Int) (hz_1 : -2147483648 ≤ z_1 ∧ z_1 ≤ 2147483647) (z_2 : Int) (hz_2 : -2147483648 ≤ z_2 ∧ z_2 ≤ 2147483647) : Met l yX9_isBetter (wM yX9_isBetter cX9_isBetter 2 (some .boolean)) (rmD 0) (va_Pc [.int (iI (z_1)), .int (iI (z_2))] (fun _ => True)) (vp_Si (fun r => ∃ z : Int, (0 ≤ z ∧ z ≤ 1) ∧ r = iI z)) 0 0 (fun _ => False) := by
  refine s_metP (by decide) (Nat.le_of_ble_eq_true rfl) ?_
  intro p e s m below meth c ls args Q hE hB hl kr
  have hE : CallFix p m c cX9_isBetter 2 s args tbG "TaleCourtModel" := hE
  have hl : lv_has ls 2 [(0, .int (iI (z_1))), (1, .int (iI (z_2)))] := hl
  refine lv_iload_n hE.1 hE.2.1 dX9_isBetter_0 rfl (lv_at hl 0 rfl) ?_
  refine lv_bipush (v := iI (100)) hE.1 hE.2.1 dX9_isBetter_1 (by decide) ?_
  refine s_icmp_le (a := z_1) (b := 100) (tgt := 10) hE.1 hE.2.1 (by omega) (by omega) dX9_isBetter_3 (by decide) (fun c1 => ?_) (fun c1 => ?_)
  · skip
    refine lv_iconst (v := iI (0)) hE.1 hE.2.1 dX9_isBetter_10 (by decide) ?_
    refine lv_iload_n hE.1 hE.2.1 dX9_isBetter_11 rfl (lv_at hl 1 rfl) ?_
    refine lv_bipush (v := iI (100)) hE.1 hE.2.1 dX9_isBetter_12 (by decide) ?_
    refine s_icmp_le (a := z_2) (b := 100) (tgt := 21) hE.1 hE.2.1 (by omega) (by omega) dX9_isBetter_14 (by decide) (fun c2 => ?_) (fun c2 => ?_)
    · skip
      refine lv_iconst (v := iI (0)) hE.1 hE.2.1 dX9_isBetter_21 (by decide) ?_
      refine s_icmp_eq (a := 0) (b := 0) (tgt := 37) hE.1 hE.2.1 (by omega) (by omega) dX9_isBetter_22 (by decide) (fun _ => ?_) (fun c3 => False.elim (by omega))
      refine lv_iload_n hE.1 hE.2.1 dX9_isBetter_37 rfl (lv_at hl 0 rfl) ?_
      refine lv_bipush (v := iI (100)) hE.1 hE.2.1 dX9_isBetter_38 (by decide) ?_
      refine s_icmp_le (a := z_1) (b := 100) (tgt := 56) hE.1 hE.2.1 (by omega) (by omega) dX9_isBetter_40 (by decide) (fun _ => ?_) (fun c4 => False.elim (by omega))
      refine lv_iload_n hE.1 hE.2.1 dX9_isBetter_56 rfl (lv_at hl 0 rfl) ?_
      refine lv_iload_n hE.1 hE.2.1 dX9_isBetter_57 rfl (lv_at hl 1 rfl) ?_
      refine s_icmp_le (a := z_1) (b := z_2) (tgt := 65) hE.1 hE.2.1 (by omega) (by omega) dX9_isBetter_58 (by decide) (fun c5 => ?_) (fun c5 => ?_)
      · skip
        refine lv_iconst (v := iI (0)) hE.1 hE.2.1 dX9_isBetter_65 (by decide) ?_
        exact kr _ _ _ (nar01 (by omega)) ⟨0, by omega, rfl⟩ dX9_isBetter_66
      · skip
        refine lv_iconst (v := iI (1)) hE.1 hE.2.1 dX9_isBetter_61 (by decide) ?_
        refine lv_goto (tgt := 66) hE.1 hE.2.1 dX9_isBetter_62 (by decide) ?_
        exact kr _ _ _ (nar01 (by omega)) ⟨1, by omega, rfl⟩ dX9_isBetter_66
    · skip
      refine lv_iconst (v := iI (1)) hE.1 hE.2.1 dX9_isBetter_17 (by decide) ?_
      refine lv_goto (tgt := 22) hE.1 hE.2.1 dX9_isBetter_18 (by decide) ?_
      refine s_icmp_eq (a := 0) (b := 1) (tgt := 37) hE.1 hE.2.1 (by omega) (by omega) dX9_isBetter_22 (by decide) (fun c6 => False.elim (by omega)) (fun _ => ?_)
      refine lv_iload_n hE.1 hE.2.1 dX9_isBetter_25 rfl (lv_at hl 0 rfl) ?_
      refine lv_bipush (v := iI (100)) hE.1 hE.2.1 dX9_isBetter_26 (by decide) ?_
      refine s_icmp_le (a := z_1) (b := 100) (tgt := 35) hE.1 hE.2.1 (by omega) (by omega) dX9_isBetter_28 (by decide) (fun _ => ?_) (fun c7 => False.elim (by omega))
      refine lv_iconst (v := iI (0)) hE.1 hE.2.1 dX9_isBetter_35 (by decide) ?_
      exact kr _ _ _ (nar01 (by omega)) ⟨0, by omega, rfl⟩ dX9_isBetter_36
  · skip
    refine lv_iconst (v := iI (1)) hE.1 hE.2.1 dX9_isBetter_6 (by decide) ?_
    refine lv_goto (tgt := 11) hE.1 hE.2.1 dX9_isBetter_7 (by decide) ?_
    refine lv_iload_n hE.1 hE.2.1 dX9_isBetter_11 rfl (lv_at hl 1 rfl) ?_
    refine lv_bipush (v := iI (100)) hE.1 hE.2.1 dX9_isBetter_12 (by decide) ?_
    refine s_icmp_le (a := z_2) (b := 100) (tgt := 21) hE.1 hE.2.1 (by omega) (by omega) dX9_isBetter_14 (by decide) (fun c8 => ?_) (fun c8 => ?_)
    · skip
      refine lv_iconst (v := iI (0)) hE.1 hE.2.1 dX9_isBetter_21 (by decide) ?_
      refine s_icmp_eq (a := 1) (b := 0) (tgt := 37) hE.1 hE.2.1 (by omega) (by omega) dX9_isBetter_22 (by decide) (fun c9 => False.elim (by omega)) (fun _ => ?_)
      refine lv_iload_n hE.1 hE.2.1 dX9_isBetter_25 rfl (lv_at hl 0 rfl) ?_
      refine lv_bipush (v := iI (100)) hE.1 hE.2.1 dX9_isBetter_26 (by decide) ?_
      refine s_icmp_le (a := z_1) (b := 100) (tgt := 35) hE.1 hE.2.1 (by omega) (by omega) dX9_isBetter_28 (by decide) (fun c10 => False.elim (by omega)) (fun _ => ?_)
      refine lv_iconst (v := iI (1)) hE.1 hE.2.1 dX9_isBetter_31 (by decide) ?_
      refine lv_goto (tgt := 36) hE.1 hE.2.1 dX9_isBetter_32 (by decide) ?_
      exact kr _ _ _ (nar01 (by omega)) ⟨1, by omega, rfl⟩ dX9_isBetter_36
    · skip
      refine lv_iconst (v := iI (1)) hE.1 hE.2.1 dX9_isBetter_17 (by decide) ?_
      refine lv_goto (tgt := 22) hE.1 hE.2.1 dX9_isBetter_18 (by decide) ?_
      refine s_icmp_eq (a := 1) (b := 1) (tgt := 37) hE.1 hE.2.1 (by omega) (by omega) dX9_isBetter_22 (by decide) (fun _ => ?_) (fun c11 => False.elim (by omega))
      refine lv_iload_n hE.1 hE.2.1 dX9_isBetter_37 rfl (lv_at hl 0 rfl) ?_
      refine lv_bipush (v := iI (100)) hE.1 hE.2.1 dX9_isBetter_38 (by decide) ?_
      refine s_icmp_le (a := z_1) (b := 100) (tgt := 56) hE.1 hE.2.1 (by omega) (by omega) dX9_isBetter_40 (by decide) (fun c12 => False.elim (by omega)) (fun _ => ?_)
      refine lv_iload_n hE.1 hE.2.1 dX9_isBetter_43 rfl (lv_at hl 0 rfl) ?_
      refine lv_iload_n hE.1 hE.2.1 dX9_isBetter_44 rfl (lv_at hl 1 rfl) ?_
      refine s_icmp_ge (a := z_1) (b := z_2) (tgt := 52) hE.1 hE.2.1 (by omega) (by omega) dX9_isBetter_45 (by decide) (fun c13 => ?_) (fun c13 => ?_)
      · skip
        refine lv_iconst (v := iI (0)) hE.1 hE.2.1 dX9_isBetter_52 (by decide) ?_
        refine lv_goto (tgt := 66) hE.1 hE.2.1 dX9_isBetter_53 (by decide) ?_
        exact kr _ _ _ (nar01 (by omega)) ⟨0, by omega, rfl⟩ dX9_isBetter_66
      · skip
        refine lv_iconst (v := iI (1)) hE.1 hE.2.1 dX9_isBetter_48 (by decide) ?_
        refine lv_goto (tgt := 66) hE.1 hE.2.1 dX9_isBetter_49 (by decide) ?_
        exact kr _ _ _ (nar01 (by omega)) ⟨1, by omega, rfl⟩ dX9_isBetter_66

theorem dX9_plays_0 : decode cX9_plays 0 = .ok (.aload_n 0, 1) := by decide +kernel
theorem dX9_plays_1 : decode cX9_plays 1 = .ok (.iload_n 1, 1) := by decide +kernel
theorem dX9_plays_2 : decode cX9_plays 2 = .ok (.iload_n 2, 1) := by decide +kernel
theorem dX9_plays_3 : decode cX9_plays 3 = .ok (.iload_n 3, 1) := by decide +kernel
theorem dX9_plays_4 : decode cX9_plays 4 = .ok (.iload 4, 2) := by decide +kernel
theorem dX9_plays_6 : decode cX9_plays 6 = .ok (.iload 5, 2) := by decide +kernel
theorem dX9_plays_8 : decode cX9_plays 8 = .ok (.invokevirtual 373, 3) := by decide +kernel
theorem dX9_plays_11 : decode cX9_plays 11 = .ok (.istore 6, 2) := by decide +kernel
theorem dX9_plays_13 : decode cX9_plays 13 = .ok (.aload_n 0, 1) := by decide +kernel
theorem dX9_plays_14 : decode cX9_plays 14 = .ok (.getfield 72, 3) := by decide +kernel
theorem dX9_plays_17 : decode cX9_plays 17 = .ok (.iload 6, 2) := by decide +kernel
theorem dX9_plays_19 : decode cX9_plays 19 = .ok (.iaload, 1) := by decide +kernel
theorem dX9_plays_20 : decode cX9_plays 20 = .ok (.ifCond .eq 11, 3) := by decide +kernel
theorem dX9_plays_23 : decode cX9_plays 23 = .ok (.aload_n 0, 1) := by decide +kernel
theorem dX9_plays_24 : decode cX9_plays 24 = .ok (.getfield 72, 3) := by decide +kernel
theorem dX9_plays_27 : decode cX9_plays 27 = .ok (.iload 6, 2) := by decide +kernel
theorem dX9_plays_29 : decode cX9_plays 29 = .ok (.iaload, 1) := by decide +kernel
theorem dX9_plays_30 : decode cX9_plays 30 = .ok (.ireturn, 1) := by decide +kernel
theorem dX9_plays_31 : decode cX9_plays 31 = .ok (.iconst 1, 1) := by decide +kernel
theorem dX9_plays_32 : decode cX9_plays 32 = .ok (.istore 7, 2) := by decide +kernel
theorem dX9_plays_34 : decode cX9_plays 34 = .ok (.iconst 0, 1) := by decide +kernel
theorem dX9_plays_35 : decode cX9_plays 35 = .ok (.istore 8, 2) := by decide +kernel
theorem dX9_plays_37 : decode cX9_plays 37 = .ok (.iconst 0, 1) := by decide +kernel
theorem dX9_plays_38 : decode cX9_plays 38 = .ok (.istore 9, 2) := by decide +kernel
theorem dX9_plays_40 : decode cX9_plays 40 = .ok (.iload 9, 2) := by decide +kernel
theorem dX9_plays_42 : decode cX9_plays 42 = .ok (.bipush 9, 2) := by decide +kernel
theorem dX9_plays_44 : decode cX9_plays 44 = .ok (.if_icmp .gt 85, 3) := by decide +kernel
theorem dX9_plays_47 : decode cX9_plays 47 = .ok (.aload_n 0, 1) := by decide +kernel
theorem dX9_plays_48 : decode cX9_plays 48 = .ok (.iload_n 1, 1) := by decide +kernel
theorem dX9_plays_49 : decode cX9_plays 49 = .ok (.iload_n 2, 1) := by decide +kernel
theorem dX9_plays_50 : decode cX9_plays 50 = .ok (.iload_n 3, 1) := by decide +kernel
theorem dX9_plays_51 : decode cX9_plays 51 = .ok (.iload 4, 2) := by decide +kernel
theorem dX9_plays_53 : decode cX9_plays 53 = .ok (.iload 5, 2) := by decide +kernel
theorem dX9_plays_55 : decode cX9_plays 55 = .ok (.iload 9, 2) := by decide +kernel
theorem dX9_plays_57 : decode cX9_plays 57 = .ok (.invokevirtual 377, 3) := by decide +kernel
theorem dX9_plays_60 : decode cX9_plays 60 = .ok (.istore 10, 2) := by decide +kernel
theorem dX9_plays_62 : decode cX9_plays 62 = .ok (.iload 10, 2) := by decide +kernel
theorem dX9_plays_64 : decode cX9_plays 64 = .ok (.ifCond .ne 6, 3) := by decide +kernel
theorem dX9_plays_67 : decode cX9_plays 67 = .ok (.goto 56, 3) := by decide +kernel
theorem dX9_plays_70 : decode cX9_plays 70 = .ok (.iload 10, 2) := by decide +kernel
theorem dX9_plays_72 : decode cX9_plays 72 = .ok (.bipush 100, 2) := by decide +kernel
theorem dX9_plays_74 : decode cX9_plays 74 = .ok (.if_icmp .le 13, 3) := by decide +kernel
theorem dX9_plays_77 : decode cX9_plays 77 = .ok (.iload 10, 2) := by decide +kernel
theorem dX9_plays_79 : decode cX9_plays 79 = .ok (.bipush 100, 2) := by decide +kernel
theorem dX9_plays_81 : decode cX9_plays 81 = .ok (.isub, 1) := by decide +kernel
theorem dX9_plays_82 : decode cX9_plays 82 = .ok (.iconst 1, 1) := by decide +kernel
theorem dX9_plays_83 : decode cX9_plays 83 = .ok (.iadd, 1) := by decide +kernel
theorem dX9_plays_84 : decode cX9_plays 84 = .ok (.goto 10, 3) := by decide +kernel
theorem dX9_plays_87 : decode cX9_plays 87 = .ok (.iload 10, 2) := by decide +kernel
theorem dX9_plays_89 : decode cX9_plays 89 = .ok (.iconst 1, 1) := by decide +kernel
theorem dX9_plays_90 : decode cX9_plays 90 = .ok (.iadd, 1) := by decide +kernel
theorem dX9_plays_91 : decode cX9_plays 91 = .ok (.bipush 100, 2) := by decide +kernel
theorem dX9_plays_93 : decode cX9_plays 93 = .ok (.iadd, 1) := by decide +kernel
theorem dX9_plays_94 : decode cX9_plays 94 = .ok (.istore 11, 2) := by decide +kernel
theorem dX9_plays_96 : decode cX9_plays 96 = .ok (.iload 8, 2) := by decide +kernel
theorem dX9_plays_98 : decode cX9_plays 98 = .ok (.ifCond .eq 13, 3) := by decide +kernel
theorem dX9_plays_101 : decode cX9_plays 101 = .ok (.iload 11, 2) := by decide +kernel
theorem dX9_plays_103 : decode cX9_plays 103 = .ok (.iload 7, 2) := by decide +kernel
theorem dX9_plays_105 : decode cX9_plays 105 = .ok (.invokestatic 381, 3) := by decide +kernel
theorem dX9_plays_108 : decode cX9_plays 108 = .ok (.ifCond .eq 8, 3) := by decide +kernel
theorem dX9_plays_111 : decode cX9_plays 111 = .ok (.iload 11, 2) := by decide +kernel
theorem dX9_plays_113 : decode cX9_plays 113 = .ok (.goto 5, 3) := by decide +kernel
theorem dX9_plays_116 : decode cX9_plays 116 = .ok (.iload 7, 2) := by decide +kernel
theorem dX9_plays_118 : decode cX9_plays 118 = .ok (.istore 7, 2) := by decide +kernel
theorem dX9_plays_120 : decode cX9_plays 120 = .ok (.iconst 1, 1) := by decide +kernel
theorem dX9_plays_121 : decode cX9_plays 121 = .ok (.istore 8, 2) := by decide +kernel
theorem dX9_plays_123 : decode cX9_plays 123 = .ok (.iinc 9 1, 3) := by decide +kernel
theorem dX9_plays_126 : decode cX9_plays 126 = .ok (.goto (-86), 3) := by decide +kernel
theorem dX9_plays_129 : decode cX9_plays 129 = .ok (.aload_n 0, 1) := by decide +kernel
theorem dX9_plays_130 : decode cX9_plays 130 = .ok (.getfield 72, 3) := by decide +kernel
theorem dX9_plays_133 : decode cX9_plays 133 = .ok (.iload 6, 2) := by decide +kernel
theorem dX9_plays_135 : decode cX9_plays 135 = .ok (.iload 7, 2) := by decide +kernel
theorem dX9_plays_137 : decode cX9_plays 137 = .ok (.iastore, 1) := by decide +kernel
theorem dX9_plays_138 : decode cX9_plays 138 = .ok (.iload 7, 2) := by decide +kernel
theorem dX9_plays_140 : decode cX9_plays 140 = .ok (.ireturn, 1) := by decide +kernel
set_option maxHeartbeats 4000000 in
set_option maxRecDepth 100000 in
theorem s_X9_plays (l : Launch) (D : va_G) (K : Nat → ClassId) (ad : Nat → Nat) : ∀ (k : Nat), ∀ (v ar : sI) (al : sL) (hI : YI v ar) (z_1 : Int) (hz_1 : 0 ≤ z_1 ∧ z_1 ≤ 511) (z_2 : Int) (hz_2 : -1 ≤ z_2 ∧ z_2 ≤ 8) (z_3 : Int) (hz_3 : 0 ≤ z_3 ∧ z_3 ≤ 1) (z_4 : Int) (hz_4 : 0 ≤ z_4 ∧ z_4 ≤ 3) (z_5 : Int) (hz_5 : 0 ≤ z_5 ∧ z_5 ≤ 3) (hm : 9 - pc z_1 + z_4 + z_5 ≤ (k : Int)), Met l yX9_plays (wM yX9_plays cX9_plays 12 (some .int)) (rmD (4 + 2 * k)) (va_Pc [.ref (ad 0), .int (iI (z_1)), .int (iI (z_2)), .int (iI (z_3)), .int (iI (z_4)), .int (iI (z_5))] (wPre D K ad (yG ad K) 21 v ar al)) (va_Qi (fun (r : Int32) (u : sT) => (∃ z : Int, (-2147483648 ≤ z ∧ z ≤ 2147483647) ∧ r = iI z) ∧ YI u.1 u.2.1 ∧ (∀ i j : Nat, (i, j) ∉ ([] : List (Nat × Nat)) → u.1 i j = v i j) ∧ (∀ i : Nat, i ∉ ([18] : List Nat) → u.2.1 i = ar i) ∧ (∀ i : Nat, i ∉ ([] : List Nat) → u.2.2 i = al i)) (wB D ad (yG ad K) 21) (inW ad 21)) 0 0 (inW ad 21) := by
  intro k
  induction k with
  | zero =>
    intro v ar al hI z_1 hz_1 z_2 hz_2 z_3 hz_3 z_4 hz_4 z_5 hz_5 hm
    refine s_metI (by decide) (Nat.le_of_ble_eq_true rfl) ?_
    intro p e s m below meth c ls args Q hE hB hl kr
    have hE : CallFix p m c cX9_plays 12 s args tbG "TaleCourtModel" := hE
    obtain ⟨hP, hK, hN⟩ := hB
    have hS : va_S (inW ad 21) s.heap s.heap [] := va_S.rf
    have hl : lv_has ls 12 [(0, .ref (ad 0)), (1, .int (iI (z_1))), (2, .int (iI (z_2))), (3, .int (iI (z_3))), (4, .int (iI (z_4))), (5, .int (iI (z_5)))] := hl
    have hpl0 := pc_le z_1
    refine lv_aload_n hE.1 hE.2.1 dX9_plays_0 rfl (lv_at hl 0 rfl) ?_
    refine lv_iload_n hE.1 hE.2.1 dX9_plays_1 rfl (lv_at hl 1 rfl) ?_
    refine lv_iload_n hE.1 hE.2.1 dX9_plays_2 rfl (lv_at hl 2 rfl) ?_
    refine lv_iload_n hE.1 hE.2.1 dX9_plays_3 rfl (lv_at hl 3 rfl) ?_
    refine lv_iload hE.1 hE.2.1 dX9_plays_4 (lv_at hl 4 rfl) ?_
    refine lv_iload hE.1 hE.2.1 dX9_plays_6 (lv_at hl 5 rfl) ?_
    refine x_vp (nn := 5) (As := [.int (iI (z_1)), .int (iI (z_2)), .int (iI (z_3)), .int (iI (z_4)), .int (iI (z_5))]) (rest := []) hE (s_X9_stateOf_e l D K ad v ar al hI  (z_1) (by omega) (z_2) (by omega) (z_3) (by omega) (z_4) (by omega) (z_5) (by omega)) wPre_blind (wPre_now hK hN hP) (x_recv hK hP 0 (by decide) (yG_9 rfl) rfl) rfl mw_1895 mw_1897 mw_98 mw_123 mw_1898 (by decide +kernel) ⟨by simp only [rmD]; omega, by simp only [rmD]; omega⟩ hl.1 rfl (Nat.le_of_ble_eq_true rfl) ⟨Nat.zero_le _, Nat.zero_le _⟩ dX9_plays_8 (fun r1 hr1 => ?_)
    obtain ⟨z1, hz1, rfl⟩ := hr1
    refine lv_istore (lv' := [(6, .int (iI (z1))), (0, .ref (ad 0)), (1, .int (iI (z_1))), (2, .int (iI (z_2))), (3, .int (iI (z_3))), (4, .int (iI (z_4))), (5, .int (iI (z_5)))]) hE.1 hE.2.1 dX9_plays_11 hl (by decide) rfl (fun ls hl => ?_)
    refine lv_aload_n hE.1 hE.2.1 dX9_plays_13 rfl (lv_at hl 1 rfl) ?_
    refine x_get (x := .ref (ad 18)) hE hK hP 0 (by decide) (yG_9 rfl) rfl hin9 43 (by decide) mw_1377 rfl dX9_plays_14 ?_
    refine lv_iload hE.1 hE.2.1 dX9_plays_17 (lv_at hl 0 rfl) ?_
    refine x_iald (j := iI (z1)) hE hK hP 18 (by decide) (yG_10 rfl) (iI_in (n := 163840) (by omega)) dX9_plays_19 ?_
    obtain ⟨z3, hz3, ez3⟩ := iI_of (ar 18 (iI (z1)).toNatClampNeg)
    refine x_top ez3 ?_
    refine s_if_eq (a := z3) (tgt := 31) hE.1 hE.2.1 (by omega) dX9_plays_20 (by decide) (fun c4 => ?_) (fun c4 => ?_)
    · skip
      refine lv_iconst (v := iI (1)) hE.1 hE.2.1 dX9_plays_31 (by decide) ?_
      refine lv_istore (lv' := [(7, .int (iI (1))), (6, .int (iI (z1))), (0, .ref (ad 0)), (1, .int (iI (z_1))), (2, .int (iI (z_2))), (3, .int (iI (z_3))), (4, .int (iI (z_4))), (5, .int (iI (z_5)))]) hE.1 hE.2.1 dX9_plays_32 hl (by decide) rfl (fun ls hl => ?_)
      refine lv_iconst (v := iI (0)) hE.1 hE.2.1 dX9_plays_34 (by decide) ?_
      refine lv_istore (lv' := [(8, .int (iI (0))), (7, .int (iI (1))), (6, .int (iI (z1))), (0, .ref (ad 0)), (1, .int (iI (z_1))), (2, .int (iI (z_2))), (3, .int (iI (z_3))), (4, .int (iI (z_4))), (5, .int (iI (z_5)))]) hE.1 hE.2.1 dX9_plays_35 hl (by decide) rfl (fun ls hl => ?_)
      refine lv_iconst (v := iI (0)) hE.1 hE.2.1 dX9_plays_37 (by decide) ?_
      refine lv_istore (lv' := [(9, .int (iI (0))), (8, .int (iI (0))), (7, .int (iI (1))), (6, .int (iI (z1))), (0, .ref (ad 0)), (1, .int (iI (z_1))), (2, .int (iI (z_2))), (3, .int (iI (z_3))), (4, .int (iI (z_4))), (5, .int (iI (z_5)))]) hE.1 hE.2.1 dX9_plays_38 hl (by decide) rfl (fun ls hl => ?_)
      have loop5 : ∀ (k5 : Nat) (y5_9 : Int) (y5_8 : Int) (y5_7 : Int) (vl5 arl5 : sI) (all5 : sL) (H : Heap) (locs : List Loc) (ls : Array Slot), (10 - y5_9).toNat = k5 → (0 ≤ y5_9 ∧ y5_9 ≤ 10) → (-2147483648 ≤ y5_8 ∧ y5_8 ≤ 2147483647) → (-2147483648 ≤ y5_7 ∧ y5_7 ≤ 2147483647) → YI vl5 arl5 → (∀ i j : Nat, (i, j) ∉ ([] : List (Nat × Nat)) → vl5 i j = v i j) → (∀ i : Nat, i ∉ ([18] : List Nat) → arl5 i = ar i) → (∀ i : Nat, i ∉ ([] : List Nat) → all5 i = al i) → va_P D xcl (wW ad (yG ad K) 21 vl5 arl5 all5) H → va_S (inW ad 21) s.heap H locs → lv_has ls 12 [(9, .int (iI (y5_9))), (8, .int (iI (y5_8))), (7, .int (iI (y5_7))), (6, .int (iI (z1))), (0, .ref (ad 0)), (1, .int (iI (z_1))), (2, .int (iI (z_2))), (3, .int (iI (z_3))), (4, .int (iI (z_4))), (5, .int (iI (z_5)))] → W p l e (rmD (4 + 2 * 0)) s m args below meth c H locs 0 0 Q (F0 m 40 ls []) := by
        intro k5
        induction k5 using Nat.strongRecOn with
        | _ k5 ih5 =>
          intro y5_9 y5_8 y5_7  vl5 arl5 all5 H locs ls hk5 hb_y5_9 hb_y5_8 hb_y5_7 hI hfr5 hfa5 hfl5 hP hS hl
          refine lv_iload hE.1 hE.2.1 dX9_plays_40 (lv_at hl 0 rfl) ?_
          refine lv_bipush (v := iI (9)) hE.1 hE.2.1 dX9_plays_42 (by decide) ?_
          refine s_icmp_gt (a := y5_9) (b := 9) (tgt := 129) hE.1 hE.2.1 (by omega) (by omega) dX9_plays_44 (by decide) (fun c6 => ?_) (fun c6 => ?_)
          · skip
            refine lv_aload_n hE.1 hE.2.1 dX9_plays_129 rfl (lv_at hl 4 rfl) ?_
            refine x_get (x := .ref (ad 18)) hE hK hP 0 (by decide) (yG_9 rfl) rfl hin9 43 (by decide) mw_1377 rfl dX9_plays_130 ?_
            refine lv_iload hE.1 hE.2.1 dX9_plays_133 (lv_at hl 3 rfl) ?_
            refine lv_iload hE.1 hE.2.1 dX9_plays_135 (lv_at hl 2 rfl) ?_
            refine x_iast (j := iI (z1)) hE hK hN hP hS 18 (by decide) (fun _ => yG_10 rfl) (iI_in (n := 163840) (by omega)) dX9_plays_137 (fun ar7 H locs ha7 hP hS => ?_)
            have hI := YI_ast hI ha7 (by decide)
            refine lv_iload hE.1 hE.2.1 dX9_plays_138 (lv_at hl 2 rfl) ?_
            exact kr _ vl5 ar7 all5 _ _ _ _ rfl ⟨⟨y5_7, by omega, rfl⟩, hI, fun i j h => (hfr5 i j (fun q => h (mem_sub (by decide) q))), fun i h => ((upx_ne ha7 i (fun q => h (by rw [q]; decide))).trans (hfa5 i (fun q => h (mem_subn (by decide) q)))), fun i h => (hfl5 i (fun q => h (mem_subn (by decide) q)))⟩ hP hS dX9_plays_140
          · skip
            refine lv_aload_n hE.1 hE.2.1 dX9_plays_47 rfl (lv_at hl 4 rfl) ?_
            refine lv_iload_n hE.1 hE.2.1 dX9_plays_48 rfl (lv_at hl 5 rfl) ?_
            refine lv_iload_n hE.1 hE.2.1 dX9_plays_49 rfl (lv_at hl 6 rfl) ?_
            refine lv_iload_n hE.1 hE.2.1 dX9_plays_50 rfl (lv_at hl 7 rfl) ?_
            refine lv_iload hE.1 hE.2.1 dX9_plays_51 (lv_at hl 8 rfl) ?_
            refine lv_iload hE.1 hE.2.1 dX9_plays_53 (lv_at hl 9 rfl) ?_
            refine lv_iload hE.1 hE.2.1 dX9_plays_55 (lv_at hl 0 rfl) ?_
            refine x_vi (nn := 6) (As := [.int (iI (z_1)), .int (iI (z_2)), .int (iI (z_3)), .int (iI (z_4)), .int (iI (z_5)), .int (iI (y5_9))]) (rest := []) hE hK hN hP hS (s_X9_act l D K ad 0 (fun k1 h1 => absurd h1 (by omega)) vl5 arl5 all5 hI  (z_1) (by omega) (z_2) (by omega) (z_3) (by omega) (z_4) (by omega) (z_5) (by omega) (y5_9) (by omega) (by omega)) (x_recv hK hP 0 (by decide) (yG_9 rfl) rfl) rfl mw_1899 mw_1901 mw_99 mw_123 mw_1902 (by decide +kernel) ⟨by simp only [rmD]; omega, by simp only [rmD]; omega⟩ hl.1 rfl (Nat.le_of_ble_eq_true rfl) ⟨Nat.zero_le _, Nat.zero_le _⟩ dX9_plays_57 (fun r8 v8 ar8 al8 H locs hq8 hP hS => ?_)
            obtain ⟨⟨z8, hz8, rfl⟩, hI, hq8, hqa8, hql8⟩ := hq8
            have hI : YI v8 ar8 := hI
            refine lv_istore (lv' := [(10, .int (iI (z8))), (9, .int (iI (y5_9))), (8, .int (iI (y5_8))), (7, .int (iI (y5_7))), (6, .int (iI (z1))), (0, .ref (ad 0)), (1, .int (iI (z_1))), (2, .int (iI (z_2))), (3, .int (iI (z_3))), (4, .int (iI (z_4))), (5, .int (iI (z_5)))]) hE.1 hE.2.1 dX9_plays_60 hl (by decide) rfl (fun ls hl => ?_)
            refine lv_iload hE.1 hE.2.1 dX9_plays_62 (lv_at hl 0 rfl) ?_
            refine s_if_ne (a := z8) (tgt := 70) hE.1 hE.2.1 (by omega) dX9_plays_64 (by decide) (fun c9 => ?_) (fun c9 => ?_)
            · skip
              refine lv_iload hE.1 hE.2.1 dX9_plays_70 (lv_at hl 0 rfl) ?_
              refine lv_bipush (v := iI (100)) hE.1 hE.2.1 dX9_plays_72 (by decide) ?_
              refine s_icmp_le (a := z8) (b := 100) (tgt := 87) hE.1 hE.2.1 (by omega) (by omega) dX9_plays_74 (by decide) (fun c10 => ?_) (fun c10 => ?_)
              · skip
                refine lv_iload hE.1 hE.2.1 dX9_plays_87 (lv_at hl 0 rfl) ?_
                refine lv_iconst (v := iI (1)) hE.1 hE.2.1 dX9_plays_89 (by decide) ?_
                refine lv_iadd hE.1 hE.2.1 dX9_plays_90 ?_
                refine x_top (y := iI (z8 + 1)) ((iI_add (z8) (1)).trans (congrArg iI (by omega))) ?_
                refine lv_bipush (v := iI (100)) hE.1 hE.2.1 dX9_plays_91 (by decide) ?_
                refine lv_iadd hE.1 hE.2.1 dX9_plays_93 ?_
                refine x_top (y := iI (z8 + 101)) ((iI_add (z8 + 1) (100)).trans (congrArg iI (by omega))) ?_
                refine lv_istore (lv' := [(11, .int (iI (z8 + 101))), (10, .int (iI (z8))), (9, .int (iI (y5_9))), (8, .int (iI (y5_8))), (7, .int (iI (y5_7))), (6, .int (iI (z1))), (0, .ref (ad 0)), (1, .int (iI (z_1))), (2, .int (iI (z_2))), (3, .int (iI (z_3))), (4, .int (iI (z_4))), (5, .int (iI (z_5)))]) hE.1 hE.2.1 dX9_plays_94 hl (by decide) rfl (fun ls hl => ?_)
                refine lv_iload hE.1 hE.2.1 dX9_plays_96 (lv_at hl 3 rfl) ?_
                refine s_if_eq (a := y5_8) (tgt := 111) hE.1 hE.2.1 (by omega) dX9_plays_98 (by decide) (fun c11 => ?_) (fun c11 => ?_)
                · skip
                  refine lv_iload hE.1 hE.2.1 dX9_plays_111 (lv_at hl 0 rfl) ?_
                  refine lv_goto (tgt := 118) hE.1 hE.2.1 dX9_plays_113 (by decide) ?_
                  refine lv_istore (lv' := [(7, .int (iI (z8 + 101))), (11, .int (iI (z8 + 101))), (10, .int (iI (z8))), (9, .int (iI (y5_9))), (8, .int (iI (y5_8))), (6, .int (iI (z1))), (0, .ref (ad 0)), (1, .int (iI (z_1))), (2, .int (iI (z_2))), (3, .int (iI (z_3))), (4, .int (iI (z_4))), (5, .int (iI (z_5)))]) hE.1 hE.2.1 dX9_plays_118 hl (by decide) rfl (fun ls hl => ?_)
                  refine lv_iconst (v := iI (1)) hE.1 hE.2.1 dX9_plays_120 (by decide) ?_
                  refine lv_istore (lv' := [(8, .int (iI (1))), (7, .int (iI (z8 + 101))), (11, .int (iI (z8 + 101))), (10, .int (iI (z8))), (9, .int (iI (y5_9))), (6, .int (iI (z1))), (0, .ref (ad 0)), (1, .int (iI (z_1))), (2, .int (iI (z_2))), (3, .int (iI (z_3))), (4, .int (iI (z_4))), (5, .int (iI (z_5)))]) hE.1 hE.2.1 dX9_plays_121 hl (by decide) rfl (fun ls hl => ?_)
                  refine lv_iinc (v := iI (y5_9 + 1)) (lv' := [(9, .int (iI (y5_9 + 1))), (8, .int (iI (1))), (7, .int (iI (z8 + 101))), (11, .int (iI (z8 + 101))), (10, .int (iI (z8))), (6, .int (iI (z1))), (0, .ref (ad 0)), (1, .int (iI (z_1))), (2, .int (iI (z_2))), (3, .int (iI (z_3))), (4, .int (iI (z_4))), (5, .int (iI (z_5)))]) hE.1 hE.2.1 dX9_plays_123 hl (k := 4) rfl ((iI_add (y5_9) (1)).trans (congrArg iI (by omega))) (by decide) rfl (fun ls hl => ?_)
                  refine lv_goto (tgt := 40) hE.1 hE.2.1 dX9_plays_126 (by decide) ?_
                  exact ih5 _ (by omega) (y5_9 + 1) (1) (z8 + 101)  v8 ar8 al8 _ _ _ rfl (by omega) (by omega) (by omega)  hI (fun i j h => ((hq8 i j (fun q => h (mem_sub (by decide) q))).trans (hfr5 i j h))) (fun i h => ((hqa8 i (fun q => h (mem_subn (by decide) q))).trans (hfa5 i h))) (fun i h => ((hql8 i (fun q => h (mem_subn (by decide) q))).trans (hfl5 i h))) hP hS (lv_sub hl [0, 1, 2, 5, 6, 7, 8, 9, 10, 11] rfl)
                · skip
                  refine lv_iload hE.1 hE.2.1 dX9_plays_101 (lv_at hl 0 rfl) ?_
                  refine lv_iload hE.1 hE.2.1 dX9_plays_103 (lv_at hl 4 rfl) ?_
                  refine x_sp (nn := 2) (As := [.int (iI (z8 + 101)), .int (iI (y5_7))]) (rest := []) hE (s_X9_isBetter_e l (z8 + 101) (by omega) (y5_7) (by omega)) tt_blind (fun _ _ _ => trivial) rfl mw_1907 mw_1908 mw_123 mw_1909 (by decide +kernel) ⟨by simp only [rmD]; omega, by simp only [rmD]; omega⟩ hl.1 rfl (Nat.le_of_ble_eq_true rfl) ⟨Nat.zero_le _, Nat.zero_le _⟩ dX9_plays_105 (fun r12 hr12 => ?_)
                  obtain ⟨z12, hz12, rfl⟩ := hr12
                  refine s_if_eq (a := z12) (tgt := 116) hE.1 hE.2.1 (by omega) dX9_plays_108 (by decide) (fun c13 => ?_) (fun c13 => ?_)
                  · skip
                    refine lv_iload hE.1 hE.2.1 dX9_plays_116 (lv_at hl 4 rfl) ?_
                    refine lv_istore (lv' := [(7, .int (iI (y5_7))), (11, .int (iI (z8 + 101))), (10, .int (iI (z8))), (9, .int (iI (y5_9))), (8, .int (iI (y5_8))), (6, .int (iI (z1))), (0, .ref (ad 0)), (1, .int (iI (z_1))), (2, .int (iI (z_2))), (3, .int (iI (z_3))), (4, .int (iI (z_4))), (5, .int (iI (z_5)))]) hE.1 hE.2.1 dX9_plays_118 hl (by decide) rfl (fun ls hl => ?_)
                    refine lv_iconst (v := iI (1)) hE.1 hE.2.1 dX9_plays_120 (by decide) ?_
                    refine lv_istore (lv' := [(8, .int (iI (1))), (7, .int (iI (y5_7))), (11, .int (iI (z8 + 101))), (10, .int (iI (z8))), (9, .int (iI (y5_9))), (6, .int (iI (z1))), (0, .ref (ad 0)), (1, .int (iI (z_1))), (2, .int (iI (z_2))), (3, .int (iI (z_3))), (4, .int (iI (z_4))), (5, .int (iI (z_5)))]) hE.1 hE.2.1 dX9_plays_121 hl (by decide) rfl (fun ls hl => ?_)
                    refine lv_iinc (v := iI (y5_9 + 1)) (lv' := [(9, .int (iI (y5_9 + 1))), (8, .int (iI (1))), (7, .int (iI (y5_7))), (11, .int (iI (z8 + 101))), (10, .int (iI (z8))), (6, .int (iI (z1))), (0, .ref (ad 0)), (1, .int (iI (z_1))), (2, .int (iI (z_2))), (3, .int (iI (z_3))), (4, .int (iI (z_4))), (5, .int (iI (z_5)))]) hE.1 hE.2.1 dX9_plays_123 hl (k := 4) rfl ((iI_add (y5_9) (1)).trans (congrArg iI (by omega))) (by decide) rfl (fun ls hl => ?_)
                    refine lv_goto (tgt := 40) hE.1 hE.2.1 dX9_plays_126 (by decide) ?_
                    exact ih5 _ (by omega) (y5_9 + 1) (1) (y5_7)  v8 ar8 al8 _ _ _ rfl (by omega) (by omega) (by omega)  hI (fun i j h => ((hq8 i j (fun q => h (mem_sub (by decide) q))).trans (hfr5 i j h))) (fun i h => ((hqa8 i (fun q => h (mem_subn (by decide) q))).trans (hfa5 i h))) (fun i h => ((hql8 i (fun q => h (mem_subn (by decide) q))).trans (hfl5 i h))) hP hS (lv_sub hl [0, 1, 2, 5, 6, 7, 8, 9, 10, 11] rfl)
                  · skip
                    refine lv_iload hE.1 hE.2.1 dX9_plays_111 (lv_at hl 0 rfl) ?_
                    refine lv_goto (tgt := 118) hE.1 hE.2.1 dX9_plays_113 (by decide) ?_
                    refine lv_istore (lv' := [(7, .int (iI (z8 + 101))), (11, .int (iI (z8 + 101))), (10, .int (iI (z8))), (9, .int (iI (y5_9))), (8, .int (iI (y5_8))), (6, .int (iI (z1))), (0, .ref (ad 0)), (1, .int (iI (z_1))), (2, .int (iI (z_2))), (3, .int (iI (z_3))), (4, .int (iI (z_4))), (5, .int (iI (z_5)))]) hE.1 hE.2.1 dX9_plays_118 hl (by decide) rfl (fun ls hl => ?_)
                    refine lv_iconst (v := iI (1)) hE.1 hE.2.1 dX9_plays_120 (by decide) ?_
                    refine lv_istore (lv' := [(8, .int (iI (1))), (7, .int (iI (z8 + 101))), (11, .int (iI (z8 + 101))), (10, .int (iI (z8))), (9, .int (iI (y5_9))), (6, .int (iI (z1))), (0, .ref (ad 0)), (1, .int (iI (z_1))), (2, .int (iI (z_2))), (3, .int (iI (z_3))), (4, .int (iI (z_4))), (5, .int (iI (z_5)))]) hE.1 hE.2.1 dX9_plays_121 hl (by decide) rfl (fun ls hl => ?_)
                    refine lv_iinc (v := iI (y5_9 + 1)) (lv' := [(9, .int (iI (y5_9 + 1))), (8, .int (iI (1))), (7, .int (iI (z8 + 101))), (11, .int (iI (z8 + 101))), (10, .int (iI (z8))), (6, .int (iI (z1))), (0, .ref (ad 0)), (1, .int (iI (z_1))), (2, .int (iI (z_2))), (3, .int (iI (z_3))), (4, .int (iI (z_4))), (5, .int (iI (z_5)))]) hE.1 hE.2.1 dX9_plays_123 hl (k := 4) rfl ((iI_add (y5_9) (1)).trans (congrArg iI (by omega))) (by decide) rfl (fun ls hl => ?_)
                    refine lv_goto (tgt := 40) hE.1 hE.2.1 dX9_plays_126 (by decide) ?_
                    exact ih5 _ (by omega) (y5_9 + 1) (1) (z8 + 101)  v8 ar8 al8 _ _ _ rfl (by omega) (by omega) (by omega)  hI (fun i j h => ((hq8 i j (fun q => h (mem_sub (by decide) q))).trans (hfr5 i j h))) (fun i h => ((hqa8 i (fun q => h (mem_subn (by decide) q))).trans (hfa5 i h))) (fun i h => ((hql8 i (fun q => h (mem_subn (by decide) q))).trans (hfl5 i h))) hP hS (lv_sub hl [0, 1, 2, 5, 6, 7, 8, 9, 10, 11] rfl)
              · skip
                refine lv_iload hE.1 hE.2.1 dX9_plays_77 (lv_at hl 0 rfl) ?_
                refine lv_bipush (v := iI (100)) hE.1 hE.2.1 dX9_plays_79 (by decide) ?_
                refine lv_isub hE.1 hE.2.1 dX9_plays_81 ?_
                refine x_top (y := iI (z8 - 100)) ((iI_sub (z8) (100)).trans (congrArg iI (by omega))) ?_
                refine lv_iconst (v := iI (1)) hE.1 hE.2.1 dX9_plays_82 (by decide) ?_
                refine lv_iadd hE.1 hE.2.1 dX9_plays_83 ?_
                refine x_top (y := iI (z8 - 99)) ((iI_add (z8 - 100) (1)).trans (congrArg iI (by omega))) ?_
                refine lv_goto (tgt := 94) hE.1 hE.2.1 dX9_plays_84 (by decide) ?_
                refine lv_istore (lv' := [(11, .int (iI (z8 - 99))), (10, .int (iI (z8))), (9, .int (iI (y5_9))), (8, .int (iI (y5_8))), (7, .int (iI (y5_7))), (6, .int (iI (z1))), (0, .ref (ad 0)), (1, .int (iI (z_1))), (2, .int (iI (z_2))), (3, .int (iI (z_3))), (4, .int (iI (z_4))), (5, .int (iI (z_5)))]) hE.1 hE.2.1 dX9_plays_94 hl (by decide) rfl (fun ls hl => ?_)
                refine lv_iload hE.1 hE.2.1 dX9_plays_96 (lv_at hl 3 rfl) ?_
                refine s_if_eq (a := y5_8) (tgt := 111) hE.1 hE.2.1 (by omega) dX9_plays_98 (by decide) (fun c14 => ?_) (fun c14 => ?_)
                · skip
                  refine lv_iload hE.1 hE.2.1 dX9_plays_111 (lv_at hl 0 rfl) ?_
                  refine lv_goto (tgt := 118) hE.1 hE.2.1 dX9_plays_113 (by decide) ?_
                  refine lv_istore (lv' := [(7, .int (iI (z8 - 99))), (11, .int (iI (z8 - 99))), (10, .int (iI (z8))), (9, .int (iI (y5_9))), (8, .int (iI (y5_8))), (6, .int (iI (z1))), (0, .ref (ad 0)), (1, .int (iI (z_1))), (2, .int (iI (z_2))), (3, .int (iI (z_3))), (4, .int (iI (z_4))), (5, .int (iI (z_5)))]) hE.1 hE.2.1 dX9_plays_118 hl (by decide) rfl (fun ls hl => ?_)
                  refine lv_iconst (v := iI (1)) hE.1 hE.2.1 dX9_plays_120 (by decide) ?_
                  refine lv_istore (lv' := [(8, .int (iI (1))), (7, .int (iI (z8 - 99))), (11, .int (iI (z8 - 99))), (10, .int (iI (z8))), (9, .int (iI (y5_9))), (6, .int (iI (z1))), (0, .ref (ad 0)), (1, .int (iI (z_1))), (2, .int (iI (z_2))), (3, .int (iI (z_3))), (4, .int (iI (z_4))), (5, .int (iI (z_5)))]) hE.1 hE.2.1 dX9_plays_121 hl (by decide) rfl (fun ls hl => ?_)
                  refine lv_iinc (v := iI (y5_9 + 1)) (lv' := [(9, .int (iI (y5_9 + 1))), (8, .int (iI (1))), (7, .int (iI (z8 - 99))), (11, .int (iI (z8 - 99))), (10, .int (iI (z8))), (6, .int (iI (z1))), (0, .ref (ad 0)), (1, .int (iI (z_1))), (2, .int (iI (z_2))), (3, .int (iI (z_3))), (4, .int (iI (z_4))), (5, .int (iI (z_5)))]) hE.1 hE.2.1 dX9_plays_123 hl (k := 4) rfl ((iI_add (y5_9) (1)).trans (congrArg iI (by omega))) (by decide) rfl (fun ls hl => ?_)
                  refine lv_goto (tgt := 40) hE.1 hE.2.1 dX9_plays_126 (by decide) ?_
                  exact ih5 _ (by omega) (y5_9 + 1) (1) (z8 - 99)  v8 ar8 al8 _ _ _ rfl (by omega) (by omega) (by omega)  hI (fun i j h => ((hq8 i j (fun q => h (mem_sub (by decide) q))).trans (hfr5 i j h))) (fun i h => ((hqa8 i (fun q => h (mem_subn (by decide) q))).trans (hfa5 i h))) (fun i h => ((hql8 i (fun q => h (mem_subn (by decide) q))).trans (hfl5 i h))) hP hS (lv_sub hl [0, 1, 2, 5, 6, 7, 8, 9, 10, 11] rfl)
                · skip
                  refine lv_iload hE.1 hE.2.1 dX9_plays_101 (lv_at hl 0 rfl) ?_
                  refine lv_iload hE.1 hE.2.1 dX9_plays_103 (lv_at hl 4 rfl) ?_
                  refine x_sp (nn := 2) (As := [.int (iI (z8 - 99)), .int (iI (y5_7))]) (rest := []) hE (s_X9_isBetter_e l (z8 - 99) (by omega) (y5_7) (by omega)) tt_blind (fun _ _ _ => trivial) rfl mw_1907 mw_1908 mw_123 mw_1909 (by decide +kernel) ⟨by simp only [rmD]; omega, by simp only [rmD]; omega⟩ hl.1 rfl (Nat.le_of_ble_eq_true rfl) ⟨Nat.zero_le _, Nat.zero_le _⟩ dX9_plays_105 (fun r15 hr15 => ?_)
                  obtain ⟨z15, hz15, rfl⟩ := hr15
                  refine s_if_eq (a := z15) (tgt := 116) hE.1 hE.2.1 (by omega) dX9_plays_108 (by decide) (fun c16 => ?_) (fun c16 => ?_)
                  · skip
                    refine lv_iload hE.1 hE.2.1 dX9_plays_116 (lv_at hl 4 rfl) ?_
                    refine lv_istore (lv' := [(7, .int (iI (y5_7))), (11, .int (iI (z8 - 99))), (10, .int (iI (z8))), (9, .int (iI (y5_9))), (8, .int (iI (y5_8))), (6, .int (iI (z1))), (0, .ref (ad 0)), (1, .int (iI (z_1))), (2, .int (iI (z_2))), (3, .int (iI (z_3))), (4, .int (iI (z_4))), (5, .int (iI (z_5)))]) hE.1 hE.2.1 dX9_plays_118 hl (by decide) rfl (fun ls hl => ?_)
                    refine lv_iconst (v := iI (1)) hE.1 hE.2.1 dX9_plays_120 (by decide) ?_
                    refine lv_istore (lv' := [(8, .int (iI (1))), (7, .int (iI (y5_7))), (11, .int (iI (z8 - 99))), (10, .int (iI (z8))), (9, .int (iI (y5_9))), (6, .int (iI (z1))), (0, .ref (ad 0)), (1, .int (iI (z_1))), (2, .int (iI (z_2))), (3, .int (iI (z_3))), (4, .int (iI (z_4))), (5, .int (iI (z_5)))]) hE.1 hE.2.1 dX9_plays_121 hl (by decide) rfl (fun ls hl => ?_)
                    refine lv_iinc (v := iI (y5_9 + 1)) (lv' := [(9, .int (iI (y5_9 + 1))), (8, .int (iI (1))), (7, .int (iI (y5_7))), (11, .int (iI (z8 - 99))), (10, .int (iI (z8))), (6, .int (iI (z1))), (0, .ref (ad 0)), (1, .int (iI (z_1))), (2, .int (iI (z_2))), (3, .int (iI (z_3))), (4, .int (iI (z_4))), (5, .int (iI (z_5)))]) hE.1 hE.2.1 dX9_plays_123 hl (k := 4) rfl ((iI_add (y5_9) (1)).trans (congrArg iI (by omega))) (by decide) rfl (fun ls hl => ?_)
                    refine lv_goto (tgt := 40) hE.1 hE.2.1 dX9_plays_126 (by decide) ?_
                    exact ih5 _ (by omega) (y5_9 + 1) (1) (y5_7)  v8 ar8 al8 _ _ _ rfl (by omega) (by omega) (by omega)  hI (fun i j h => ((hq8 i j (fun q => h (mem_sub (by decide) q))).trans (hfr5 i j h))) (fun i h => ((hqa8 i (fun q => h (mem_subn (by decide) q))).trans (hfa5 i h))) (fun i h => ((hql8 i (fun q => h (mem_subn (by decide) q))).trans (hfl5 i h))) hP hS (lv_sub hl [0, 1, 2, 5, 6, 7, 8, 9, 10, 11] rfl)
                  · skip
                    refine lv_iload hE.1 hE.2.1 dX9_plays_111 (lv_at hl 0 rfl) ?_
                    refine lv_goto (tgt := 118) hE.1 hE.2.1 dX9_plays_113 (by decide) ?_
                    refine lv_istore (lv' := [(7, .int (iI (z8 - 99))), (11, .int (iI (z8 - 99))), (10, .int (iI (z8))), (9, .int (iI (y5_9))), (8, .int (iI (y5_8))), (6, .int (iI (z1))), (0, .ref (ad 0)), (1, .int (iI (z_1))), (2, .int (iI (z_2))), (3, .int (iI (z_3))), (4, .int (iI (z_4))), (5, .int (iI (z_5)))]) hE.1 hE.2.1 dX9_plays_118 hl (by decide) rfl (fun ls hl => ?_)
                    refine lv_iconst (v := iI (1)) hE.1 hE.2.1 dX9_plays_120 (by decide) ?_
                    refine lv_istore (lv' := [(8, .int (iI (1))), (7, .int (iI (z8 - 99))), (11, .int (iI (z8 - 99))), (10, .int (iI (z8))), (9, .int (iI (y5_9))), (6, .int (iI (z1))), (0, .ref (ad 0)), (1, .int (iI (z_1))), (2, .int (iI (z_2))), (3, .int (iI (z_3))), (4, .int (iI (z_4))), (5, .int (iI (z_5)))]) hE.1 hE.2.1 dX9_plays_121 hl (by decide) rfl (fun ls hl => ?_)
                    refine lv_iinc (v := iI (y5_9 + 1)) (lv' := [(9, .int (iI (y5_9 + 1))), (8, .int (iI (1))), (7, .int (iI (z8 - 99))), (11, .int (iI (z8 - 99))), (10, .int (iI (z8))), (6, .int (iI (z1))), (0, .ref (ad 0)), (1, .int (iI (z_1))), (2, .int (iI (z_2))), (3, .int (iI (z_3))), (4, .int (iI (z_4))), (5, .int (iI (z_5)))]) hE.1 hE.2.1 dX9_plays_123 hl (k := 4) rfl ((iI_add (y5_9) (1)).trans (congrArg iI (by omega))) (by decide) rfl (fun ls hl => ?_)
                    refine lv_goto (tgt := 40) hE.1 hE.2.1 dX9_plays_126 (by decide) ?_
                    exact ih5 _ (by omega) (y5_9 + 1) (1) (z8 - 99)  v8 ar8 al8 _ _ _ rfl (by omega) (by omega) (by omega)  hI (fun i j h => ((hq8 i j (fun q => h (mem_sub (by decide) q))).trans (hfr5 i j h))) (fun i h => ((hqa8 i (fun q => h (mem_subn (by decide) q))).trans (hfa5 i h))) (fun i h => ((hql8 i (fun q => h (mem_subn (by decide) q))).trans (hfl5 i h))) hP hS (lv_sub hl [0, 1, 2, 5, 6, 7, 8, 9, 10, 11] rfl)
            · skip
              refine lv_goto (tgt := 123) hE.1 hE.2.1 dX9_plays_67 (by decide) ?_
              refine lv_iinc (v := iI (y5_9 + 1)) (lv' := [(9, .int (iI (y5_9 + 1))), (10, .int (iI (z8))), (8, .int (iI (y5_8))), (7, .int (iI (y5_7))), (6, .int (iI (z1))), (0, .ref (ad 0)), (1, .int (iI (z_1))), (2, .int (iI (z_2))), (3, .int (iI (z_3))), (4, .int (iI (z_4))), (5, .int (iI (z_5)))]) hE.1 hE.2.1 dX9_plays_123 hl (k := 1) rfl ((iI_add (y5_9) (1)).trans (congrArg iI (by omega))) (by decide) rfl (fun ls hl => ?_)
              refine lv_goto (tgt := 40) hE.1 hE.2.1 dX9_plays_126 (by decide) ?_
              exact ih5 _ (by omega) (y5_9 + 1) (y5_8) (y5_7)  v8 ar8 al8 _ _ _ rfl (by omega) (by omega) (by omega)  hI (fun i j h => ((hq8 i j (fun q => h (mem_sub (by decide) q))).trans (hfr5 i j h))) (fun i h => ((hqa8 i (fun q => h (mem_subn (by decide) q))).trans (hfa5 i h))) (fun i h => ((hql8 i (fun q => h (mem_subn (by decide) q))).trans (hfl5 i h))) hP hS (lv_sub hl [0, 2, 3, 4, 5, 6, 7, 8, 9, 10] rfl)
      exact loop5 _ (0) (0) (1)  v ar al _ _ _ rfl (by omega) (by omega) (by omega)  hI (fun _ _ _ => rfl) (fun _ _ => rfl) (fun _ _ => rfl) hP hS hl
    · skip
      refine lv_aload_n hE.1 hE.2.1 dX9_plays_23 rfl (lv_at hl 1 rfl) ?_
      refine x_get (x := .ref (ad 18)) hE hK hP 0 (by decide) (yG_9 rfl) rfl hin9 43 (by decide) mw_1377 rfl dX9_plays_24 ?_
      refine lv_iload hE.1 hE.2.1 dX9_plays_27 (lv_at hl 0 rfl) ?_
      refine x_iald (j := iI (z1)) hE hK hP 18 (by decide) (yG_10 rfl) (iI_in (n := 163840) (by omega)) dX9_plays_29 ?_
      refine x_top ez3 ?_
      exact kr _ v ar al _ _ _ _ rfl ⟨⟨z3, by omega, rfl⟩, hI, fun i j h => rfl, fun i h => rfl, fun i h => rfl⟩ hP hS dX9_plays_30
  | succ k ih =>
    intro v ar al hI z_1 hz_1 z_2 hz_2 z_3 hz_3 z_4 hz_4 z_5 hz_5 hm
    refine s_metI (by decide) (Nat.le_of_ble_eq_true rfl) ?_
    intro p e s m below meth c ls args Q hE hB hl kr
    have hE : CallFix p m c cX9_plays 12 s args tbG "TaleCourtModel" := hE
    obtain ⟨hP, hK, hN⟩ := hB
    have hS : va_S (inW ad 21) s.heap s.heap [] := va_S.rf
    have hl : lv_has ls 12 [(0, .ref (ad 0)), (1, .int (iI (z_1))), (2, .int (iI (z_2))), (3, .int (iI (z_3))), (4, .int (iI (z_4))), (5, .int (iI (z_5)))] := hl
    have hpl0 := pc_le z_1
    refine lv_aload_n hE.1 hE.2.1 dX9_plays_0 rfl (lv_at hl 0 rfl) ?_
    refine lv_iload_n hE.1 hE.2.1 dX9_plays_1 rfl (lv_at hl 1 rfl) ?_
    refine lv_iload_n hE.1 hE.2.1 dX9_plays_2 rfl (lv_at hl 2 rfl) ?_
    refine lv_iload_n hE.1 hE.2.1 dX9_plays_3 rfl (lv_at hl 3 rfl) ?_
    refine lv_iload hE.1 hE.2.1 dX9_plays_4 (lv_at hl 4 rfl) ?_
    refine lv_iload hE.1 hE.2.1 dX9_plays_6 (lv_at hl 5 rfl) ?_
    refine x_vp (nn := 5) (As := [.int (iI (z_1)), .int (iI (z_2)), .int (iI (z_3)), .int (iI (z_4)), .int (iI (z_5))]) (rest := []) hE (s_X9_stateOf_e l D K ad v ar al hI  (z_1) (by omega) (z_2) (by omega) (z_3) (by omega) (z_4) (by omega) (z_5) (by omega)) wPre_blind (wPre_now hK hN hP) (x_recv hK hP 0 (by decide) (yG_9 rfl) rfl) rfl mw_1895 mw_1897 mw_98 mw_123 mw_1898 (by decide +kernel) ⟨by simp only [rmD]; omega, by simp only [rmD]; omega⟩ hl.1 rfl (Nat.le_of_ble_eq_true rfl) ⟨Nat.zero_le _, Nat.zero_le _⟩ dX9_plays_8 (fun r1 hr1 => ?_)
    obtain ⟨z1, hz1, rfl⟩ := hr1
    refine lv_istore (lv' := [(6, .int (iI (z1))), (0, .ref (ad 0)), (1, .int (iI (z_1))), (2, .int (iI (z_2))), (3, .int (iI (z_3))), (4, .int (iI (z_4))), (5, .int (iI (z_5)))]) hE.1 hE.2.1 dX9_plays_11 hl (by decide) rfl (fun ls hl => ?_)
    refine lv_aload_n hE.1 hE.2.1 dX9_plays_13 rfl (lv_at hl 1 rfl) ?_
    refine x_get (x := .ref (ad 18)) hE hK hP 0 (by decide) (yG_9 rfl) rfl hin9 43 (by decide) mw_1377 rfl dX9_plays_14 ?_
    refine lv_iload hE.1 hE.2.1 dX9_plays_17 (lv_at hl 0 rfl) ?_
    refine x_iald (j := iI (z1)) hE hK hP 18 (by decide) (yG_10 rfl) (iI_in (n := 163840) (by omega)) dX9_plays_19 ?_
    obtain ⟨z3, hz3, ez3⟩ := iI_of (ar 18 (iI (z1)).toNatClampNeg)
    refine x_top ez3 ?_
    refine s_if_eq (a := z3) (tgt := 31) hE.1 hE.2.1 (by omega) dX9_plays_20 (by decide) (fun c4 => ?_) (fun c4 => ?_)
    · skip
      refine lv_iconst (v := iI (1)) hE.1 hE.2.1 dX9_plays_31 (by decide) ?_
      refine lv_istore (lv' := [(7, .int (iI (1))), (6, .int (iI (z1))), (0, .ref (ad 0)), (1, .int (iI (z_1))), (2, .int (iI (z_2))), (3, .int (iI (z_3))), (4, .int (iI (z_4))), (5, .int (iI (z_5)))]) hE.1 hE.2.1 dX9_plays_32 hl (by decide) rfl (fun ls hl => ?_)
      refine lv_iconst (v := iI (0)) hE.1 hE.2.1 dX9_plays_34 (by decide) ?_
      refine lv_istore (lv' := [(8, .int (iI (0))), (7, .int (iI (1))), (6, .int (iI (z1))), (0, .ref (ad 0)), (1, .int (iI (z_1))), (2, .int (iI (z_2))), (3, .int (iI (z_3))), (4, .int (iI (z_4))), (5, .int (iI (z_5)))]) hE.1 hE.2.1 dX9_plays_35 hl (by decide) rfl (fun ls hl => ?_)
      refine lv_iconst (v := iI (0)) hE.1 hE.2.1 dX9_plays_37 (by decide) ?_
      refine lv_istore (lv' := [(9, .int (iI (0))), (8, .int (iI (0))), (7, .int (iI (1))), (6, .int (iI (z1))), (0, .ref (ad 0)), (1, .int (iI (z_1))), (2, .int (iI (z_2))), (3, .int (iI (z_3))), (4, .int (iI (z_4))), (5, .int (iI (z_5)))]) hE.1 hE.2.1 dX9_plays_38 hl (by decide) rfl (fun ls hl => ?_)
      have loop5 : ∀ (k5 : Nat) (y5_9 : Int) (y5_8 : Int) (y5_7 : Int) (vl5 arl5 : sI) (all5 : sL) (H : Heap) (locs : List Loc) (ls : Array Slot), (10 - y5_9).toNat = k5 → (0 ≤ y5_9 ∧ y5_9 ≤ 10) → (-2147483648 ≤ y5_8 ∧ y5_8 ≤ 2147483647) → (-2147483648 ≤ y5_7 ∧ y5_7 ≤ 2147483647) → YI vl5 arl5 → (∀ i j : Nat, (i, j) ∉ ([] : List (Nat × Nat)) → vl5 i j = v i j) → (∀ i : Nat, i ∉ ([18] : List Nat) → arl5 i = ar i) → (∀ i : Nat, i ∉ ([] : List Nat) → all5 i = al i) → va_P D xcl (wW ad (yG ad K) 21 vl5 arl5 all5) H → va_S (inW ad 21) s.heap H locs → lv_has ls 12 [(9, .int (iI (y5_9))), (8, .int (iI (y5_8))), (7, .int (iI (y5_7))), (6, .int (iI (z1))), (0, .ref (ad 0)), (1, .int (iI (z_1))), (2, .int (iI (z_2))), (3, .int (iI (z_3))), (4, .int (iI (z_4))), (5, .int (iI (z_5)))] → W p l e (rmD (4 + 2 * (k + 1))) s m args below meth c H locs 0 0 Q (F0 m 40 ls []) := by
        intro k5
        induction k5 using Nat.strongRecOn with
        | _ k5 ih5 =>
          intro y5_9 y5_8 y5_7  vl5 arl5 all5 H locs ls hk5 hb_y5_9 hb_y5_8 hb_y5_7 hI hfr5 hfa5 hfl5 hP hS hl
          refine lv_iload hE.1 hE.2.1 dX9_plays_40 (lv_at hl 0 rfl) ?_
          refine lv_bipush (v := iI (9)) hE.1 hE.2.1 dX9_plays_42 (by decide) ?_
          refine s_icmp_gt (a := y5_9) (b := 9) (tgt := 129) hE.1 hE.2.1 (by omega) (by omega) dX9_plays_44 (by decide) (fun c6 => ?_) (fun c6 => ?_)
          · skip
            refine lv_aload_n hE.1 hE.2.1 dX9_plays_129 rfl (lv_at hl 4 rfl) ?_
            refine x_get (x := .ref (ad 18)) hE hK hP 0 (by decide) (yG_9 rfl) rfl hin9 43 (by decide) mw_1377 rfl dX9_plays_130 ?_
            refine lv_iload hE.1 hE.2.1 dX9_plays_133 (lv_at hl 3 rfl) ?_
            refine lv_iload hE.1 hE.2.1 dX9_plays_135 (lv_at hl 2 rfl) ?_
            refine x_iast (j := iI (z1)) hE hK hN hP hS 18 (by decide) (fun _ => yG_10 rfl) (iI_in (n := 163840) (by omega)) dX9_plays_137 (fun ar7 H locs ha7 hP hS => ?_)
            have hI := YI_ast hI ha7 (by decide)
            refine lv_iload hE.1 hE.2.1 dX9_plays_138 (lv_at hl 2 rfl) ?_
            exact kr _ vl5 ar7 all5 _ _ _ _ rfl ⟨⟨y5_7, by omega, rfl⟩, hI, fun i j h => (hfr5 i j (fun q => h (mem_sub (by decide) q))), fun i h => ((upx_ne ha7 i (fun q => h (by rw [q]; decide))).trans (hfa5 i (fun q => h (mem_subn (by decide) q)))), fun i h => (hfl5 i (fun q => h (mem_subn (by decide) q)))⟩ hP hS dX9_plays_140
          · skip
            refine lv_aload_n hE.1 hE.2.1 dX9_plays_47 rfl (lv_at hl 4 rfl) ?_
            refine lv_iload_n hE.1 hE.2.1 dX9_plays_48 rfl (lv_at hl 5 rfl) ?_
            refine lv_iload_n hE.1 hE.2.1 dX9_plays_49 rfl (lv_at hl 6 rfl) ?_
            refine lv_iload_n hE.1 hE.2.1 dX9_plays_50 rfl (lv_at hl 7 rfl) ?_
            refine lv_iload hE.1 hE.2.1 dX9_plays_51 (lv_at hl 8 rfl) ?_
            refine lv_iload hE.1 hE.2.1 dX9_plays_53 (lv_at hl 9 rfl) ?_
            refine lv_iload hE.1 hE.2.1 dX9_plays_55 (lv_at hl 0 rfl) ?_
            refine x_vi (nn := 6) (As := [.int (iI (z_1)), .int (iI (z_2)), .int (iI (z_3)), .int (iI (z_4)), .int (iI (z_5)), .int (iI (y5_9))]) (rest := []) hE hK hN hP hS (s_X9_act l D K ad (k + 1) (fun k1 h1 => by obtain rfl : k = k1 := Nat.succ.inj h1; exact ih) vl5 arl5 all5 hI  (z_1) (by omega) (z_2) (by omega) (z_3) (by omega) (z_4) (by omega) (z_5) (by omega) (y5_9) (by omega) (by omega)) (x_recv hK hP 0 (by decide) (yG_9 rfl) rfl) rfl mw_1899 mw_1901 mw_99 mw_123 mw_1902 (by decide +kernel) ⟨by simp only [rmD]; omega, by simp only [rmD]; omega⟩ hl.1 rfl (Nat.le_of_ble_eq_true rfl) ⟨Nat.zero_le _, Nat.zero_le _⟩ dX9_plays_57 (fun r8 v8 ar8 al8 H locs hq8 hP hS => ?_)
            obtain ⟨⟨z8, hz8, rfl⟩, hI, hq8, hqa8, hql8⟩ := hq8
            have hI : YI v8 ar8 := hI
            refine lv_istore (lv' := [(10, .int (iI (z8))), (9, .int (iI (y5_9))), (8, .int (iI (y5_8))), (7, .int (iI (y5_7))), (6, .int (iI (z1))), (0, .ref (ad 0)), (1, .int (iI (z_1))), (2, .int (iI (z_2))), (3, .int (iI (z_3))), (4, .int (iI (z_4))), (5, .int (iI (z_5)))]) hE.1 hE.2.1 dX9_plays_60 hl (by decide) rfl (fun ls hl => ?_)
            refine lv_iload hE.1 hE.2.1 dX9_plays_62 (lv_at hl 0 rfl) ?_
            refine s_if_ne (a := z8) (tgt := 70) hE.1 hE.2.1 (by omega) dX9_plays_64 (by decide) (fun c9 => ?_) (fun c9 => ?_)
            · skip
              refine lv_iload hE.1 hE.2.1 dX9_plays_70 (lv_at hl 0 rfl) ?_
              refine lv_bipush (v := iI (100)) hE.1 hE.2.1 dX9_plays_72 (by decide) ?_
              refine s_icmp_le (a := z8) (b := 100) (tgt := 87) hE.1 hE.2.1 (by omega) (by omega) dX9_plays_74 (by decide) (fun c10 => ?_) (fun c10 => ?_)
              · skip
                refine lv_iload hE.1 hE.2.1 dX9_plays_87 (lv_at hl 0 rfl) ?_
                refine lv_iconst (v := iI (1)) hE.1 hE.2.1 dX9_plays_89 (by decide) ?_
                refine lv_iadd hE.1 hE.2.1 dX9_plays_90 ?_
                refine x_top (y := iI (z8 + 1)) ((iI_add (z8) (1)).trans (congrArg iI (by omega))) ?_
                refine lv_bipush (v := iI (100)) hE.1 hE.2.1 dX9_plays_91 (by decide) ?_
                refine lv_iadd hE.1 hE.2.1 dX9_plays_93 ?_
                refine x_top (y := iI (z8 + 101)) ((iI_add (z8 + 1) (100)).trans (congrArg iI (by omega))) ?_
                refine lv_istore (lv' := [(11, .int (iI (z8 + 101))), (10, .int (iI (z8))), (9, .int (iI (y5_9))), (8, .int (iI (y5_8))), (7, .int (iI (y5_7))), (6, .int (iI (z1))), (0, .ref (ad 0)), (1, .int (iI (z_1))), (2, .int (iI (z_2))), (3, .int (iI (z_3))), (4, .int (iI (z_4))), (5, .int (iI (z_5)))]) hE.1 hE.2.1 dX9_plays_94 hl (by decide) rfl (fun ls hl => ?_)
                refine lv_iload hE.1 hE.2.1 dX9_plays_96 (lv_at hl 3 rfl) ?_
                refine s_if_eq (a := y5_8) (tgt := 111) hE.1 hE.2.1 (by omega) dX9_plays_98 (by decide) (fun c11 => ?_) (fun c11 => ?_)
                · skip
                  refine lv_iload hE.1 hE.2.1 dX9_plays_111 (lv_at hl 0 rfl) ?_
                  refine lv_goto (tgt := 118) hE.1 hE.2.1 dX9_plays_113 (by decide) ?_
                  refine lv_istore (lv' := [(7, .int (iI (z8 + 101))), (11, .int (iI (z8 + 101))), (10, .int (iI (z8))), (9, .int (iI (y5_9))), (8, .int (iI (y5_8))), (6, .int (iI (z1))), (0, .ref (ad 0)), (1, .int (iI (z_1))), (2, .int (iI (z_2))), (3, .int (iI (z_3))), (4, .int (iI (z_4))), (5, .int (iI (z_5)))]) hE.1 hE.2.1 dX9_plays_118 hl (by decide) rfl (fun ls hl => ?_)
                  refine lv_iconst (v := iI (1)) hE.1 hE.2.1 dX9_plays_120 (by decide) ?_
                  refine lv_istore (lv' := [(8, .int (iI (1))), (7, .int (iI (z8 + 101))), (11, .int (iI (z8 + 101))), (10, .int (iI (z8))), (9, .int (iI (y5_9))), (6, .int (iI (z1))), (0, .ref (ad 0)), (1, .int (iI (z_1))), (2, .int (iI (z_2))), (3, .int (iI (z_3))), (4, .int (iI (z_4))), (5, .int (iI (z_5)))]) hE.1 hE.2.1 dX9_plays_121 hl (by decide) rfl (fun ls hl => ?_)
                  refine lv_iinc (v := iI (y5_9 + 1)) (lv' := [(9, .int (iI (y5_9 + 1))), (8, .int (iI (1))), (7, .int (iI (z8 + 101))), (11, .int (iI (z8 + 101))), (10, .int (iI (z8))), (6, .int (iI (z1))), (0, .ref (ad 0)), (1, .int (iI (z_1))), (2, .int (iI (z_2))), (3, .int (iI (z_3))), (4, .int (iI (z_4))), (5, .int (iI (z_5)))]) hE.1 hE.2.1 dX9_plays_123 hl (k := 4) rfl ((iI_add (y5_9) (1)).trans (congrArg iI (by omega))) (by decide) rfl (fun ls hl => ?_)
                  refine lv_goto (tgt := 40) hE.1 hE.2.1 dX9_plays_126 (by decide) ?_
                  exact ih5 _ (by omega) (y5_9 + 1) (1) (z8 + 101)  v8 ar8 al8 _ _ _ rfl (by omega) (by omega) (by omega)  hI (fun i j h => ((hq8 i j (fun q => h (mem_sub (by decide) q))).trans (hfr5 i j h))) (fun i h => ((hqa8 i (fun q => h (mem_subn (by decide) q))).trans (hfa5 i h))) (fun i h => ((hql8 i (fun q => h (mem_subn (by decide) q))).trans (hfl5 i h))) hP hS (lv_sub hl [0, 1, 2, 5, 6, 7, 8, 9, 10, 11] rfl)
                · skip
                  refine lv_iload hE.1 hE.2.1 dX9_plays_101 (lv_at hl 0 rfl) ?_
                  refine lv_iload hE.1 hE.2.1 dX9_plays_103 (lv_at hl 4 rfl) ?_
                  refine x_sp (nn := 2) (As := [.int (iI (z8 + 101)), .int (iI (y5_7))]) (rest := []) hE (s_X9_isBetter_e l (z8 + 101) (by omega) (y5_7) (by omega)) tt_blind (fun _ _ _ => trivial) rfl mw_1907 mw_1908 mw_123 mw_1909 (by decide +kernel) ⟨by simp only [rmD]; omega, by simp only [rmD]; omega⟩ hl.1 rfl (Nat.le_of_ble_eq_true rfl) ⟨Nat.zero_le _, Nat.zero_le _⟩ dX9_plays_105 (fun r12 hr12 => ?_)
                  obtain ⟨z12, hz12, rfl⟩ := hr12
                  refine s_if_eq (a := z12) (tgt := 116) hE.1 hE.2.1 (by omega) dX9_plays_108 (by decide) (fun c13 => ?_) (fun c13 => ?_)
                  · skip
                    refine lv_iload hE.1 hE.2.1 dX9_plays_116 (lv_at hl 4 rfl) ?_
                    refine lv_istore (lv' := [(7, .int (iI (y5_7))), (11, .int (iI (z8 + 101))), (10, .int (iI (z8))), (9, .int (iI (y5_9))), (8, .int (iI (y5_8))), (6, .int (iI (z1))), (0, .ref (ad 0)), (1, .int (iI (z_1))), (2, .int (iI (z_2))), (3, .int (iI (z_3))), (4, .int (iI (z_4))), (5, .int (iI (z_5)))]) hE.1 hE.2.1 dX9_plays_118 hl (by decide) rfl (fun ls hl => ?_)
                    refine lv_iconst (v := iI (1)) hE.1 hE.2.1 dX9_plays_120 (by decide) ?_
                    refine lv_istore (lv' := [(8, .int (iI (1))), (7, .int (iI (y5_7))), (11, .int (iI (z8 + 101))), (10, .int (iI (z8))), (9, .int (iI (y5_9))), (6, .int (iI (z1))), (0, .ref (ad 0)), (1, .int (iI (z_1))), (2, .int (iI (z_2))), (3, .int (iI (z_3))), (4, .int (iI (z_4))), (5, .int (iI (z_5)))]) hE.1 hE.2.1 dX9_plays_121 hl (by decide) rfl (fun ls hl => ?_)
                    refine lv_iinc (v := iI (y5_9 + 1)) (lv' := [(9, .int (iI (y5_9 + 1))), (8, .int (iI (1))), (7, .int (iI (y5_7))), (11, .int (iI (z8 + 101))), (10, .int (iI (z8))), (6, .int (iI (z1))), (0, .ref (ad 0)), (1, .int (iI (z_1))), (2, .int (iI (z_2))), (3, .int (iI (z_3))), (4, .int (iI (z_4))), (5, .int (iI (z_5)))]) hE.1 hE.2.1 dX9_plays_123 hl (k := 4) rfl ((iI_add (y5_9) (1)).trans (congrArg iI (by omega))) (by decide) rfl (fun ls hl => ?_)
                    refine lv_goto (tgt := 40) hE.1 hE.2.1 dX9_plays_126 (by decide) ?_
                    exact ih5 _ (by omega) (y5_9 + 1) (1) (y5_7)  v8 ar8 al8 _ _ _ rfl (by omega) (by omega) (by omega)  hI (fun i j h => ((hq8 i j (fun q => h (mem_sub (by decide) q))).trans (hfr5 i j h))) (fun i h => ((hqa8 i (fun q => h (mem_subn (by decide) q))).trans (hfa5 i h))) (fun i h => ((hql8 i (fun q => h (mem_subn (by decide) q))).trans (hfl5 i h))) hP hS (lv_sub hl [0, 1, 2, 5, 6, 7, 8, 9, 10, 11] rfl)
                  · skip
                    refine lv_iload hE.1 hE.2.1 dX9_plays_111 (lv_at hl 0 rfl) ?_
                    refine lv_goto (tgt := 118) hE.1 hE.2.1 dX9_plays_113 (by decide) ?_
                    refine lv_istore (lv' := [(7, .int (iI (z8 + 101))), (11, .int (iI (z8 + 101))), (10, .int (iI (z8))), (9, .int (iI (y5_9))), (8, .int (iI (y5_8))), (6, .int (iI (z1))), (0, .ref (ad 0)), (1, .int (iI (z_1))), (2, .int (iI (z_2))), (3, .int (iI (z_3))), (4, .int (iI (z_4))), (5, .int (iI (z_5)))]) hE.1 hE.2.1 dX9_plays_118 hl (by decide) rfl (fun ls hl => ?_)
                    refine lv_iconst (v := iI (1)) hE.1 hE.2.1 dX9_plays_120 (by decide) ?_
                    refine lv_istore (lv' := [(8, .int (iI (1))), (7, .int (iI (z8 + 101))), (11, .int (iI (z8 + 101))), (10, .int (iI (z8))), (9, .int (iI (y5_9))), (6, .int (iI (z1))), (0, .ref (ad 0)), (1, .int (iI (z_1))), (2, .int (iI (z_2))), (3, .int (iI (z_3))), (4, .int (iI (z_4))), (5, .int (iI (z_5)))]) hE.1 hE.2.1 dX9_plays_121 hl (by decide) rfl (fun ls hl => ?_)
                    refine lv_iinc (v := iI (y5_9 + 1)) (lv' := [(9, .int (iI (y5_9 + 1))), (8, .int (iI (1))), (7, .int (iI (z8 + 101))), (11, .int (iI (z8 + 101))), (10, .int (iI (z8))), (6, .int (iI (z1))), (0, .ref (ad 0)), (1, .int (iI (z_1))), (2, .int (iI (z_2))), (3, .int (iI (z_3))), (4, .int (iI (z_4))), (5, .int (iI (z_5)))]) hE.1 hE.2.1 dX9_plays_123 hl (k := 4) rfl ((iI_add (y5_9) (1)).trans (congrArg iI (by omega))) (by decide) rfl (fun ls hl => ?_)
                    refine lv_goto (tgt := 40) hE.1 hE.2.1 dX9_plays_126 (by decide) ?_
                    exact ih5 _ (by omega) (y5_9 + 1) (1) (z8 + 101)  v8 ar8 al8 _ _ _ rfl (by omega) (by omega) (by omega)  hI (fun i j h => ((hq8 i j (fun q => h (mem_sub (by decide) q))).trans (hfr5 i j h))) (fun i h => ((hqa8 i (fun q => h (mem_subn (by decide) q))).trans (hfa5 i h))) (fun i h => ((hql8 i (fun q => h (mem_subn (by decide) q))).trans (hfl5 i h))) hP hS (lv_sub hl [0, 1, 2, 5, 6, 7, 8, 9, 10, 11] rfl)
              · skip
                refine lv_iload hE.1 hE.2.1 dX9_plays_77 (lv_at hl 0 rfl) ?_
                refine lv_bipush (v := iI (100)) hE.1 hE.2.1 dX9_plays_79 (by decide) ?_
                refine lv_isub hE.1 hE.2.1 dX9_plays_81 ?_
                refine x_top (y := iI (z8 - 100)) ((iI_sub (z8) (100)).trans (congrArg iI (by omega))) ?_
                refine lv_iconst (v := iI (1)) hE.1 hE.2.1 dX9_plays_82 (by decide) ?_
                refine lv_iadd hE.1 hE.2.1 dX9_plays_83 ?_
                refine x_top (y := iI (z8 - 99)) ((iI_add (z8 - 100) (1)).trans (congrArg iI (by omega))) ?_
                refine lv_goto (tgt := 94) hE.1 hE.2.1 dX9_plays_84 (by decide) ?_
                refine lv_istore (lv' := [(11, .int (iI (z8 - 99))), (10, .int (iI (z8))), (9, .int (iI (y5_9))), (8, .int (iI (y5_8))), (7, .int (iI (y5_7))), (6, .int (iI (z1))), (0, .ref (ad 0)), (1, .int (iI (z_1))), (2, .int (iI (z_2))), (3, .int (iI (z_3))), (4, .int (iI (z_4))), (5, .int (iI (z_5)))]) hE.1 hE.2.1 dX9_plays_94 hl (by decide) rfl (fun ls hl => ?_)
                refine lv_iload hE.1 hE.2.1 dX9_plays_96 (lv_at hl 3 rfl) ?_
                refine s_if_eq (a := y5_8) (tgt := 111) hE.1 hE.2.1 (by omega) dX9_plays_98 (by decide) (fun c14 => ?_) (fun c14 => ?_)
                · skip
                  refine lv_iload hE.1 hE.2.1 dX9_plays_111 (lv_at hl 0 rfl) ?_
                  refine lv_goto (tgt := 118) hE.1 hE.2.1 dX9_plays_113 (by decide) ?_
                  refine lv_istore (lv' := [(7, .int (iI (z8 - 99))), (11, .int (iI (z8 - 99))), (10, .int (iI (z8))), (9, .int (iI (y5_9))), (8, .int (iI (y5_8))), (6, .int (iI (z1))), (0, .ref (ad 0)), (1, .int (iI (z_1))), (2, .int (iI (z_2))), (3, .int (iI (z_3))), (4, .int (iI (z_4))), (5, .int (iI (z_5)))]) hE.1 hE.2.1 dX9_plays_118 hl (by decide) rfl (fun ls hl => ?_)
                  refine lv_iconst (v := iI (1)) hE.1 hE.2.1 dX9_plays_120 (by decide) ?_
                  refine lv_istore (lv' := [(8, .int (iI (1))), (7, .int (iI (z8 - 99))), (11, .int (iI (z8 - 99))), (10, .int (iI (z8))), (9, .int (iI (y5_9))), (6, .int (iI (z1))), (0, .ref (ad 0)), (1, .int (iI (z_1))), (2, .int (iI (z_2))), (3, .int (iI (z_3))), (4, .int (iI (z_4))), (5, .int (iI (z_5)))]) hE.1 hE.2.1 dX9_plays_121 hl (by decide) rfl (fun ls hl => ?_)
                  refine lv_iinc (v := iI (y5_9 + 1)) (lv' := [(9, .int (iI (y5_9 + 1))), (8, .int (iI (1))), (7, .int (iI (z8 - 99))), (11, .int (iI (z8 - 99))), (10, .int (iI (z8))), (6, .int (iI (z1))), (0, .ref (ad 0)), (1, .int (iI (z_1))), (2, .int (iI (z_2))), (3, .int (iI (z_3))), (4, .int (iI (z_4))), (5, .int (iI (z_5)))]) hE.1 hE.2.1 dX9_plays_123 hl (k := 4) rfl ((iI_add (y5_9) (1)).trans (congrArg iI (by omega))) (by decide) rfl (fun ls hl => ?_)
                  refine lv_goto (tgt := 40) hE.1 hE.2.1 dX9_plays_126 (by decide) ?_
                  exact ih5 _ (by omega) (y5_9 + 1) (1) (z8 - 99)  v8 ar8 al8 _ _ _ rfl (by omega) (by omega) (by omega)  hI (fun i j h => ((hq8 i j (fun q => h (mem_sub (by decide) q))).trans (hfr5 i j h))) (fun i h => ((hqa8 i (fun q => h (mem_subn (by decide) q))).trans (hfa5 i h))) (fun i h => ((hql8 i (fun q => h (mem_subn (by decide) q))).trans (hfl5 i h))) hP hS (lv_sub hl [0, 1, 2, 5, 6, 7, 8, 9, 10, 11] rfl)
                · skip
                  refine lv_iload hE.1 hE.2.1 dX9_plays_101 (lv_at hl 0 rfl) ?_
                  refine lv_iload hE.1 hE.2.1 dX9_plays_103 (lv_at hl 4 rfl) ?_
                  refine x_sp (nn := 2) (As := [.int (iI (z8 - 99)), .int (iI (y5_7))]) (rest := []) hE (s_X9_isBetter_e l (z8 - 99) (by omega) (y5_7) (by omega)) tt_blind (fun _ _ _ => trivial) rfl mw_1907 mw_1908 mw_123 mw_1909 (by decide +kernel) ⟨by simp only [rmD]; omega, by simp only [rmD]; omega⟩ hl.1 rfl (Nat.le_of_ble_eq_true rfl) ⟨Nat.zero_le _, Nat.zero_le _⟩ dX9_plays_105 (fun r15 hr15 => ?_)
                  obtain ⟨z15, hz15, rfl⟩ := hr15
                  refine s_if_eq (a := z15) (tgt := 116) hE.1 hE.2.1 (by omega) dX9_plays_108 (by decide) (fun c16 => ?_) (fun c16 => ?_)
                  · skip
                    refine lv_iload hE.1 hE.2.1 dX9_plays_116 (lv_at hl 4 rfl) ?_
                    refine lv_istore (lv' := [(7, .int (iI (y5_7))), (11, .int (iI (z8 - 99))), (10, .int (iI (z8))), (9, .int (iI (y5_9))), (8, .int (iI (y5_8))), (6, .int (iI (z1))), (0, .ref (ad 0)), (1, .int (iI (z_1))), (2, .int (iI (z_2))), (3, .int (iI (z_3))), (4, .int (iI (z_4))), (5, .int (iI (z_5)))]) hE.1 hE.2.1 dX9_plays_118 hl (by decide) rfl (fun ls hl => ?_)
                    refine lv_iconst (v := iI (1)) hE.1 hE.2.1 dX9_plays_120 (by decide) ?_
                    refine lv_istore (lv' := [(8, .int (iI (1))), (7, .int (iI (y5_7))), (11, .int (iI (z8 - 99))), (10, .int (iI (z8))), (9, .int (iI (y5_9))), (6, .int (iI (z1))), (0, .ref (ad 0)), (1, .int (iI (z_1))), (2, .int (iI (z_2))), (3, .int (iI (z_3))), (4, .int (iI (z_4))), (5, .int (iI (z_5)))]) hE.1 hE.2.1 dX9_plays_121 hl (by decide) rfl (fun ls hl => ?_)
                    refine lv_iinc (v := iI (y5_9 + 1)) (lv' := [(9, .int (iI (y5_9 + 1))), (8, .int (iI (1))), (7, .int (iI (y5_7))), (11, .int (iI (z8 - 99))), (10, .int (iI (z8))), (6, .int (iI (z1))), (0, .ref (ad 0)), (1, .int (iI (z_1))), (2, .int (iI (z_2))), (3, .int (iI (z_3))), (4, .int (iI (z_4))), (5, .int (iI (z_5)))]) hE.1 hE.2.1 dX9_plays_123 hl (k := 4) rfl ((iI_add (y5_9) (1)).trans (congrArg iI (by omega))) (by decide) rfl (fun ls hl => ?_)
                    refine lv_goto (tgt := 40) hE.1 hE.2.1 dX9_plays_126 (by decide) ?_
                    exact ih5 _ (by omega) (y5_9 + 1) (1) (y5_7)  v8 ar8 al8 _ _ _ rfl (by omega) (by omega) (by omega)  hI (fun i j h => ((hq8 i j (fun q => h (mem_sub (by decide) q))).trans (hfr5 i j h))) (fun i h => ((hqa8 i (fun q => h (mem_subn (by decide) q))).trans (hfa5 i h))) (fun i h => ((hql8 i (fun q => h (mem_subn (by decide) q))).trans (hfl5 i h))) hP hS (lv_sub hl [0, 1, 2, 5, 6, 7, 8, 9, 10, 11] rfl)
                  · skip
                    refine lv_iload hE.1 hE.2.1 dX9_plays_111 (lv_at hl 0 rfl) ?_
                    refine lv_goto (tgt := 118) hE.1 hE.2.1 dX9_plays_113 (by decide) ?_
                    refine lv_istore (lv' := [(7, .int (iI (z8 - 99))), (11, .int (iI (z8 - 99))), (10, .int (iI (z8))), (9, .int (iI (y5_9))), (8, .int (iI (y5_8))), (6, .int (iI (z1))), (0, .ref (ad 0)), (1, .int (iI (z_1))), (2, .int (iI (z_2))), (3, .int (iI (z_3))), (4, .int (iI (z_4))), (5, .int (iI (z_5)))]) hE.1 hE.2.1 dX9_plays_118 hl (by decide) rfl (fun ls hl => ?_)
                    refine lv_iconst (v := iI (1)) hE.1 hE.2.1 dX9_plays_120 (by decide) ?_
                    refine lv_istore (lv' := [(8, .int (iI (1))), (7, .int (iI (z8 - 99))), (11, .int (iI (z8 - 99))), (10, .int (iI (z8))), (9, .int (iI (y5_9))), (6, .int (iI (z1))), (0, .ref (ad 0)), (1, .int (iI (z_1))), (2, .int (iI (z_2))), (3, .int (iI (z_3))), (4, .int (iI (z_4))), (5, .int (iI (z_5)))]) hE.1 hE.2.1 dX9_plays_121 hl (by decide) rfl (fun ls hl => ?_)
                    refine lv_iinc (v := iI (y5_9 + 1)) (lv' := [(9, .int (iI (y5_9 + 1))), (8, .int (iI (1))), (7, .int (iI (z8 - 99))), (11, .int (iI (z8 - 99))), (10, .int (iI (z8))), (6, .int (iI (z1))), (0, .ref (ad 0)), (1, .int (iI (z_1))), (2, .int (iI (z_2))), (3, .int (iI (z_3))), (4, .int (iI (z_4))), (5, .int (iI (z_5)))]) hE.1 hE.2.1 dX9_plays_123 hl (k := 4) rfl ((iI_add (y5_9) (1)).trans (congrArg iI (by omega))) (by decide) rfl (fun ls hl => ?_)
                    refine lv_goto (tgt := 40) hE.1 hE.2.1 dX9_plays_126 (by decide) ?_
                    exact ih5 _ (by omega) (y5_9 + 1) (1) (z8 - 99)  v8 ar8 al8 _ _ _ rfl (by omega) (by omega) (by omega)  hI (fun i j h => ((hq8 i j (fun q => h (mem_sub (by decide) q))).trans (hfr5 i j h))) (fun i h => ((hqa8 i (fun q => h (mem_subn (by decide) q))).trans (hfa5 i h))) (fun i h => ((hql8 i (fun q => h (mem_subn (by decide) q))).trans (hfl5 i h))) hP hS (lv_sub hl [0, 1, 2, 5, 6, 7, 8, 9, 10, 11] rfl)
            · skip
              refine lv_goto (tgt := 123) hE.1 hE.2.1 dX9_plays_67 (by decide) ?_
              refine lv_iinc (v := iI (y5_9 + 1)) (lv' := [(9, .int (iI (y5_9 + 1))), (10, .int (iI (z8))), (8, .int (iI (y5_8))), (7, .int (iI (y5_7))), (6, .int (iI (z1))), (0, .ref (ad 0)), (1, .int (iI (z_1))), (2, .int (iI (z_2))), (3, .int (iI (z_3))), (4, .int (iI (z_4))), (5, .int (iI (z_5)))]) hE.1 hE.2.1 dX9_plays_123 hl (k := 1) rfl ((iI_add (y5_9) (1)).trans (congrArg iI (by omega))) (by decide) rfl (fun ls hl => ?_)
              refine lv_goto (tgt := 40) hE.1 hE.2.1 dX9_plays_126 (by decide) ?_
              exact ih5 _ (by omega) (y5_9 + 1) (y5_8) (y5_7)  v8 ar8 al8 _ _ _ rfl (by omega) (by omega) (by omega)  hI (fun i j h => ((hq8 i j (fun q => h (mem_sub (by decide) q))).trans (hfr5 i j h))) (fun i h => ((hqa8 i (fun q => h (mem_subn (by decide) q))).trans (hfa5 i h))) (fun i h => ((hql8 i (fun q => h (mem_subn (by decide) q))).trans (hfl5 i h))) hP hS (lv_sub hl [0, 2, 3, 4, 5, 6, 7, 8, 9, 10] rfl)
      exact loop5 _ (0) (0) (1)  v ar al _ _ _ rfl (by omega) (by omega) (by omega)  hI (fun _ _ _ => rfl) (fun _ _ => rfl) (fun _ _ => rfl) hP hS hl
    · skip
      refine lv_aload_n hE.1 hE.2.1 dX9_plays_23 rfl (lv_at hl 1 rfl) ?_
      refine x_get (x := .ref (ad 18)) hE hK hP 0 (by decide) (yG_9 rfl) rfl hin9 43 (by decide) mw_1377 rfl dX9_plays_24 ?_
      refine lv_iload hE.1 hE.2.1 dX9_plays_27 (lv_at hl 0 rfl) ?_
      refine x_iald (j := iI (z1)) hE hK hP 18 (by decide) (yG_10 rfl) (iI_in (n := 163840) (by omega)) dX9_plays_29 ?_
      refine x_top ez3 ?_
      exact kr _ v ar al _ _ _ _ rfl ⟨⟨z3, by omega, rfl⟩, hI, fun i j h => rfl, fun i h => rfl, fun i h => rfl⟩ hP hS dX9_plays_30
