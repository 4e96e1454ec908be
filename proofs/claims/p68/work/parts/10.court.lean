theorem dX1_hasMotif_0 : decode cX1_hasMotif 0 = .ok (.iload_n 1, 1) := by decide +kernel
theorem dX1_hasMotif_1 : decode cX1_hasMotif 1 = .ok (.ifCond .lt 21, 3) := by decide +kernel
theorem dX1_hasMotif_4 : decode cX1_hasMotif 4 = .ok (.iload_n 1, 1) := by decide +kernel
theorem dX1_hasMotif_5 : decode cX1_hasMotif 5 = .ok (.aload_n 0, 1) := by decide +kernel
theorem dX1_hasMotif_6 : decode cX1_hasMotif 6 = .ok (.getfield 46, 3) := by decide +kernel
theorem dX1_hasMotif_9 : decode cX1_hasMotif 9 = .ok (.if_icmp .ge 13, 3) := by decide +kernel
theorem dX1_hasMotif_12 : decode cX1_hasMotif 12 = .ok (.iload_n 1, 1) := by decide +kernel
theorem dX1_hasMotif_13 : decode cX1_hasMotif 13 = .ok (.bipush 9, 2) := by decide +kernel
theorem dX1_hasMotif_15 : decode cX1_hasMotif 15 = .ok (.if_icmp .ge 7, 3) := by decide +kernel
theorem dX1_hasMotif_18 : decode cX1_hasMotif 18 = .ok (.iconst 1, 1) := by decide +kernel
theorem dX1_hasMotif_19 : decode cX1_hasMotif 19 = .ok (.goto 4, 3) := by decide +kernel
theorem dX1_hasMotif_22 : decode cX1_hasMotif 22 = .ok (.iconst 0, 1) := by decide +kernel
theorem dX1_hasMotif_23 : decode cX1_hasMotif 23 = .ok (.ireturn, 1) := by decide +kernel
set_option maxHeartbeats 4000000 in
set_option maxRecDepth 100000 in
theorem s_X1_hasMotif_3 (l : Launch) (D : va_G) (K : Nat → ClassId) (ad : Nat → Nat) (mm : Option Nat) (N : Nat) (hNN : 132 ≤ N) (v ar : sI) (al : sL) (hI : XI v) (z_1 : Int) (hz_1 : -2147483648 ≤ z_1 ∧ z_1 ≤ 2147483647) : Met l yX1_hasMotif (wM yX1_hasMotif cX1_hasMotif 2 (some .boolean)) (rmD 0) (va_Pc [.ref (ad 3), .int (iI (z_1))] (wPre D K ad (xG ad K mm) N v ar al)) (vp_Si (fun r => ∃ z : Int, (z = 0 ∨ (z = 1 ∧ 0 ≤ z_1 ∧ z_1 ≤ 8)) ∧ r = iI z)) 0 0 (fun _ => False) := by
  refine s_metP (by decide) (Nat.le_of_ble_eq_true rfl) ?_
  intro p e s m below meth c ls args Q hE hB hl kr
  have hE : CallFix p m c cX1_hasMotif 2 s args tbG "TaleCourt$Court" := hE
  obtain ⟨hP, hK, hN⟩ := hB
  have hl : lv_has ls 2 [(0, .ref (ad 3)), (1, .int (iI (z_1)))] := hl
  refine lv_iload_n hE.1 hE.2.1 dX1_hasMotif_0 rfl (lv_at hl 1 rfl) ?_
  refine s_if_lt (a := z_1) (tgt := 22) hE.1 hE.2.1 (by omega) dX1_hasMotif_1 (by decide) (fun c1 => ?_) (fun c1 => ?_)
  · skip
    refine lv_iconst (v := iI (0)) hE.1 hE.2.1 dX1_hasMotif_22 (by decide) ?_
    exact kr _ _ _ (nar01 (by omega)) ⟨0, by omega, rfl⟩ dX1_hasMotif_23
  · skip
    refine lv_iload_n hE.1 hE.2.1 dX1_hasMotif_4 rfl (lv_at hl 1 rfl) ?_
    refine lv_aload_n hE.1 hE.2.1 dX1_hasMotif_5 rfl (lv_at hl 0 rfl) ?_
    obtain ⟨z2, hz2, ez2⟩ := XI_get hI 3 2 0 9 (by decide)
    refine x_get (x := .int (v 3 2)) hE hK hP 3 (Nat.lt_of_lt_of_le (by decide) hNN) (xG_1 rfl) rfl hin1 2 (by decide) mw_187 rfl dX1_hasMotif_6 ?_
    refine x_top (y := iI (z2)) ez2 ?_
    refine s_icmp_ge (a := z_1) (b := z2) (tgt := 22) hE.1 hE.2.1 (by omega) (by omega) dX1_hasMotif_9 (by decide) (fun c3 => ?_) (fun c3 => ?_)
    · skip
      refine lv_iconst (v := iI (0)) hE.1 hE.2.1 dX1_hasMotif_22 (by decide) ?_
      exact kr _ _ _ (nar01 (by omega)) ⟨0, by omega, rfl⟩ dX1_hasMotif_23
    · skip
      refine lv_iload_n hE.1 hE.2.1 dX1_hasMotif_12 rfl (lv_at hl 1 rfl) ?_
      refine lv_bipush (v := iI (9)) hE.1 hE.2.1 dX1_hasMotif_13 (by decide) ?_
      refine s_icmp_ge (a := z_1) (b := 9) (tgt := 22) hE.1 hE.2.1 (by omega) (by omega) dX1_hasMotif_15 (by decide) (fun c4 => False.elim (by omega)) (fun _ => ?_)
      refine lv_iconst (v := iI (1)) hE.1 hE.2.1 dX1_hasMotif_18 (by decide) ?_
      refine lv_goto (tgt := 23) hE.1 hE.2.1 dX1_hasMotif_19 (by decide) ?_
      exact kr _ _ _ (nar01 (by omega)) ⟨1, by omega, rfl⟩ dX1_hasMotif_23

theorem dX8_motif_0 : decode cX8_motif 0 = .ok (.aload_n 0, 1) := by decide +kernel
theorem dX8_motif_1 : decode cX8_motif 1 = .ok (.getfield 19, 3) := by decide +kernel
theorem dX8_motif_4 : decode cX8_motif 4 = .ok (.iload_n 1, 1) := by decide +kernel
theorem dX8_motif_5 : decode cX8_motif 5 = .ok (.invokevirtual 102, 3) := by decide +kernel
theorem dX8_motif_8 : decode cX8_motif 8 = .ok (.ifCond .ne 6, 3) := by decide +kernel
theorem dX8_motif_11 : decode cX8_motif 11 = .ok (.bipush (-2), 2) := by decide +kernel
theorem dX8_motif_13 : decode cX8_motif 13 = .ok (.ireturn, 1) := by decide +kernel
theorem dX8_motif_14 : decode cX8_motif 14 = .ok (.iload_n 2, 1) := by decide +kernel
theorem dX8_motif_15 : decode cX8_motif 15 = .ok (.tableswitch 133 0 7 #[45, 55, 67, 79, 91, 101, 111, 121], 45) := by decide +kernel
theorem dX8_motif_60 : decode cX8_motif 60 = .ok (.aload_n 0, 1) := by decide +kernel
theorem dX8_motif_61 : decode cX8_motif 61 = .ok (.getfield 19, 3) := by decide +kernel
theorem dX8_motif_64 : decode cX8_motif 64 = .ok (.getfield 106, 3) := by decide +kernel
theorem dX8_motif_67 : decode cX8_motif 67 = .ok (.iload_n 1, 1) := by decide +kernel
theorem dX8_motif_68 : decode cX8_motif 68 = .ok (.iaload, 1) := by decide +kernel
theorem dX8_motif_69 : decode cX8_motif 69 = .ok (.ireturn, 1) := by decide +kernel
theorem dX8_motif_70 : decode cX8_motif 70 = .ok (.aload_n 0, 1) := by decide +kernel
theorem dX8_motif_71 : decode cX8_motif 71 = .ok (.getfield 19, 3) := by decide +kernel
theorem dX8_motif_74 : decode cX8_motif 74 = .ok (.getfield 110, 3) := by decide +kernel
theorem dX8_motif_77 : decode cX8_motif 77 = .ok (.iload_n 1, 1) := by decide +kernel
theorem dX8_motif_78 : decode cX8_motif 78 = .ok (.ishr, 1) := by decide +kernel
theorem dX8_motif_79 : decode cX8_motif 79 = .ok (.iconst 1, 1) := by decide +kernel
theorem dX8_motif_80 : decode cX8_motif 80 = .ok (.iand, 1) := by decide +kernel
theorem dX8_motif_81 : decode cX8_motif 81 = .ok (.ireturn, 1) := by decide +kernel
theorem dX8_motif_82 : decode cX8_motif 82 = .ok (.aload_n 0, 1) := by decide +kernel
theorem dX8_motif_83 : decode cX8_motif 83 = .ok (.getfield 19, 3) := by decide +kernel
theorem dX8_motif_86 : decode cX8_motif 86 = .ok (.getfield 113, 3) := by decide +kernel
theorem dX8_motif_89 : decode cX8_motif 89 = .ok (.iload_n 1, 1) := by decide +kernel
theorem dX8_motif_90 : decode cX8_motif 90 = .ok (.ishr, 1) := by decide +kernel
theorem dX8_motif_91 : decode cX8_motif 91 = .ok (.iconst 1, 1) := by decide +kernel
theorem dX8_motif_92 : decode cX8_motif 92 = .ok (.iand, 1) := by decide +kernel
theorem dX8_motif_93 : decode cX8_motif 93 = .ok (.ireturn, 1) := by decide +kernel
theorem dX8_motif_94 : decode cX8_motif 94 = .ok (.aload_n 0, 1) := by decide +kernel
theorem dX8_motif_95 : decode cX8_motif 95 = .ok (.getfield 19, 3) := by decide +kernel
theorem dX8_motif_98 : decode cX8_motif 98 = .ok (.getfield 116, 3) := by decide +kernel
theorem dX8_motif_101 : decode cX8_motif 101 = .ok (.iload_n 1, 1) := by decide +kernel
theorem dX8_motif_102 : decode cX8_motif 102 = .ok (.ishr, 1) := by decide +kernel
theorem dX8_motif_103 : decode cX8_motif 103 = .ok (.iconst 1, 1) := by decide +kernel
theorem dX8_motif_104 : decode cX8_motif 104 = .ok (.iand, 1) := by decide +kernel
theorem dX8_motif_105 : decode cX8_motif 105 = .ok (.ireturn, 1) := by decide +kernel
theorem dX8_motif_106 : decode cX8_motif 106 = .ok (.aload_n 0, 1) := by decide +kernel
theorem dX8_motif_107 : decode cX8_motif 107 = .ok (.getfield 19, 3) := by decide +kernel
theorem dX8_motif_110 : decode cX8_motif 110 = .ok (.getfield 119, 3) := by decide +kernel
theorem dX8_motif_113 : decode cX8_motif 113 = .ok (.iload_n 1, 1) := by decide +kernel
theorem dX8_motif_114 : decode cX8_motif 114 = .ok (.iaload, 1) := by decide +kernel
theorem dX8_motif_115 : decode cX8_motif 115 = .ok (.ireturn, 1) := by decide +kernel
theorem dX8_motif_116 : decode cX8_motif 116 = .ok (.aload_n 0, 1) := by decide +kernel
theorem dX8_motif_117 : decode cX8_motif 117 = .ok (.getfield 19, 3) := by decide +kernel
theorem dX8_motif_120 : decode cX8_motif 120 = .ok (.getfield 122, 3) := by decide +kernel
theorem dX8_motif_123 : decode cX8_motif 123 = .ok (.iload_n 1, 1) := by decide +kernel
theorem dX8_motif_124 : decode cX8_motif 124 = .ok (.iaload, 1) := by decide +kernel
theorem dX8_motif_125 : decode cX8_motif 125 = .ok (.ireturn, 1) := by decide +kernel
theorem dX8_motif_126 : decode cX8_motif 126 = .ok (.aload_n 0, 1) := by decide +kernel
theorem dX8_motif_127 : decode cX8_motif 127 = .ok (.getfield 19, 3) := by decide +kernel
theorem dX8_motif_130 : decode cX8_motif 130 = .ok (.getfield 125, 3) := by decide +kernel
theorem dX8_motif_133 : decode cX8_motif 133 = .ok (.iload_n 1, 1) := by decide +kernel
theorem dX8_motif_134 : decode cX8_motif 134 = .ok (.iaload, 1) := by decide +kernel
theorem dX8_motif_135 : decode cX8_motif 135 = .ok (.ireturn, 1) := by decide +kernel
theorem dX8_motif_136 : decode cX8_motif 136 = .ok (.aload_n 0, 1) := by decide +kernel
theorem dX8_motif_137 : decode cX8_motif 137 = .ok (.getfield 19, 3) := by decide +kernel
theorem dX8_motif_140 : decode cX8_motif 140 = .ok (.getfield 128, 3) := by decide +kernel
theorem dX8_motif_143 : decode cX8_motif 143 = .ok (.iload_n 1, 1) := by decide +kernel
theorem dX8_motif_144 : decode cX8_motif 144 = .ok (.ishr, 1) := by decide +kernel
theorem dX8_motif_145 : decode cX8_motif 145 = .ok (.iconst 1, 1) := by decide +kernel
theorem dX8_motif_146 : decode cX8_motif 146 = .ok (.iand, 1) := by decide +kernel
theorem dX8_motif_147 : decode cX8_motif 147 = .ok (.ireturn, 1) := by decide +kernel
theorem dX8_motif_148 : decode cX8_motif 148 = .ok (.bipush (-2), 2) := by decide +kernel
theorem dX8_motif_150 : decode cX8_motif 150 = .ok (.ireturn, 1) := by decide +kernel
set_option maxHeartbeats 4000000 in
set_option maxRecDepth 100000 in
theorem s_X8_motif_0 (l : Launch) (D : va_G) (K : Nat → ClassId) (ad : Nat → Nat) (mm : Option Nat) (N : Nat) (hNN : 132 ≤ N) (v ar : sI) (al : sL) (hI : XI v) (z_1 : Int) (hz_1 : -2147483648 ≤ z_1 ∧ z_1 ≤ 2147483647) (z_2 : Int) (hz_2 : -2147483648 ≤ z_2 ∧ z_2 ≤ 2147483647) : Met l yX8_motif (wM yX8_motif cX8_motif 3 (some .int)) (rmD 1) (va_Pc [.ref (ad 0), .int (iI (z_1)), .int (iI (z_2))] (wPre D K ad (xG ad K mm) N v ar al)) (vp_Si (fun r => ∃ z : Int, (-2147483648 ≤ z ∧ z ≤ 2147483647) ∧ r = iI z)) 0 0 (fun _ => False) := by
  refine s_metP (by decide) (Nat.le_of_ble_eq_true rfl) ?_
  intro p e s m below meth c ls args Q hE hB hl kr
  have hE : CallFix p m c cX8_motif 3 s args tbG "TaleCourt" := hE
  obtain ⟨hP, hK, hN⟩ := hB
  have hl : lv_has ls 3 [(0, .ref (ad 0)), (1, .int (iI (z_1))), (2, .int (iI (z_2)))] := hl
  refine lv_aload_n hE.1 hE.2.1 dX8_motif_0 rfl (lv_at hl 0 rfl) ?_
  refine x_get (x := .ref (ad 3)) hE hK hP 0 (Nat.lt_of_lt_of_le (by decide) hNN) (xG_8 rfl) rfl hin8 1 (by decide) mw_481 rfl dX8_motif_1 ?_
  refine lv_iload_n hE.1 hE.2.1 dX8_motif_4 rfl (lv_at hl 1 rfl) ?_
  refine x_vp (nn := 1) (As := [.int (iI (z_1))]) (rest := []) hE (s_X1_hasMotif_3 l D K ad mm N hNN v ar al hI  (z_1) (by omega)) wPre_blind (wPre_now hK hN hP) (x_recv hK hP 3 (Nat.lt_of_lt_of_le (by decide) hNN) (xG_1 rfl) rfl) rfl mw_694 mw_695 mw_696 mw_116 mw_697 (by decide +kernel) ⟨by decide, by decide⟩ hl.1 rfl (Nat.le_of_ble_eq_true rfl) ⟨Nat.zero_le _, Nat.zero_le _⟩ dX8_motif_5 (fun r1 hr1 => ?_)
  obtain ⟨z1, hz1, rfl⟩ := hr1
  refine s_if_ne (a := z1) (tgt := 14) hE.1 hE.2.1 (by omega) dX8_motif_8 (by decide) (fun c2 => ?_) (fun c2 => ?_)
  · skip
    refine lv_iload_n hE.1 hE.2.1 dX8_motif_14 rfl (lv_at hl 2 rfl) ?_
    by_cases ho3 : z_2 < 0 ∨ 7 < z_2
    · skip
      refine s_tabOut (a := z_2) (tgt := 148) hE.1 hE.2.1 (by omega) dX8_motif_15 ho3 (by decide) ?_
      refine lv_bipush (v := iI (-2)) hE.1 hE.2.1 dX8_motif_148 (by decide) ?_
      exact kr _ _ _ rfl ⟨-2, by omega, rfl⟩ dX8_motif_150
    · skip
      rcases (show z_2 = 0 ∨ z_2 = 1 ∨ z_2 = 2 ∨ z_2 = 3 ∨ z_2 = 4 ∨ z_2 = 5 ∨ z_2 = 6 ∨ z_2 = 7 by omega) with rfl | rfl | rfl | rfl | rfl | rfl | rfl | rfl
      · skip
        refine lv_tableIn (off := 45) (tgt := 60) hE.1 hE.2.1 dX8_motif_15 (by decide) (by decide) (by decide) (by decide) ?_
        refine lv_aload_n hE.1 hE.2.1 dX8_motif_60 rfl (lv_at hl 0 rfl) ?_
        refine x_get (x := .ref (ad 3)) hE hK hP 0 (Nat.lt_of_lt_of_le (by decide) hNN) (xG_8 rfl) rfl hin8 1 (by decide) mw_481 rfl dX8_motif_61 ?_
        refine x_get (x := .ref (ad 4)) hE hK hP 3 (Nat.lt_of_lt_of_le (by decide) hNN) (xG_1 rfl) rfl hin1 11 (by decide) mw_220 rfl dX8_motif_64 ?_
        refine lv_iload_n hE.1 hE.2.1 dX8_motif_67 rfl (lv_at hl 1 rfl) ?_
        refine x_iald (j := iI (z_1)) hE hK hP 4 (Nat.lt_of_lt_of_le (by decide) hNN) (xG_10 rfl) (iI_in (n := 9) (by omega)) dX8_motif_68 ?_
        obtain ⟨z5, hz5, ez5⟩ := iI_of (ar 4 (iI (z_1)).toNatClampNeg)
        refine x_top ez5 ?_
        exact kr _ _ _ rfl ⟨z5, by omega, rfl⟩ dX8_motif_69
      · skip
        refine lv_tableIn (off := 55) (tgt := 70) hE.1 hE.2.1 dX8_motif_15 (by decide) (by decide) (by decide) (by decide) ?_
        refine lv_aload_n hE.1 hE.2.1 dX8_motif_70 rfl (lv_at hl 0 rfl) ?_
        refine x_get (x := .ref (ad 3)) hE hK hP 0 (Nat.lt_of_lt_of_le (by decide) hNN) (xG_8 rfl) rfl hin8 1 (by decide) mw_481 rfl dX8_motif_71 ?_
        obtain ⟨z6, hz6, ez6⟩ := iI_of (v 3 7)
        refine x_get (x := .int (v 3 7)) hE hK hP 3 (Nat.lt_of_lt_of_le (by decide) hNN) (xG_1 rfl) rfl hin1 7 (by decide) mw_204 rfl dX8_motif_74 ?_
        refine x_top (y := iI (z6)) ez6 ?_
        refine lv_iload_n hE.1 hE.2.1 dX8_motif_77 rfl (lv_at hl 1 rfl) ?_
        refine lv_ishr hE.1 hE.2.1 dX8_motif_78 ?_
        obtain ⟨z7, hz7, ez7⟩ := iI_of (iI (z6) >>> (iI (z_1) &&& 31))
        refine x_top ez7 ?_
        refine lv_iconst (v := iI (1)) hE.1 hE.2.1 dX8_motif_79 (by decide) ?_
        refine lv_iand hE.1 hE.2.1 dX8_motif_80 ?_
        obtain ⟨z8, hz8, ez8⟩ := iI_and (iI (z7)) (iI (1)) 1 (by decide)
        refine x_top ez8 ?_
        exact kr _ _ _ rfl ⟨z8, by omega, rfl⟩ dX8_motif_81
      · skip
        refine lv_tableIn (off := 67) (tgt := 82) hE.1 hE.2.1 dX8_motif_15 (by decide) (by decide) (by decide) (by decide) ?_
        refine lv_aload_n hE.1 hE.2.1 dX8_motif_82 rfl (lv_at hl 0 rfl) ?_
        refine x_get (x := .ref (ad 3)) hE hK hP 0 (Nat.lt_of_lt_of_le (by decide) hNN) (xG_8 rfl) rfl hin8 1 (by decide) mw_481 rfl dX8_motif_83 ?_
        obtain ⟨z9, hz9, ez9⟩ := iI_of (v 3 8)
        refine x_get (x := .int (v 3 8)) hE hK hP 3 (Nat.lt_of_lt_of_le (by decide) hNN) (xG_1 rfl) rfl hin1 8 (by decide) mw_208 rfl dX8_motif_86 ?_
        refine x_top (y := iI (z9)) ez9 ?_
        refine lv_iload_n hE.1 hE.2.1 dX8_motif_89 rfl (lv_at hl 1 rfl) ?_
        refine lv_ishr hE.1 hE.2.1 dX8_motif_90 ?_
        obtain ⟨z10, hz10, ez10⟩ := iI_of (iI (z9) >>> (iI (z_1) &&& 31))
        refine x_top ez10 ?_
        refine lv_iconst (v := iI (1)) hE.1 hE.2.1 dX8_motif_91 (by decide) ?_
        refine lv_iand hE.1 hE.2.1 dX8_motif_92 ?_
        obtain ⟨z11, hz11, ez11⟩ := iI_and (iI (z10)) (iI (1)) 1 (by decide)
        refine x_top ez11 ?_
        exact kr _ _ _ rfl ⟨z11, by omega, rfl⟩ dX8_motif_93
      · skip
        refine lv_tableIn (off := 79) (tgt := 94) hE.1 hE.2.1 dX8_motif_15 (by decide) (by decide) (by decide) (by decide) ?_
        refine lv_aload_n hE.1 hE.2.1 dX8_motif_94 rfl (lv_at hl 0 rfl) ?_
        refine x_get (x := .ref (ad 3)) hE hK hP 0 (Nat.lt_of_lt_of_le (by decide) hNN) (xG_8 rfl) rfl hin8 1 (by decide) mw_481 rfl dX8_motif_95 ?_
        obtain ⟨z12, hz12, ez12⟩ := iI_of (v 3 9)
        refine x_get (x := .int (v 3 9)) hE hK hP 3 (Nat.lt_of_lt_of_le (by decide) hNN) (xG_1 rfl) rfl hin1 9 (by decide) mw_212 rfl dX8_motif_98 ?_
        refine x_top (y := iI (z12)) ez12 ?_
        refine lv_iload_n hE.1 hE.2.1 dX8_motif_101 rfl (lv_at hl 1 rfl) ?_
        refine lv_ishr hE.1 hE.2.1 dX8_motif_102 ?_
        obtain ⟨z13, hz13, ez13⟩ := iI_of (iI (z12) >>> (iI (z_1) &&& 31))
        refine x_top ez13 ?_
        refine lv_iconst (v := iI (1)) hE.1 hE.2.1 dX8_motif_103 (by decide) ?_
        refine lv_iand hE.1 hE.2.1 dX8_motif_104 ?_
        obtain ⟨z14, hz14, ez14⟩ := iI_and (iI (z13)) (iI (1)) 1 (by decide)
        refine x_top ez14 ?_
        exact kr _ _ _ rfl ⟨z14, by omega, rfl⟩ dX8_motif_105
      · skip
        refine lv_tableIn (off := 91) (tgt := 106) hE.1 hE.2.1 dX8_motif_15 (by decide) (by decide) (by decide) (by decide) ?_
        refine lv_aload_n hE.1 hE.2.1 dX8_motif_106 rfl (lv_at hl 0 rfl) ?_
        refine x_get (x := .ref (ad 3)) hE hK hP 0 (Nat.lt_of_lt_of_le (by decide) hNN) (xG_8 rfl) rfl hin8 1 (by decide) mw_481 rfl dX8_motif_107 ?_
        refine x_get (x := .ref (ad 5)) hE hK hP 3 (Nat.lt_of_lt_of_le (by decide) hNN) (xG_1 rfl) rfl hin1 12 (by decide) mw_222 rfl dX8_motif_110 ?_
        refine lv_iload_n hE.1 hE.2.1 dX8_motif_113 rfl (lv_at hl 1 rfl) ?_
        refine x_iald (j := iI (z_1)) hE hK hP 5 (Nat.lt_of_lt_of_le (by decide) hNN) (xG_10 rfl) (iI_in (n := 9) (by omega)) dX8_motif_114 ?_
        obtain ⟨z16, hz16, ez16⟩ := iI_of (ar 5 (iI (z_1)).toNatClampNeg)
        refine x_top ez16 ?_
        exact kr _ _ _ rfl ⟨z16, by omega, rfl⟩ dX8_motif_115
      · skip
        refine lv_tableIn (off := 101) (tgt := 116) hE.1 hE.2.1 dX8_motif_15 (by decide) (by decide) (by decide) (by decide) ?_
        refine lv_aload_n hE.1 hE.2.1 dX8_motif_116 rfl (lv_at hl 0 rfl) ?_
        refine x_get (x := .ref (ad 3)) hE hK hP 0 (Nat.lt_of_lt_of_le (by decide) hNN) (xG_8 rfl) rfl hin8 1 (by decide) mw_481 rfl dX8_motif_117 ?_
        refine x_get (x := .ref (ad 6)) hE hK hP 3 (Nat.lt_of_lt_of_le (by decide) hNN) (xG_1 rfl) rfl hin1 13 (by decide) mw_226 rfl dX8_motif_120 ?_
        refine lv_iload_n hE.1 hE.2.1 dX8_motif_123 rfl (lv_at hl 1 rfl) ?_
        refine x_iald (j := iI (z_1)) hE hK hP 6 (Nat.lt_of_lt_of_le (by decide) hNN) (xG_10 rfl) (iI_in (n := 9) (by omega)) dX8_motif_124 ?_
        obtain ⟨z18, hz18, ez18⟩ := iI_of (ar 6 (iI (z_1)).toNatClampNeg)
        refine x_top ez18 ?_
        exact kr _ _ _ rfl ⟨z18, by omega, rfl⟩ dX8_motif_125
      · skip
        refine lv_tableIn (off := 111) (tgt := 126) hE.1 hE.2.1 dX8_motif_15 (by decide) (by decide) (by decide) (by decide) ?_
        refine lv_aload_n hE.1 hE.2.1 dX8_motif_126 rfl (lv_at hl 0 rfl) ?_
        refine x_get (x := .ref (ad 3)) hE hK hP 0 (Nat.lt_of_lt_of_le (by decide) hNN) (xG_8 rfl) rfl hin8 1 (by decide) mw_481 rfl dX8_motif_127 ?_
        refine x_get (x := .ref (ad 7)) hE hK hP 3 (Nat.lt_of_lt_of_le (by decide) hNN) (xG_1 rfl) rfl hin1 14 (by decide) mw_230 rfl dX8_motif_130 ?_
        refine lv_iload_n hE.1 hE.2.1 dX8_motif_133 rfl (lv_at hl 1 rfl) ?_
        refine x_iald (j := iI (z_1)) hE hK hP 7 (Nat.lt_of_lt_of_le (by decide) hNN) (xG_10 rfl) (iI_in (n := 9) (by omega)) dX8_motif_134 ?_
        obtain ⟨z20, hz20, ez20⟩ := iI_of (ar 7 (iI (z_1)).toNatClampNeg)
        refine x_top ez20 ?_
        exact kr _ _ _ rfl ⟨z20, by omega, rfl⟩ dX8_motif_135
      · skip
        refine lv_tableIn (off := 121) (tgt := 136) hE.1 hE.2.1 dX8_motif_15 (by decide) (by decide) (by decide) (by decide) ?_
        refine lv_aload_n hE.1 hE.2.1 dX8_motif_136 rfl (lv_at hl 0 rfl) ?_
        refine x_get (x := .ref (ad 3)) hE hK hP 0 (Nat.lt_of_lt_of_le (by decide) hNN) (xG_8 rfl) rfl hin8 1 (by decide) mw_481 rfl dX8_motif_137 ?_
        obtain ⟨z21, hz21, ez21⟩ := iI_of (v 3 10)
        refine x_get (x := .int (v 3 10)) hE hK hP 3 (Nat.lt_of_lt_of_le (by decide) hNN) (xG_1 rfl) rfl hin1 10 (by decide) mw_216 rfl dX8_motif_140 ?_
        refine x_top (y := iI (z21)) ez21 ?_
        refine lv_iload_n hE.1 hE.2.1 dX8_motif_143 rfl (lv_at hl 1 rfl) ?_
        refine lv_ishr hE.1 hE.2.1 dX8_motif_144 ?_
        obtain ⟨z22, hz22, ez22⟩ := iI_of (iI (z21) >>> (iI (z_1) &&& 31))
        refine x_top ez22 ?_
        refine lv_iconst (v := iI (1)) hE.1 hE.2.1 dX8_motif_145 (by decide) ?_
        refine lv_iand hE.1 hE.2.1 dX8_motif_146 ?_
        obtain ⟨z23, hz23, ez23⟩ := iI_and (iI (z22)) (iI (1)) 1 (by decide)
        refine x_top ez23 ?_
        exact kr _ _ _ rfl ⟨z23, by omega, rfl⟩ dX8_motif_147
  · skip
    refine lv_bipush (v := iI (-2)) hE.1 hE.2.1 dX8_motif_11 (by decide) ?_
    exact kr _ _ _ rfl ⟨-2, by omega, rfl⟩ dX8_motif_13

theorem dX8_joins_0 : decode cX8_joins 0 = .ok (.aload_n 0, 1) := by decide +kernel
theorem dX8_joins_1 : decode cX8_joins 1 = .ok (.getfield 19, 3) := by decide +kernel
theorem dX8_joins_4 : decode cX8_joins 4 = .ok (.iload_n 1, 1) := by decide +kernel
theorem dX8_joins_5 : decode cX8_joins 5 = .ok (.invokevirtual 102, 3) := by decide +kernel
theorem dX8_joins_8 : decode cX8_joins 8 = .ok (.ifCond .eq 14, 3) := by decide +kernel
theorem dX8_joins_11 : decode cX8_joins 11 = .ok (.aload_n 0, 1) := by decide +kernel
theorem dX8_joins_12 : decode cX8_joins 12 = .ok (.getfield 19, 3) := by decide +kernel
theorem dX8_joins_15 : decode cX8_joins 15 = .ok (.iload_n 2, 1) := by decide +kernel
theorem dX8_joins_16 : decode cX8_joins 16 = .ok (.invokevirtual 102, 3) := by decide +kernel
theorem dX8_joins_19 : decode cX8_joins 19 = .ok (.ifCond .ne 6, 3) := by decide +kernel
theorem dX8_joins_22 : decode cX8_joins 22 = .ok (.bipush (-2), 2) := by decide +kernel
theorem dX8_joins_24 : decode cX8_joins 24 = .ok (.ireturn, 1) := by decide +kernel
theorem dX8_joins_25 : decode cX8_joins 25 = .ok (.aload_n 0, 1) := by decide +kernel
theorem dX8_joins_26 : decode cX8_joins 26 = .ok (.getfield 19, 3) := by decide +kernel
theorem dX8_joins_29 : decode cX8_joins 29 = .ok (.getfield 131, 3) := by decide +kernel
theorem dX8_joins_32 : decode cX8_joins 32 = .ok (.iload_n 1, 1) := by decide +kernel
theorem dX8_joins_33 : decode cX8_joins 33 = .ok (.iaload, 1) := by decide +kernel
theorem dX8_joins_34 : decode cX8_joins 34 = .ok (.iload_n 2, 1) := by decide +kernel
theorem dX8_joins_35 : decode cX8_joins 35 = .ok (.ishr, 1) := by decide +kernel
theorem dX8_joins_36 : decode cX8_joins 36 = .ok (.iconst 1, 1) := by decide +kernel
theorem dX8_joins_37 : decode cX8_joins 37 = .ok (.iand, 1) := by decide +kernel
theorem dX8_joins_38 : decode cX8_joins 38 = .ok (.ireturn, 1) := by decide +kernel
set_option maxHeartbeats 4000000 in
set_option maxRecDepth 100000 in
theorem s_X8_joins_0 (l : Launch) (D : va_G) (K : Nat → ClassId) (ad : Nat → Nat) (mm : Option Nat) (N : Nat) (hNN : 132 ≤ N) (v ar : sI) (al : sL) (hI : XI v) (z_1 : Int) (hz_1 : -2147483648 ≤ z_1 ∧ z_1 ≤ 2147483647) (z_2 : Int) (hz_2 : -2147483648 ≤ z_2 ∧ z_2 ≤ 2147483647) : Met l yX8_joins (wM yX8_joins cX8_joins 3 (some .int)) (rmD 1) (va_Pc [.ref (ad 0), .int (iI (z_1)), .int (iI (z_2))] (wPre D K ad (xG ad K mm) N v ar al)) (vp_Si (fun r => ∃ z : Int, (-2147483648 ≤ z ∧ z ≤ 2147483647) ∧ r = iI z)) 0 0 (fun _ => False) := by
  refine s_metP (by decide) (Nat.le_of_ble_eq_true rfl) ?_
  intro p e s m below meth c ls args Q hE hB hl kr
  have hE : CallFix p m c cX8_joins 3 s args tbG "TaleCourt" := hE
  obtain ⟨hP, hK, hN⟩ := hB
  have hl : lv_has ls 3 [(0, .ref (ad 0)), (1, .int (iI (z_1))), (2, .int (iI (z_2)))] := hl
  refine lv_aload_n hE.1 hE.2.1 dX8_joins_0 rfl (lv_at hl 0 rfl) ?_
  refine x_get (x := .ref (ad 3)) hE hK hP 0 (Nat.lt_of_lt_of_le (by decide) hNN) (xG_8 rfl) rfl hin8 1 (by decide) mw_481 rfl dX8_joins_1 ?_
  refine lv_iload_n hE.1 hE.2.1 dX8_joins_4 rfl (lv_at hl 1 rfl) ?_
  refine x_vp (nn := 1) (As := [.int (iI (z_1))]) (rest := []) hE (s_X1_hasMotif_3 l D K ad mm N hNN v ar al hI  (z_1) (by omega)) wPre_blind (wPre_now hK hN hP) (x_recv hK hP 3 (Nat.lt_of_lt_of_le (by decide) hNN) (xG_1 rfl) rfl) rfl mw_694 mw_695 mw_696 mw_116 mw_697 (by decide +kernel) ⟨by decide, by decide⟩ hl.1 rfl (Nat.le_of_ble_eq_true rfl) ⟨Nat.zero_le _, Nat.zero_le _⟩ dX8_joins_5 (fun r1 hr1 => ?_)
  obtain ⟨z1, hz1, rfl⟩ := hr1
  refine s_if_eq (a := z1) (tgt := 22) hE.1 hE.2.1 (by omega) dX8_joins_8 (by decide) (fun c2 => ?_) (fun c2 => ?_)
  · skip
    refine lv_bipush (v := iI (-2)) hE.1 hE.2.1 dX8_joins_22 (by decide) ?_
    exact kr _ _ _ rfl ⟨-2, by omega, rfl⟩ dX8_joins_24
  · skip
    refine lv_aload_n hE.1 hE.2.1 dX8_joins_11 rfl (lv_at hl 0 rfl) ?_
    refine x_get (x := .ref (ad 3)) hE hK hP 0 (Nat.lt_of_lt_of_le (by decide) hNN) (xG_8 rfl) rfl hin8 1 (by decide) mw_481 rfl dX8_joins_12 ?_
    refine lv_iload_n hE.1 hE.2.1 dX8_joins_15 rfl (lv_at hl 2 rfl) ?_
    refine x_vp (nn := 1) (As := [.int (iI (z_2))]) (rest := []) hE (s_X1_hasMotif_3 l D K ad mm N hNN v ar al hI  (z_2) (by omega)) wPre_blind (wPre_now hK hN hP) (x_recv hK hP 3 (Nat.lt_of_lt_of_le (by decide) hNN) (xG_1 rfl) rfl) rfl mw_694 mw_695 mw_696 mw_116 mw_697 (by decide +kernel) ⟨by decide, by decide⟩ hl.1 rfl (Nat.le_of_ble_eq_true rfl) ⟨Nat.zero_le _, Nat.zero_le _⟩ dX8_joins_16 (fun r3 hr3 => ?_)
    obtain ⟨z3, hz3, rfl⟩ := hr3
    refine s_if_ne (a := z3) (tgt := 25) hE.1 hE.2.1 (by omega) dX8_joins_19 (by decide) (fun c4 => ?_) (fun c4 => ?_)
    · skip
      refine lv_aload_n hE.1 hE.2.1 dX8_joins_25 rfl (lv_at hl 0 rfl) ?_
      refine x_get (x := .ref (ad 3)) hE hK hP 0 (Nat.lt_of_lt_of_le (by decide) hNN) (xG_8 rfl) rfl hin8 1 (by decide) mw_481 rfl dX8_joins_26 ?_
      refine x_get (x := .ref (ad 8)) hE hK hP 3 (Nat.lt_of_lt_of_le (by decide) hNN) (xG_1 rfl) rfl hin1 15 (by decide) mw_232 rfl dX8_joins_29 ?_
      refine lv_iload_n hE.1 hE.2.1 dX8_joins_32 rfl (lv_at hl 1 rfl) ?_
      refine x_iald (j := iI (z_1)) hE hK hP 8 (Nat.lt_of_lt_of_le (by decide) hNN) (xG_10 rfl) (iI_in (n := 9) (by omega)) dX8_joins_33 ?_
      obtain ⟨z6, hz6, ez6⟩ := iI_of (ar 8 (iI (z_1)).toNatClampNeg)
      refine x_top ez6 ?_
      refine lv_iload_n hE.1 hE.2.1 dX8_joins_34 rfl (lv_at hl 2 rfl) ?_
      refine lv_ishr hE.1 hE.2.1 dX8_joins_35 ?_
      obtain ⟨z7, hz7, ez7⟩ := iI_of (iI (z6) >>> (iI (z_2) &&& 31))
      refine x_top ez7 ?_
      refine lv_iconst (v := iI (1)) hE.1 hE.2.1 dX8_joins_36 (by decide) ?_
      refine lv_iand hE.1 hE.2.1 dX8_joins_37 ?_
      obtain ⟨z8, hz8, ez8⟩ := iI_and (iI (z7)) (iI (1)) 1 (by decide)
      refine x_top ez8 ?_
      exact kr _ _ _ rfl ⟨z8, by omega, rfl⟩ dX8_joins_38
    · skip
      refine lv_bipush (v := iI (-2)) hE.1 hE.2.1 dX8_joins_22 (by decide) ?_
      exact kr _ _ _ rfl ⟨-2, by omega, rfl⟩ dX8_joins_24

theorem dX8_clash_0 : decode cX8_clash 0 = .ok (.aload_n 0, 1) := by decide +kernel
theorem dX8_clash_1 : decode cX8_clash 1 = .ok (.getfield 19, 3) := by decide +kernel
theorem dX8_clash_4 : decode cX8_clash 4 = .ok (.iload_n 1, 1) := by decide +kernel
theorem dX8_clash_5 : decode cX8_clash 5 = .ok (.invokevirtual 102, 3) := by decide +kernel
theorem dX8_clash_8 : decode cX8_clash 8 = .ok (.ifCond .eq 14, 3) := by decide +kernel
theorem dX8_clash_11 : decode cX8_clash 11 = .ok (.aload_n 0, 1) := by decide +kernel
theorem dX8_clash_12 : decode cX8_clash 12 = .ok (.getfield 19, 3) := by decide +kernel
theorem dX8_clash_15 : decode cX8_clash 15 = .ok (.iload_n 2, 1) := by decide +kernel
theorem dX8_clash_16 : decode cX8_clash 16 = .ok (.invokevirtual 102, 3) := by decide +kernel
theorem dX8_clash_19 : decode cX8_clash 19 = .ok (.ifCond .ne 6, 3) := by decide +kernel
theorem dX8_clash_22 : decode cX8_clash 22 = .ok (.bipush (-2), 2) := by decide +kernel
theorem dX8_clash_24 : decode cX8_clash 24 = .ok (.ireturn, 1) := by decide +kernel
theorem dX8_clash_25 : decode cX8_clash 25 = .ok (.aload_n 0, 1) := by decide +kernel
theorem dX8_clash_26 : decode cX8_clash 26 = .ok (.getfield 19, 3) := by decide +kernel
theorem dX8_clash_29 : decode cX8_clash 29 = .ok (.getfield 134, 3) := by decide +kernel
theorem dX8_clash_32 : decode cX8_clash 32 = .ok (.iload_n 1, 1) := by decide +kernel
theorem dX8_clash_33 : decode cX8_clash 33 = .ok (.iaload, 1) := by decide +kernel
theorem dX8_clash_34 : decode cX8_clash 34 = .ok (.iload_n 2, 1) := by decide +kernel
theorem dX8_clash_35 : decode cX8_clash 35 = .ok (.ishr, 1) := by decide +kernel
theorem dX8_clash_36 : decode cX8_clash 36 = .ok (.iconst 1, 1) := by decide +kernel
theorem dX8_clash_37 : decode cX8_clash 37 = .ok (.iand, 1) := by decide +kernel
theorem dX8_clash_38 : decode cX8_clash 38 = .ok (.ireturn, 1) := by decide +kernel
set_option maxHeartbeats 4000000 in
set_option maxRecDepth 100000 in
theorem s_X8_clash_0 (l : Launch) (D : va_G) (K : Nat → ClassId) (ad : Nat → Nat) (mm : Option Nat) (N : Nat) (hNN : 132 ≤ N) (v ar : sI) (al : sL) (hI : XI v) (z_1 : Int) (hz_1 : -2147483648 ≤ z_1 ∧ z_1 ≤ 2147483647) (z_2 : Int) (hz_2 : -2147483648 ≤ z_2 ∧ z_2 ≤ 2147483647) : Met l yX8_clash (wM yX8_clash cX8_clash 3 (some .int)) (rmD 1) (va_Pc [.ref (ad 0), .int (iI (z_1)), .int (iI (z_2))] (wPre D K ad (xG ad K mm) N v ar al)) (vp_Si (fun r => ∃ z : Int, (-2147483648 ≤ z ∧ z ≤ 2147483647) ∧ r = iI z)) 0 0 (fun _ => False) := by
  refine s_metP (by decide) (Nat.le_of_ble_eq_true rfl) ?_
  intro p e s m below meth c ls args Q hE hB hl kr
  have hE : CallFix p m c cX8_clash 3 s args tbG "TaleCourt" := hE
  obtain ⟨hP, hK, hN⟩ := hB
  have hl : lv_has ls 3 [(0, .ref (ad 0)), (1, .int (iI (z_1))), (2, .int (iI (z_2)))] := hl
  refine lv_aload_n hE.1 hE.2.1 dX8_clash_0 rfl (lv_at hl 0 rfl) ?_
  refine x_get (x := .ref (ad 3)) hE hK hP 0 (Nat.lt_of_lt_of_le (by decide) hNN) (xG_8 rfl) rfl hin8 1 (by decide) mw_481 rfl dX8_clash_1 ?_
  refine lv_iload_n hE.1 hE.2.1 dX8_clash_4 rfl (lv_at hl 1 rfl) ?_
  refine x_vp (nn := 1) (As := [.int (iI (z_1))]) (rest := []) hE (s_X1_hasMotif_3 l D K ad mm N hNN v ar al hI  (z_1) (by omega)) wPre_blind (wPre_now hK hN hP) (x_recv hK hP 3 (Nat.lt_of_lt_of_le (by decide) hNN) (xG_1 rfl) rfl) rfl mw_694 mw_695 mw_696 mw_116 mw_697 (by decide +kernel) ⟨by decide, by decide⟩ hl.1 rfl (Nat.le_of_ble_eq_true rfl) ⟨Nat.zero_le _, Nat.zero_le _⟩ dX8_clash_5 (fun r1 hr1 => ?_)
  obtain ⟨z1, hz1, rfl⟩ := hr1
  refine s_if_eq (a := z1) (tgt := 22) hE.1 hE.2.1 (by omega) dX8_clash_8 (by decide) (fun c2 => ?_) (fun c2 => ?_)
  · skip
    refine lv_bipush (v := iI (-2)) hE.1 hE.2.1 dX8_clash_22 (by decide) ?_
    exact kr _ _ _ rfl ⟨-2, by omega, rfl⟩ dX8_clash_24
  · skip
    refine lv_aload_n hE.1 hE.2.1 dX8_clash_11 rfl (lv_at hl 0 rfl) ?_
    refine x_get (x := .ref (ad 3)) hE hK hP 0 (Nat.lt_of_lt_of_le (by decide) hNN) (xG_8 rfl) rfl hin8 1 (by decide) mw_481 rfl dX8_clash_12 ?_
    refine lv_iload_n hE.1 hE.2.1 dX8_clash_15 rfl (lv_at hl 2 rfl) ?_
    refine x_vp (nn := 1) (As := [.int (iI (z_2))]) (rest := []) hE (s_X1_hasMotif_3 l D K ad mm N hNN v ar al hI  (z_2) (by omega)) wPre_blind (wPre_now hK hN hP) (x_recv hK hP 3 (Nat.lt_of_lt_of_le (by decide) hNN) (xG_1 rfl) rfl) rfl mw_694 mw_695 mw_696 mw_116 mw_697 (by decide +kernel) ⟨by decide, by decide⟩ hl.1 rfl (Nat.le_of_ble_eq_true rfl) ⟨Nat.zero_le _, Nat.zero_le _⟩ dX8_clash_16 (fun r3 hr3 => ?_)
    obtain ⟨z3, hz3, rfl⟩ := hr3
    refine s_if_ne (a := z3) (tgt := 25) hE.1 hE.2.1 (by omega) dX8_clash_19 (by decide) (fun c4 => ?_) (fun c4 => ?_)
    · skip
      refine lv_aload_n hE.1 hE.2.1 dX8_clash_25 rfl (lv_at hl 0 rfl) ?_
      refine x_get (x := .ref (ad 3)) hE hK hP 0 (Nat.lt_of_lt_of_le (by decide) hNN) (xG_8 rfl) rfl hin8 1 (by decide) mw_481 rfl dX8_clash_26 ?_
      refine x_get (x := .ref (ad 9)) hE hK hP 3 (Nat.lt_of_lt_of_le (by decide) hNN) (xG_1 rfl) rfl hin1 16 (by decide) mw_236 rfl dX8_clash_29 ?_
      refine lv_iload_n hE.1 hE.2.1 dX8_clash_32 rfl (lv_at hl 1 rfl) ?_
      refine x_iald (j := iI (z_1)) hE hK hP 9 (Nat.lt_of_lt_of_le (by decide) hNN) (xG_10 rfl) (iI_in (n := 9) (by omega)) dX8_clash_33 ?_
      obtain ⟨z6, hz6, ez6⟩ := iI_of (ar 9 (iI (z_1)).toNatClampNeg)
      refine x_top ez6 ?_
      refine lv_iload_n hE.1 hE.2.1 dX8_clash_34 rfl (lv_at hl 2 rfl) ?_
      refine lv_ishr hE.1 hE.2.1 dX8_clash_35 ?_
      obtain ⟨z7, hz7, ez7⟩ := iI_of (iI (z6) >>> (iI (z_2) &&& 31))
      refine x_top ez7 ?_
      refine lv_iconst (v := iI (1)) hE.1 hE.2.1 dX8_clash_36 (by decide) ?_
      refine lv_iand hE.1 hE.2.1 dX8_clash_37 ?_
      obtain ⟨z8, hz8, ez8⟩ := iI_and (iI (z7)) (iI (1)) 1 (by decide)
      refine x_top ez8 ?_
      exact kr _ _ _ rfl ⟨z8, by omega, rfl⟩ dX8_clash_38
    · skip
      refine lv_bipush (v := iI (-2)) hE.1 hE.2.1 dX8_clash_22 (by decide) ?_
      exact kr _ _ _ rfl ⟨-2, by omega, rfl⟩ dX8_clash_24

theorem dX8_behind_0 : decode cX8_behind 0 = .ok (.aload_n 0, 1) := by decide +kernel
theorem dX8_behind_1 : decode cX8_behind 1 = .ok (.getfield 19, 3) := by decide +kernel
theorem dX8_behind_4 : decode cX8_behind 4 = .ok (.iload_n 1, 1) := by decide +kernel
theorem dX8_behind_5 : decode cX8_behind 5 = .ok (.invokevirtual 102, 3) := by decide +kernel
theorem dX8_behind_8 : decode cX8_behind 8 = .ok (.ifCond .eq 15, 3) := by decide +kernel
theorem dX8_behind_11 : decode cX8_behind 11 = .ok (.aload_n 0, 1) := by decide +kernel
theorem dX8_behind_12 : decode cX8_behind 12 = .ok (.getfield 19, 3) := by decide +kernel
theorem dX8_behind_15 : decode cX8_behind 15 = .ok (.getfield 131, 3) := by decide +kernel
theorem dX8_behind_18 : decode cX8_behind 18 = .ok (.iload_n 1, 1) := by decide +kernel
theorem dX8_behind_19 : decode cX8_behind 19 = .ok (.iaload, 1) := by decide +kernel
theorem dX8_behind_20 : decode cX8_behind 20 = .ok (.goto 5, 3) := by decide +kernel
theorem dX8_behind_23 : decode cX8_behind 23 = .ok (.bipush (-2), 2) := by decide +kernel
theorem dX8_behind_25 : decode cX8_behind 25 = .ok (.ireturn, 1) := by decide +kernel
set_option maxHeartbeats 4000000 in
set_option maxRecDepth 100000 in
theorem s_X8_behind_0 (l : Launch) (D : va_G) (K : Nat → ClassId) (ad : Nat → Nat) (mm : Option Nat) (N : Nat) (hNN : 132 ≤ N) (v ar : sI) (al : sL) (hI : XI v) (z_1 : Int) (hz_1 : -2147483648 ≤ z_1 ∧ z_1 ≤ 2147483647) : Met l yX8_behind (wM yX8_behind cX8_behind 2 (some .int)) (rmD 1) (va_Pc [.ref (ad 0), .int (iI (z_1))] (wPre D K ad (xG ad K mm) N v ar al)) (vp_Si (fun r => ∃ z : Int, (-2147483648 ≤ z ∧ z ≤ 2147483647) ∧ r = iI z)) 0 0 (fun _ => False) := by
  refine s_metP (by decide) (Nat.le_of_ble_eq_true rfl) ?_
  intro p e s m below meth c ls args Q hE hB hl kr
  have hE : CallFix p m c cX8_behind 2 s args tbG "TaleCourt" := hE
  obtain ⟨hP, hK, hN⟩ := hB
  have hl : lv_has ls 2 [(0, .ref (ad 0)), (1, .int (iI (z_1)))] := hl
  refine lv_aload_n hE.1 hE.2.1 dX8_behind_0 rfl (lv_at hl 0 rfl) ?_
  refine x_get (x := .ref (ad 3)) hE hK hP 0 (Nat.lt_of_lt_of_le (by decide) hNN) (xG_8 rfl) rfl hin8 1 (by decide) mw_481 rfl dX8_behind_1 ?_
  refine lv_iload_n hE.1 hE.2.1 dX8_behind_4 rfl (lv_at hl 1 rfl) ?_
  refine x_vp (nn := 1) (As := [.int (iI (z_1))]) (rest := []) hE (s_X1_hasMotif_3 l D K ad mm N hNN v ar al hI  (z_1) (by omega)) wPre_blind (wPre_now hK hN hP) (x_recv hK hP 3 (Nat.lt_of_lt_of_le (by decide) hNN) (xG_1 rfl) rfl) rfl mw_694 mw_695 mw_696 mw_116 mw_697 (by decide +kernel) ⟨by decide, by decide⟩ hl.1 rfl (Nat.le_of_ble_eq_true rfl) ⟨Nat.zero_le _, Nat.zero_le _⟩ dX8_behind_5 (fun r1 hr1 => ?_)
  obtain ⟨z1, hz1, rfl⟩ := hr1
  refine s_if_eq (a := z1) (tgt := 23) hE.1 hE.2.1 (by omega) dX8_behind_8 (by decide) (fun c2 => ?_) (fun c2 => ?_)
  · skip
    refine lv_bipush (v := iI (-2)) hE.1 hE.2.1 dX8_behind_23 (by decide) ?_
    exact kr _ _ _ rfl ⟨-2, by omega, rfl⟩ dX8_behind_25
  · skip
    refine lv_aload_n hE.1 hE.2.1 dX8_behind_11 rfl (lv_at hl 0 rfl) ?_
    refine x_get (x := .ref (ad 3)) hE hK hP 0 (Nat.lt_of_lt_of_le (by decide) hNN) (xG_8 rfl) rfl hin8 1 (by decide) mw_481 rfl dX8_behind_12 ?_
    refine x_get (x := .ref (ad 8)) hE hK hP 3 (Nat.lt_of_lt_of_le (by decide) hNN) (xG_1 rfl) rfl hin1 15 (by decide) mw_232 rfl dX8_behind_15 ?_
    refine lv_iload_n hE.1 hE.2.1 dX8_behind_18 rfl (lv_at hl 1 rfl) ?_
    refine x_iald (j := iI (z_1)) hE hK hP 8 (Nat.lt_of_lt_of_le (by decide) hNN) (xG_10 rfl) (iI_in (n := 9) (by omega)) dX8_behind_19 ?_
    obtain ⟨z4, hz4, ez4⟩ := iI_of (ar 8 (iI (z_1)).toNatClampNeg)
    refine x_top ez4 ?_
    refine lv_goto (tgt := 25) hE.1 hE.2.1 dX8_behind_20 (by decide) ?_
    exact kr _ _ _ rfl ⟨z4, by omega, rfl⟩ dX8_behind_25

theorem dX1_leaders_0 : decode cX1_leaders 0 = .ok (.iconst 0, 1) := by decide +kernel
theorem dX1_leaders_1 : decode cX1_leaders 1 = .ok (.istore_n 2, 1) := by decide +kernel
theorem dX1_leaders_2 : decode cX1_leaders 2 = .ok (.iconst 0, 1) := by decide +kernel
theorem dX1_leaders_3 : decode cX1_leaders 3 = .ok (.istore_n 3, 1) := by decide +kernel
theorem dX1_leaders_4 : decode cX1_leaders 4 = .ok (.iload_n 3, 1) := by decide +kernel
theorem dX1_leaders_5 : decode cX1_leaders 5 = .ok (.bipush 9, 2) := by decide +kernel
theorem dX1_leaders_7 : decode cX1_leaders 7 = .ok (.if_icmp .ge 24, 3) := by decide +kernel
theorem dX1_leaders_10 : decode cX1_leaders 10 = .ok (.iload_n 2, 1) := by decide +kernel
theorem dX1_leaders_11 : decode cX1_leaders 11 = .ok (.aload_n 0, 1) := by decide +kernel
theorem dX1_leaders_12 : decode cX1_leaders 12 = .ok (.getfield 24, 3) := by decide +kernel
theorem dX1_leaders_15 : decode cX1_leaders 15 = .ok (.iload_n 3, 1) := by decide +kernel
theorem dX1_leaders_16 : decode cX1_leaders 16 = .ok (.iaload, 1) := by decide +kernel
theorem dX1_leaders_17 : decode cX1_leaders 17 = .ok (.iload_n 1, 1) := by decide +kernel
theorem dX1_leaders_18 : decode cX1_leaders 18 = .ok (.ishr, 1) := by decide +kernel
theorem dX1_leaders_19 : decode cX1_leaders 19 = .ok (.iconst 1, 1) := by decide +kernel
theorem dX1_leaders_20 : decode cX1_leaders 20 = .ok (.iand, 1) := by decide +kernel
theorem dX1_leaders_21 : decode cX1_leaders 21 = .ok (.iload_n 3, 1) := by decide +kernel
theorem dX1_leaders_22 : decode cX1_leaders 22 = .ok (.ishl, 1) := by decide +kernel
theorem dX1_leaders_23 : decode cX1_leaders 23 = .ok (.ior, 1) := by decide +kernel
theorem dX1_leaders_24 : decode cX1_leaders 24 = .ok (.istore_n 2, 1) := by decide +kernel
theorem dX1_leaders_25 : decode cX1_leaders 25 = .ok (.iinc 3 1, 3) := by decide +kernel
theorem dX1_leaders_28 : decode cX1_leaders 28 = .ok (.goto (-24), 3) := by decide +kernel
theorem dX1_leaders_31 : decode cX1_leaders 31 = .ok (.iload_n 2, 1) := by decide +kernel
theorem dX1_leaders_32 : decode cX1_leaders 32 = .ok (.ireturn, 1) := by decide +kernel
set_option maxHeartbeats 4000000 in
set_option maxRecDepth 100000 in
theorem s_X1_leaders_3 (l : Launch) (D : va_G) (K : Nat → ClassId) (ad : Nat → Nat) (mm : Option Nat) (N : Nat) (hNN : 132 ≤ N) (v ar : sI) (al : sL) (hI : XI v) (z_1 : Int) (hz_1 : -2147483648 ≤ z_1 ∧ z_1 ≤ 2147483647) : Met l yX1_leaders (wM yX1_leaders cX1_leaders 4 (some .int)) (rmD 0) (va_Pc [.ref (ad 3), .int (iI (z_1))] (wPre D K ad (xG ad K mm) N v ar al)) (vp_Si (fun r => ∃ z : Int, (-2147483648 ≤ z ∧ z ≤ 2147483647) ∧ r = iI z)) 0 0 (fun _ => False) := by
  refine s_metP (by decide) (Nat.le_of_ble_eq_true rfl) ?_
  intro p e s m below meth c ls args Q hE hB hl kr
  have hE : CallFix p m c cX1_leaders 4 s args tbG "TaleCourt$Court" := hE
  obtain ⟨hP, hK, hN⟩ := hB
  have hl : lv_has ls 4 [(0, .ref (ad 3)), (1, .int (iI (z_1)))] := hl
  refine lv_iconst (v := iI (0)) hE.1 hE.2.1 dX1_leaders_0 (by decide) ?_
  refine lv_istore_n (lv' := [(2, .int (iI (0))), (0, .ref (ad 3)), (1, .int (iI (z_1)))]) hE.1 hE.2.1 dX1_leaders_1 rfl hl (by decide) rfl (fun ls hl => ?_)
  refine lv_iconst (v := iI (0)) hE.1 hE.2.1 dX1_leaders_2 (by decide) ?_
  refine lv_istore_n (lv' := [(3, .int (iI (0))), (2, .int (iI (0))), (0, .ref (ad 3)), (1, .int (iI (z_1)))]) hE.1 hE.2.1 dX1_leaders_3 rfl hl (by decide) rfl (fun ls hl => ?_)
  have loop1 : ∀ (k1 : Nat) (y1_3 : Int) (y1_2 : Int) (ls : Array Slot), (9 - y1_3).toNat = k1 → (0 ≤ y1_3 ∧ y1_3 ≤ 9) → (-2147483648 ≤ y1_2 ∧ y1_2 ≤ 2147483647) → lv_has ls 4 [(3, .int (iI (y1_3))), (2, .int (iI (y1_2))), (0, .ref (ad 3)), (1, .int (iI (z_1)))] → W p l e (rmD 0) s m args below meth c s.heap [] 0 0 Q (F0 m 4 ls []) := by
    intro k1
    induction k1 using Nat.strongRecOn with
    | _ k1 ih1 =>
      intro y1_3 y1_2 ls hk1 hb_y1_3 hb_y1_2 hl
      refine lv_iload_n hE.1 hE.2.1 dX1_leaders_4 rfl (lv_at hl 0 rfl) ?_
      refine lv_bipush (v := iI (9)) hE.1 hE.2.1 dX1_leaders_5 (by decide) ?_
      refine s_icmp_ge (a := y1_3) (b := 9) (tgt := 31) hE.1 hE.2.1 (by omega) (by omega) dX1_leaders_7 (by decide) (fun c2 => ?_) (fun c2 => ?_)
      · skip
        refine lv_iload_n hE.1 hE.2.1 dX1_leaders_31 rfl (lv_at hl 1 rfl) ?_
        exact kr _ _ _ rfl ⟨y1_2, by omega, rfl⟩ dX1_leaders_32
      · skip
        refine lv_iload_n hE.1 hE.2.1 dX1_leaders_10 rfl (lv_at hl 1 rfl) ?_
        refine lv_aload_n hE.1 hE.2.1 dX1_leaders_11 rfl (lv_at hl 2 rfl) ?_
        refine x_get (x := .ref (ad 8)) hE hK hP 3 (Nat.lt_of_lt_of_le (by decide) hNN) (xG_1 rfl) rfl hin1 15 (by decide) mw_231 rfl dX1_leaders_12 ?_
        refine lv_iload_n hE.1 hE.2.1 dX1_leaders_15 rfl (lv_at hl 0 rfl) ?_
        refine x_iald (j := iI (y1_3)) hE hK hP 8 (Nat.lt_of_lt_of_le (by decide) hNN) (xG_10 rfl) (iI_in (n := 9) (by omega)) dX1_leaders_16 ?_
        obtain ⟨z4, hz4, ez4⟩ := iI_of (ar 8 (iI (y1_3)).toNatClampNeg)
        refine x_top ez4 ?_
        refine lv_iload_n hE.1 hE.2.1 dX1_leaders_17 rfl (lv_at hl 3 rfl) ?_
        refine lv_ishr hE.1 hE.2.1 dX1_leaders_18 ?_
        obtain ⟨z5, hz5, ez5⟩ := iI_of (iI (z4) >>> (iI (z_1) &&& 31))
        refine x_top ez5 ?_
        refine lv_iconst (v := iI (1)) hE.1 hE.2.1 dX1_leaders_19 (by decide) ?_
        refine lv_iand hE.1 hE.2.1 dX1_leaders_20 ?_
        obtain ⟨z6, hz6, ez6⟩ := iI_and (iI (z5)) (iI (1)) 1 (by decide)
        refine x_top ez6 ?_
        refine lv_iload_n hE.1 hE.2.1 dX1_leaders_21 rfl (lv_at hl 0 rfl) ?_
        refine lv_ishl hE.1 hE.2.1 dX1_leaders_22 ?_
        obtain ⟨z7, hz7, ez7⟩ := iI_of (iI (z6) <<< (iI (y1_3) &&& 31))
        refine x_top ez7 ?_
        refine lv_ior hE.1 hE.2.1 dX1_leaders_23 ?_
        obtain ⟨z8, hz8, ez8⟩ := iI_of (iI (y1_2) ||| iI (z7))
        refine x_top ez8 ?_
        refine lv_istore_n (lv' := [(2, .int (iI (z8))), (3, .int (iI (y1_3))), (0, .ref (ad 3)), (1, .int (iI (z_1)))]) hE.1 hE.2.1 dX1_leaders_24 rfl hl (by decide) rfl (fun ls hl => ?_)
        refine lv_iinc (v := iI (y1_3 + 1)) (lv' := [(3, .int (iI (y1_3 + 1))), (2, .int (iI (z8))), (0, .ref (ad 3)), (1, .int (iI (z_1)))]) hE.1 hE.2.1 dX1_leaders_25 hl (k := 1) rfl ((iI_add (y1_3) (1)).trans (congrArg iI (by omega))) (by decide) rfl (fun ls hl => ?_)
        refine lv_goto (tgt := 4) hE.1 hE.2.1 dX1_leaders_28 (by decide) ?_
        exact ih1 _ (by omega) (y1_3 + 1) (z8) _ rfl (by omega) (by omega) (lv_sub hl [0, 1, 2, 3] rfl)
  exact loop1 _ (0) (0) _ rfl (by omega) (by omega) hl

theorem dX8_ahead_0 : decode cX8_ahead 0 = .ok (.aload_n 0, 1) := by decide +kernel
theorem dX8_ahead_1 : decode cX8_ahead 1 = .ok (.getfield 19, 3) := by decide +kernel
theorem dX8_ahead_4 : decode cX8_ahead 4 = .ok (.iload_n 1, 1) := by decide +kernel
theorem dX8_ahead_5 : decode cX8_ahead 5 = .ok (.invokevirtual 102, 3) := by decide +kernel
theorem dX8_ahead_8 : decode cX8_ahead 8 = .ok (.ifCond .eq 14, 3) := by decide +kernel
theorem dX8_ahead_11 : decode cX8_ahead 11 = .ok (.aload_n 0, 1) := by decide +kernel
theorem dX8_ahead_12 : decode cX8_ahead 12 = .ok (.getfield 19, 3) := by decide +kernel
theorem dX8_ahead_15 : decode cX8_ahead 15 = .ok (.iload_n 1, 1) := by decide +kernel
theorem dX8_ahead_16 : decode cX8_ahead 16 = .ok (.invokevirtual 137, 3) := by decide +kernel
theorem dX8_ahead_19 : decode cX8_ahead 19 = .ok (.goto 5, 3) := by decide +kernel
theorem dX8_ahead_22 : decode cX8_ahead 22 = .ok (.bipush (-2), 2) := by decide +kernel
theorem dX8_ahead_24 : decode cX8_ahead 24 = .ok (.ireturn, 1) := by decide +kernel
set_option maxHeartbeats 4000000 in
set_option maxRecDepth 100000 in
theorem s_X8_ahead_0 (l : Launch) (D : va_G) (K : Nat → ClassId) (ad : Nat → Nat) (mm : Option Nat) (N : Nat) (hNN : 132 ≤ N) (v ar : sI) (al : sL) (hI : XI v) (z_1 : Int) (hz_1 : -2147483648 ≤ z_1 ∧ z_1 ≤ 2147483647) : Met l yX8_ahead (wM yX8_ahead cX8_ahead 2 (some .int)) (rmD 1) (va_Pc [.ref (ad 0), .int (iI (z_1))] (wPre D K ad (xG ad K mm) N v ar al)) (vp_Si (fun r => ∃ z : Int, (-2147483648 ≤ z ∧ z ≤ 2147483647) ∧ r = iI z)) 0 0 (fun _ => False) := by
  refine s_metP (by decide) (Nat.le_of_ble_eq_true rfl) ?_
  intro p e s m below meth c ls args Q hE hB hl kr
  have hE : CallFix p m c cX8_ahead 2 s args tbG "TaleCourt" := hE
  obtain ⟨hP, hK, hN⟩ := hB
  have hl : lv_has ls 2 [(0, .ref (ad 0)), (1, .int (iI (z_1)))] := hl
  refine lv_aload_n hE.1 hE.2.1 dX8_ahead_0 rfl (lv_at hl 0 rfl) ?_
  refine x_get (x := .ref (ad 3)) hE hK hP 0 (Nat.lt_of_lt_of_le (by decide) hNN) (xG_8 rfl) rfl hin8 1 (by decide) mw_481 rfl dX8_ahead_1 ?_
  refine lv_iload_n hE.1 hE.2.1 dX8_ahead_4 rfl (lv_at hl 1 rfl) ?_
  refine x_vp (nn := 1) (As := [.int (iI (z_1))]) (rest := []) hE (s_X1_hasMotif_3 l D K ad mm N hNN v ar al hI  (z_1) (by omega)) wPre_blind (wPre_now hK hN hP) (x_recv hK hP 3 (Nat.lt_of_lt_of_le (by decide) hNN) (xG_1 rfl) rfl) rfl mw_694 mw_695 mw_696 mw_116 mw_697 (by decide +kernel) ⟨by decide, by decide⟩ hl.1 rfl (Nat.le_of_ble_eq_true rfl) ⟨Nat.zero_le _, Nat.zero_le _⟩ dX8_ahead_5 (fun r1 hr1 => ?_)
  obtain ⟨z1, hz1, rfl⟩ := hr1
  refine s_if_eq (a := z1) (tgt := 22) hE.1 hE.2.1 (by omega) dX8_ahead_8 (by decide) (fun c2 => ?_) (fun c2 => ?_)
  · skip
    refine lv_bipush (v := iI (-2)) hE.1 hE.2.1 dX8_ahead_22 (by decide) ?_
    exact kr _ _ _ rfl ⟨-2, by omega, rfl⟩ dX8_ahead_24
  · skip
    refine lv_aload_n hE.1 hE.2.1 dX8_ahead_11 rfl (lv_at hl 0 rfl) ?_
    refine x_get (x := .ref (ad 3)) hE hK hP 0 (Nat.lt_of_lt_of_le (by decide) hNN) (xG_8 rfl) rfl hin8 1 (by decide) mw_481 rfl dX8_ahead_12 ?_
    refine lv_iload_n hE.1 hE.2.1 dX8_ahead_15 rfl (lv_at hl 1 rfl) ?_
    refine x_vp (nn := 1) (As := [.int (iI (z_1))]) (rest := []) hE (s_X1_leaders_3 l D K ad mm N hNN v ar al hI  (z_1) (by omega)) wPre_blind (wPre_now hK hN hP) (x_recv hK hP 3 (Nat.lt_of_lt_of_le (by decide) hNN) (xG_1 rfl) rfl) rfl mw_714 mw_715 mw_716 mw_116 mw_717 (by decide +kernel) ⟨by decide, by decide⟩ hl.1 rfl (Nat.le_of_ble_eq_true rfl) ⟨Nat.zero_le _, Nat.zero_le _⟩ dX8_ahead_16 (fun r3 hr3 => ?_)
    obtain ⟨z3, hz3, rfl⟩ := hr3
    refine lv_goto (tgt := 24) hE.1 hE.2.1 dX8_ahead_19 (by decide) ?_
    exact kr _ _ _ rfl ⟨z3, by omega, rfl⟩ dX8_ahead_24

theorem dX1_followersOfSet_0 : decode cX1_followersOfSet 0 = .ok (.iconst 0, 1) := by decide +kernel
theorem dX1_followersOfSet_1 : decode cX1_followersOfSet 1 = .ok (.istore_n 2, 1) := by decide +kernel
theorem dX1_followersOfSet_2 : decode cX1_followersOfSet 2 = .ok (.iconst 0, 1) := by decide +kernel
theorem dX1_followersOfSet_3 : decode cX1_followersOfSet 3 = .ok (.istore_n 3, 1) := by decide +kernel
theorem dX1_followersOfSet_4 : decode cX1_followersOfSet 4 = .ok (.iload_n 3, 1) := by decide +kernel
theorem dX1_followersOfSet_5 : decode cX1_followersOfSet 5 = .ok (.bipush 9, 2) := by decide +kernel
theorem dX1_followersOfSet_7 : decode cX1_followersOfSet 7 = .ok (.if_icmp .ge 26, 3) := by decide +kernel
theorem dX1_followersOfSet_10 : decode cX1_followersOfSet 10 = .ok (.iload_n 1, 1) := by decide +kernel
theorem dX1_followersOfSet_11 : decode cX1_followersOfSet 11 = .ok (.iload_n 3, 1) := by decide +kernel
theorem dX1_followersOfSet_12 : decode cX1_followersOfSet 12 = .ok (.ishr, 1) := by decide +kernel
theorem dX1_followersOfSet_13 : decode cX1_followersOfSet 13 = .ok (.iconst 1, 1) := by decide +kernel
theorem dX1_followersOfSet_14 : decode cX1_followersOfSet 14 = .ok (.iand, 1) := by decide +kernel
theorem dX1_followersOfSet_15 : decode cX1_followersOfSet 15 = .ok (.ifCond .eq 12, 3) := by decide +kernel
theorem dX1_followersOfSet_18 : decode cX1_followersOfSet 18 = .ok (.iload_n 2, 1) := by decide +kernel
theorem dX1_followersOfSet_19 : decode cX1_followersOfSet 19 = .ok (.aload_n 0, 1) := by decide +kernel
theorem dX1_followersOfSet_20 : decode cX1_followersOfSet 20 = .ok (.getfield 24, 3) := by decide +kernel
theorem dX1_followersOfSet_23 : decode cX1_followersOfSet 23 = .ok (.iload_n 3, 1) := by decide +kernel
theorem dX1_followersOfSet_24 : decode cX1_followersOfSet 24 = .ok (.iaload, 1) := by decide +kernel
theorem dX1_followersOfSet_25 : decode cX1_followersOfSet 25 = .ok (.ior, 1) := by decide +kernel
theorem dX1_followersOfSet_26 : decode cX1_followersOfSet 26 = .ok (.istore_n 2, 1) := by decide +kernel
theorem dX1_followersOfSet_27 : decode cX1_followersOfSet 27 = .ok (.iinc 3 1, 3) := by decide +kernel
theorem dX1_followersOfSet_30 : decode cX1_followersOfSet 30 = .ok (.goto (-26), 3) := by decide +kernel
theorem dX1_followersOfSet_33 : decode cX1_followersOfSet 33 = .ok (.iload_n 2, 1) := by decide +kernel
theorem dX1_followersOfSet_34 : decode cX1_followersOfSet 34 = .ok (.ireturn, 1) := by decide +kernel
set_option maxHeartbeats 4000000 in
set_option maxRecDepth 100000 in
theorem s_X1_followersOfSet_3 (l : Launch) (D : va_G) (K : Nat → ClassId) (ad : Nat → Nat) (mm : Option Nat) (N : Nat) (hNN : 132 ≤ N) (v ar : sI) (al : sL) (hI : XI v) (z_1 : Int) (hz_1 : -2147483648 ≤ z_1 ∧ z_1 ≤ 2147483647) : Met l yX1_followersOfSet (wM yX1_followersOfSet cX1_followersOfSet 4 (some .int)) (rmD 0) (va_Pc [.ref (ad 3), .int (iI (z_1))] (wPre D K ad (xG ad K mm) N v ar al)) (vp_Si (fun r => ∃ z : Int, (-2147483648 ≤ z ∧ z ≤ 2147483647) ∧ r = iI z)) 0 0 (fun _ => False) := by
  refine s_metP (by decide) (Nat.le_of_ble_eq_true rfl) ?_
  intro p e s m below meth c ls args Q hE hB hl kr
  have hE : CallFix p m c cX1_followersOfSet 4 s args tbG "TaleCourt$Court" := hE
  obtain ⟨hP, hK, hN⟩ := hB
  have hl : lv_has ls 4 [(0, .ref (ad 3)), (1, .int (iI (z_1)))] := hl
  refine lv_iconst (v := iI (0)) hE.1 hE.2.1 dX1_followersOfSet_0 (by decide) ?_
  refine lv_istore_n (lv' := [(2, .int (iI (0))), (0, .ref (ad 3)), (1, .int (iI (z_1)))]) hE.1 hE.2.1 dX1_followersOfSet_1 rfl hl (by decide) rfl (fun ls hl => ?_)
  refine lv_iconst (v := iI (0)) hE.1 hE.2.1 dX1_followersOfSet_2 (by decide) ?_
  refine lv_istore_n (lv' := [(3, .int (iI (0))), (2, .int (iI (0))), (0, .ref (ad 3)), (1, .int (iI (z_1)))]) hE.1 hE.2.1 dX1_followersOfSet_3 rfl hl (by decide) rfl (fun ls hl => ?_)
  have loop1 : ∀ (k1 : Nat) (y1_3 : Int) (y1_2 : Int) (ls : Array Slot), (9 - y1_3).toNat = k1 → (0 ≤ y1_3 ∧ y1_3 ≤ 9) → (-2147483648 ≤ y1_2 ∧ y1_2 ≤ 2147483647) → lv_has ls 4 [(3, .int (iI (y1_3))), (2, .int (iI (y1_2))), (0, .ref (ad 3)), (1, .int (iI (z_1)))] → W p l e (rmD 0) s m args below meth c s.heap [] 0 0 Q (F0 m 4 ls []) := by
    intro k1
    induction k1 using Nat.strongRecOn with
    | _ k1 ih1 =>
      intro y1_3 y1_2 ls hk1 hb_y1_3 hb_y1_2 hl
      refine lv_iload_n hE.1 hE.2.1 dX1_followersOfSet_4 rfl (lv_at hl 0 rfl) ?_
      refine lv_bipush (v := iI (9)) hE.1 hE.2.1 dX1_followersOfSet_5 (by decide) ?_
      refine s_icmp_ge (a := y1_3) (b := 9) (tgt := 33) hE.1 hE.2.1 (by omega) (by omega) dX1_followersOfSet_7 (by decide) (fun c2 => ?_) (fun c2 => ?_)
      · skip
        refine lv_iload_n hE.1 hE.2.1 dX1_followersOfSet_33 rfl (lv_at hl 1 rfl) ?_
        exact kr _ _ _ rfl ⟨y1_2, by omega, rfl⟩ dX1_followersOfSet_34
      · skip
        refine lv_iload_n hE.1 hE.2.1 dX1_followersOfSet_10 rfl (lv_at hl 3 rfl) ?_
        refine lv_iload_n hE.1 hE.2.1 dX1_followersOfSet_11 rfl (lv_at hl 0 rfl) ?_
        refine lv_ishr hE.1 hE.2.1 dX1_followersOfSet_12 ?_
        obtain ⟨z3, hz3, ez3⟩ := iI_of (iI (z_1) >>> (iI (y1_3) &&& 31))
        refine x_top ez3 ?_
        refine lv_iconst (v := iI (1)) hE.1 hE.2.1 dX1_followersOfSet_13 (by decide) ?_
        refine lv_iand hE.1 hE.2.1 dX1_followersOfSet_14 ?_
        obtain ⟨z4, hz4, ez4⟩ := iI_and (iI (z3)) (iI (1)) 1 (by decide)
        refine x_top ez4 ?_
        refine s_if_eq (a := z4) (tgt := 27) hE.1 hE.2.1 (by omega) dX1_followersOfSet_15 (by decide) (fun c5 => ?_) (fun c5 => ?_)
        · skip
          refine lv_iinc (v := iI (y1_3 + 1)) (lv' := [(3, .int (iI (y1_3 + 1))), (2, .int (iI (y1_2))), (0, .ref (ad 3)), (1, .int (iI (z_1)))]) hE.1 hE.2.1 dX1_followersOfSet_27 hl (k := 0) rfl ((iI_add (y1_3) (1)).trans (congrArg iI (by omega))) (by decide) rfl (fun ls hl => ?_)
          refine lv_goto (tgt := 4) hE.1 hE.2.1 dX1_followersOfSet_30 (by decide) ?_
          exact ih1 _ (by omega) (y1_3 + 1) (y1_2) _ rfl (by omega) (by omega) (lv_sub hl [0, 1, 2, 3] rfl)
        · skip
          refine lv_iload_n hE.1 hE.2.1 dX1_followersOfSet_18 rfl (lv_at hl 1 rfl) ?_
          refine lv_aload_n hE.1 hE.2.1 dX1_followersOfSet_19 rfl (lv_at hl 2 rfl) ?_
          refine x_get (x := .ref (ad 8)) hE hK hP 3 (Nat.lt_of_lt_of_le (by decide) hNN) (xG_1 rfl) rfl hin1 15 (by decide) mw_231 rfl dX1_followersOfSet_20 ?_
          refine lv_iload_n hE.1 hE.2.1 dX1_followersOfSet_23 rfl (lv_at hl 0 rfl) ?_
          refine x_iald (j := iI (y1_3)) hE hK hP 8 (Nat.lt_of_lt_of_le (by decide) hNN) (xG_10 rfl) (iI_in (n := 9) (by omega)) dX1_followersOfSet_24 ?_
          obtain ⟨z7, hz7, ez7⟩ := iI_of (ar 8 (iI (y1_3)).toNatClampNeg)
          refine x_top ez7 ?_
          refine lv_ior hE.1 hE.2.1 dX1_followersOfSet_25 ?_
          obtain ⟨z8, hz8, ez8⟩ := iI_of (iI (y1_2) ||| iI (z7))
          refine x_top ez8 ?_
          refine lv_istore_n (lv' := [(2, .int (iI (z8))), (3, .int (iI (y1_3))), (0, .ref (ad 3)), (1, .int (iI (z_1)))]) hE.1 hE.2.1 dX1_followersOfSet_26 rfl hl (by decide) rfl (fun ls hl => ?_)
          refine lv_iinc (v := iI (y1_3 + 1)) (lv' := [(3, .int (iI (y1_3 + 1))), (2, .int (iI (z8))), (0, .ref (ad 3)), (1, .int (iI (z_1)))]) hE.1 hE.2.1 dX1_followersOfSet_27 hl (k := 1) rfl ((iI_add (y1_3) (1)).trans (congrArg iI (by omega))) (by decide) rfl (fun ls hl => ?_)
          refine lv_goto (tgt := 4) hE.1 hE.2.1 dX1_followersOfSet_30 (by decide) ?_
          exact ih1 _ (by omega) (y1_3 + 1) (z8) _ rfl (by omega) (by omega) (lv_sub hl [0, 1, 2, 3] rfl)
  exact loop1 _ (0) (0) _ rfl (by omega) (by omega) hl

theorem dX1_reached_0 : decode cX1_reached 0 = .ok (.aload_n 0, 1) := by decide +kernel
theorem dX1_reached_1 : decode cX1_reached 1 = .ok (.iconst 1, 1) := by decide +kernel
theorem dX1_reached_2 : decode cX1_reached 2 = .ok (.iload_n 1, 1) := by decide +kernel
theorem dX1_reached_3 : decode cX1_reached 3 = .ok (.ishl, 1) := by decide +kernel
theorem dX1_reached_4 : decode cX1_reached 4 = .ok (.invokevirtual 94, 3) := by decide +kernel
theorem dX1_reached_7 : decode cX1_reached 7 = .ok (.istore_n 2, 1) := by decide +kernel
theorem dX1_reached_8 : decode cX1_reached 8 = .ok (.iconst 0, 1) := by decide +kernel
theorem dX1_reached_9 : decode cX1_reached 9 = .ok (.istore_n 3, 1) := by decide +kernel
theorem dX1_reached_10 : decode cX1_reached 10 = .ok (.iload_n 3, 1) := by decide +kernel
theorem dX1_reached_11 : decode cX1_reached 11 = .ok (.bipush 9, 2) := by decide +kernel
theorem dX1_reached_13 : decode cX1_reached 13 = .ok (.if_icmp .ge 17, 3) := by decide +kernel
theorem dX1_reached_16 : decode cX1_reached 16 = .ok (.iload_n 2, 1) := by decide +kernel
theorem dX1_reached_17 : decode cX1_reached 17 = .ok (.aload_n 0, 1) := by decide +kernel
theorem dX1_reached_18 : decode cX1_reached 18 = .ok (.iload_n 2, 1) := by decide +kernel
theorem dX1_reached_19 : decode cX1_reached 19 = .ok (.invokevirtual 94, 3) := by decide +kernel
theorem dX1_reached_22 : decode cX1_reached 22 = .ok (.ior, 1) := by decide +kernel
theorem dX1_reached_23 : decode cX1_reached 23 = .ok (.istore_n 2, 1) := by decide +kernel
theorem dX1_reached_24 : decode cX1_reached 24 = .ok (.iinc 3 1, 3) := by decide +kernel
theorem dX1_reached_27 : decode cX1_reached 27 = .ok (.goto (-17), 3) := by decide +kernel
theorem dX1_reached_30 : decode cX1_reached 30 = .ok (.iload_n 2, 1) := by decide +kernel
theorem dX1_reached_31 : decode cX1_reached 31 = .ok (.ireturn, 1) := by decide +kernel
set_option maxHeartbeats 4000000 in
set_option maxRecDepth 100000 in
theorem s_X1_reached_3 (l : Launch) (D : va_G) (K : Nat → ClassId) (ad : Nat → Nat) (mm : Option Nat) (N : Nat) (hNN : 132 ≤ N) (v ar : sI) (al : sL) (hI : XI v) (z_1 : Int) (hz_1 : -2147483648 ≤ z_1 ∧ z_1 ≤ 2147483647) : Met l yX1_reached (wM yX1_reached cX1_reached 4 (some .int)) (rmD 1) (va_Pc [.ref (ad 3), .int (iI (z_1))] (wPre D K ad (xG ad K mm) N v ar al)) (vp_Si (fun r => ∃ z : Int, (-2147483648 ≤ z ∧ z ≤ 2147483647) ∧ r = iI z)) 0 0 (fun _ => False) := by
  refine s_metP (by decide) (Nat.le_of_ble_eq_true rfl) ?_
  intro p e s m below meth c ls args Q hE hB hl kr
  have hE : CallFix p m c cX1_reached 4 s args tbG "TaleCourt$Court" := hE
  obtain ⟨hP, hK, hN⟩ := hB
  have hl : lv_has ls 4 [(0, .ref (ad 3)), (1, .int (iI (z_1)))] := hl
  refine lv_aload_n hE.1 hE.2.1 dX1_reached_0 rfl (lv_at hl 0 rfl) ?_
  refine lv_iconst (v := iI (1)) hE.1 hE.2.1 dX1_reached_1 (by decide) ?_
  refine lv_iload_n hE.1 hE.2.1 dX1_reached_2 rfl (lv_at hl 1 rfl) ?_
  refine lv_ishl hE.1 hE.2.1 dX1_reached_3 ?_
  obtain ⟨z1, hz1, ez1⟩ := iI_of (iI (1) <<< (iI (z_1) &&& 31))
  refine x_top ez1 ?_
  refine x_vp (nn := 1) (As := [.int (iI (z1))]) (rest := []) hE (s_X1_followersOfSet_3 l D K ad mm N hNN v ar al hI  (z1) (by omega)) wPre_blind (wPre_now hK hN hP) (x_recv hK hP 3 (Nat.lt_of_lt_of_le (by decide) hNN) (xG_1 rfl) rfl) rfl mw_726 mw_728 mw_15 mw_116 mw_729 (by decide +kernel) ⟨by decide, by decide⟩ hl.1 rfl (Nat.le_of_ble_eq_true rfl) ⟨Nat.zero_le _, Nat.zero_le _⟩ dX1_reached_4 (fun r2 hr2 => ?_)
  obtain ⟨z2, hz2, rfl⟩ := hr2
  refine lv_istore_n (lv' := [(2, .int (iI (z2))), (0, .ref (ad 3)), (1, .int (iI (z_1)))]) hE.1 hE.2.1 dX1_reached_7 rfl hl (by decide) rfl (fun ls hl => ?_)
  refine lv_iconst (v := iI (0)) hE.1 hE.2.1 dX1_reached_8 (by decide) ?_
  refine lv_istore_n (lv' := [(3, .int (iI (0))), (2, .int (iI (z2))), (0, .ref (ad 3)), (1, .int (iI (z_1)))]) hE.1 hE.2.1 dX1_reached_9 rfl hl (by decide) rfl (fun ls hl => ?_)
  have loop3 : ∀ (k3 : Nat) (y3_3 : Int) (y3_2 : Int) (ls : Array Slot), (9 - y3_3).toNat = k3 → (0 ≤ y3_3 ∧ y3_3 ≤ 9) → (-2147483648 ≤ y3_2 ∧ y3_2 ≤ 2147483647) → lv_has ls 4 [(3, .int (iI (y3_3))), (2, .int (iI (y3_2))), (0, .ref (ad 3)), (1, .int (iI (z_1)))] → W p l e (rmD 1) s m args below meth c s.heap [] 0 0 Q (F0 m 10 ls []) := by
    intro k3
    induction k3 using Nat.strongRecOn with
    | _ k3 ih3 =>
      intro y3_3 y3_2 ls hk3 hb_y3_3 hb_y3_2 hl
      refine lv_iload_n hE.1 hE.2.1 dX1_reached_10 rfl (lv_at hl 0 rfl) ?_
      refine lv_bipush (v := iI (9)) hE.1 hE.2.1 dX1_reached_11 (by decide) ?_
      refine s_icmp_ge (a := y3_3) (b := 9) (tgt := 30) hE.1 hE.2.1 (by omega) (by omega) dX1_reached_13 (by decide) (fun c4 => ?_) (fun c4 => ?_)
      · skip
        refine lv_iload_n hE.1 hE.2.1 dX1_reached_30 rfl (lv_at hl 1 rfl) ?_
        exact kr _ _ _ rfl ⟨y3_2, by omega, rfl⟩ dX1_reached_31
      · skip
        refine lv_iload_n hE.1 hE.2.1 dX1_reached_16 rfl (lv_at hl 1 rfl) ?_
        refine lv_aload_n hE.1 hE.2.1 dX1_reached_17 rfl (lv_at hl 2 rfl) ?_
        refine lv_iload_n hE.1 hE.2.1 dX1_reached_18 rfl (lv_at hl 1 rfl) ?_
        refine x_vp (nn := 1) (As := [.int (iI (y3_2))]) (rest := [.int (iI (y3_2))]) hE (s_X1_followersOfSet_3 l D K ad mm N hNN v ar al hI  (y3_2) (by omega)) wPre_blind (wPre_now hK hN hP) (x_recv hK hP 3 (Nat.lt_of_lt_of_le (by decide) hNN) (xG_1 rfl) rfl) rfl mw_726 mw_728 mw_15 mw_116 mw_729 (by decide +kernel) ⟨by decide, by decide⟩ hl.1 rfl (Nat.le_of_ble_eq_true rfl) ⟨Nat.zero_le _, Nat.zero_le _⟩ dX1_reached_19 (fun r5 hr5 => ?_)
        obtain ⟨z5, hz5, rfl⟩ := hr5
        refine lv_ior hE.1 hE.2.1 dX1_reached_22 ?_
        obtain ⟨z6, hz6, ez6⟩ := iI_of (iI (y3_2) ||| iI (z5))
        refine x_top ez6 ?_
        refine lv_istore_n (lv' := [(2, .int (iI (z6))), (3, .int (iI (y3_3))), (0, .ref (ad 3)), (1, .int (iI (z_1)))]) hE.1 hE.2.1 dX1_reached_23 rfl hl (by decide) rfl (fun ls hl => ?_)
        refine lv_iinc (v := iI (y3_3 + 1)) (lv' := [(3, .int (iI (y3_3 + 1))), (2, .int (iI (z6))), (0, .ref (ad 3)), (1, .int (iI (z_1)))]) hE.1 hE.2.1 dX1_reached_24 hl (k := 1) rfl ((iI_add (y3_3) (1)).trans (congrArg iI (by omega))) (by decide) rfl (fun ls hl => ?_)
        refine lv_goto (tgt := 10) hE.1 hE.2.1 dX1_reached_27 (by decide) ?_
        exact ih3 _ (by omega) (y3_3 + 1) (z6) _ rfl (by omega) (by omega) (lv_sub hl [0, 1, 2, 3] rfl)
  exact loop3 _ (0) (z2) _ rfl (by omega) (by omega) hl

theorem dX8_comes_0 : decode cX8_comes 0 = .ok (.aload_n 0, 1) := by decide +kernel
theorem dX8_comes_1 : decode cX8_comes 1 = .ok (.getfield 19, 3) := by decide +kernel
theorem dX8_comes_4 : decode cX8_comes 4 = .ok (.iload_n 1, 1) := by decide +kernel
theorem dX8_comes_5 : decode cX8_comes 5 = .ok (.invokevirtual 102, 3) := by decide +kernel
theorem dX8_comes_8 : decode cX8_comes 8 = .ok (.ifCond .eq 14, 3) := by decide +kernel
theorem dX8_comes_11 : decode cX8_comes 11 = .ok (.aload_n 0, 1) := by decide +kernel
theorem dX8_comes_12 : decode cX8_comes 12 = .ok (.getfield 19, 3) := by decide +kernel
theorem dX8_comes_15 : decode cX8_comes 15 = .ok (.iload_n 1, 1) := by decide +kernel
theorem dX8_comes_16 : decode cX8_comes 16 = .ok (.invokevirtual 141, 3) := by decide +kernel
theorem dX8_comes_19 : decode cX8_comes 19 = .ok (.goto 5, 3) := by decide +kernel
theorem dX8_comes_22 : decode cX8_comes 22 = .ok (.bipush (-2), 2) := by decide +kernel
theorem dX8_comes_24 : decode cX8_comes 24 = .ok (.ireturn, 1) := by decide +kernel
set_option maxHeartbeats 4000000 in
set_option maxRecDepth 100000 in
theorem s_X8_comes_0 (l : Launch) (D : va_G) (K : Nat → ClassId) (ad : Nat → Nat) (mm : Option Nat) (N : Nat) (hNN : 132 ≤ N) (v ar : sI) (al : sL) (hI : XI v) (z_1 : Int) (hz_1 : -2147483648 ≤ z_1 ∧ z_1 ≤ 2147483647) : Met l yX8_comes (wM yX8_comes cX8_comes 2 (some .int)) (rmD 2) (va_Pc [.ref (ad 0), .int (iI (z_1))] (wPre D K ad (xG ad K mm) N v ar al)) (vp_Si (fun r => ∃ z : Int, (-2147483648 ≤ z ∧ z ≤ 2147483647) ∧ r = iI z)) 0 0 (fun _ => False) := by
  refine s_metP (by decide) (Nat.le_of_ble_eq_true rfl) ?_
  intro p e s m below meth c ls args Q hE hB hl kr
  have hE : CallFix p m c cX8_comes 2 s args tbG "TaleCourt" := hE
  obtain ⟨hP, hK, hN⟩ := hB
  have hl : lv_has ls 2 [(0, .ref (ad 0)), (1, .int (iI (z_1)))] := hl
  refine lv_aload_n hE.1 hE.2.1 dX8_comes_0 rfl (lv_at hl 0 rfl) ?_
  refine x_get (x := .ref (ad 3)) hE hK hP 0 (Nat.lt_of_lt_of_le (by decide) hNN) (xG_8 rfl) rfl hin8 1 (by decide) mw_481 rfl dX8_comes_1 ?_
  refine lv_iload_n hE.1 hE.2.1 dX8_comes_4 rfl (lv_at hl 1 rfl) ?_
  refine x_vp (nn := 1) (As := [.int (iI (z_1))]) (rest := []) hE (s_X1_hasMotif_3 l D K ad mm N hNN v ar al hI  (z_1) (by omega)) wPre_blind (wPre_now hK hN hP) (x_recv hK hP 3 (Nat.lt_of_lt_of_le (by decide) hNN) (xG_1 rfl) rfl) rfl mw_694 mw_695 mw_696 mw_116 mw_697 (by decide +kernel) ⟨by decide, by decide⟩ hl.1 rfl (Nat.le_of_ble_eq_true rfl) ⟨Nat.zero_le _, Nat.zero_le _⟩ dX8_comes_5 (fun r1 hr1 => ?_)
  obtain ⟨z1, hz1, rfl⟩ := hr1
  refine s_if_eq (a := z1) (tgt := 22) hE.1 hE.2.1 (by omega) dX8_comes_8 (by decide) (fun c2 => ?_) (fun c2 => ?_)
  · skip
    refine lv_bipush (v := iI (-2)) hE.1 hE.2.1 dX8_comes_22 (by decide) ?_
    exact kr _ _ _ rfl ⟨-2, by omega, rfl⟩ dX8_comes_24
  · skip
    refine lv_aload_n hE.1 hE.2.1 dX8_comes_11 rfl (lv_at hl 0 rfl) ?_
    refine x_get (x := .ref (ad 3)) hE hK hP 0 (Nat.lt_of_lt_of_le (by decide) hNN) (xG_8 rfl) rfl hin8 1 (by decide) mw_481 rfl dX8_comes_12 ?_
    refine lv_iload_n hE.1 hE.2.1 dX8_comes_15 rfl (lv_at hl 1 rfl) ?_
    refine x_vp (nn := 1) (As := [.int (iI (z_1))]) (rest := []) hE (s_X1_reached_3 l D K ad mm N hNN v ar al hI  (z_1) (by omega)) wPre_blind (wPre_now hK hN hP) (x_recv hK hP 3 (Nat.lt_of_lt_of_le (by decide) hNN) (xG_1 rfl) rfl) rfl mw_722 mw_723 mw_724 mw_116 mw_725 (by decide +kernel) ⟨by decide, by decide⟩ hl.1 rfl (Nat.le_of_ble_eq_true rfl) ⟨Nat.zero_le _, Nat.zero_le _⟩ dX8_comes_16 (fun r3 hr3 => ?_)
    obtain ⟨z3, hz3, rfl⟩ := hr3
    refine lv_goto (tgt := 24) hE.1 hE.2.1 dX8_comes_19 (by decide) ?_
    exact kr _ _ _ rfl ⟨z3, by omega, rfl⟩ dX8_comes_24

theorem dX1_shortestChain_0 : decode cX1_shortestChain 0 = .ok (.iconst 1, 1) := by decide +kernel
theorem dX1_shortestChain_1 : decode cX1_shortestChain 1 = .ok (.iload_n 1, 1) := by decide +kernel
theorem dX1_shortestChain_2 : decode cX1_shortestChain 2 = .ok (.ishl, 1) := by decide +kernel
theorem dX1_shortestChain_3 : decode cX1_shortestChain 3 = .ok (.istore_n 3, 1) := by decide +kernel
theorem dX1_shortestChain_4 : decode cX1_shortestChain 4 = .ok (.iconst 1, 1) := by decide +kernel
theorem dX1_shortestChain_5 : decode cX1_shortestChain 5 = .ok (.istore 4, 2) := by decide +kernel
theorem dX1_shortestChain_7 : decode cX1_shortestChain 7 = .ok (.iload 4, 2) := by decide +kernel
theorem dX1_shortestChain_9 : decode cX1_shortestChain 9 = .ok (.bipush 9, 2) := by decide +kernel
theorem dX1_shortestChain_11 : decode cX1_shortestChain 11 = .ok (.if_icmp .gt 28, 3) := by decide +kernel
theorem dX1_shortestChain_14 : decode cX1_shortestChain 14 = .ok (.iload_n 3, 1) := by decide +kernel
theorem dX1_shortestChain_15 : decode cX1_shortestChain 15 = .ok (.iload_n 2, 1) := by decide +kernel
theorem dX1_shortestChain_16 : decode cX1_shortestChain 16 = .ok (.ishr, 1) := by decide +kernel
theorem dX1_shortestChain_17 : decode cX1_shortestChain 17 = .ok (.iconst 1, 1) := by decide +kernel
theorem dX1_shortestChain_18 : decode cX1_shortestChain 18 = .ok (.iand, 1) := by decide +kernel
theorem dX1_shortestChain_19 : decode cX1_shortestChain 19 = .ok (.ifCond .eq 6, 3) := by decide +kernel
theorem dX1_shortestChain_22 : decode cX1_shortestChain 22 = .ok (.iload 4, 2) := by decide +kernel
theorem dX1_shortestChain_24 : decode cX1_shortestChain 24 = .ok (.ireturn, 1) := by decide +kernel
theorem dX1_shortestChain_25 : decode cX1_shortestChain 25 = .ok (.iload_n 3, 1) := by decide +kernel
theorem dX1_shortestChain_26 : decode cX1_shortestChain 26 = .ok (.aload_n 0, 1) := by decide +kernel
theorem dX1_shortestChain_27 : decode cX1_shortestChain 27 = .ok (.iload_n 3, 1) := by decide +kernel
theorem dX1_shortestChain_28 : decode cX1_shortestChain 28 = .ok (.invokevirtual 94, 3) := by decide +kernel
theorem dX1_shortestChain_31 : decode cX1_shortestChain 31 = .ok (.ior, 1) := by decide +kernel
theorem dX1_shortestChain_32 : decode cX1_shortestChain 32 = .ok (.istore_n 3, 1) := by decide +kernel
theorem dX1_shortestChain_33 : decode cX1_shortestChain 33 = .ok (.iinc 4 1, 3) := by decide +kernel
theorem dX1_shortestChain_36 : decode cX1_shortestChain 36 = .ok (.goto (-29), 3) := by decide +kernel
theorem dX1_shortestChain_39 : decode cX1_shortestChain 39 = .ok (.iconst (-1), 1) := by decide +kernel
theorem dX1_shortestChain_40 : decode cX1_shortestChain 40 = .ok (.ireturn, 1) := by decide +kernel
set_option maxHeartbeats 4000000 in
set_option maxRecDepth 100000 in
theorem s_X1_shortestChain_3 (l : Launch) (D : va_G) (K : Nat → ClassId) (ad : Nat → Nat) (mm : Option Nat) (N : Nat) (hNN : 132 ≤ N) (v ar : sI) (al : sL) (hI : XI v) (z_1 : Int) (hz_1 : -2147483648 ≤ z_1 ∧ z_1 ≤ 2147483647) (z_2 : Int) (hz_2 : -2147483648 ≤ z_2 ∧ z_2 ≤ 2147483647) : Met l yX1_shortestChain (wM yX1_shortestChain cX1_shortestChain 5 (some .int)) (rmD 1) (va_Pc [.ref (ad 3), .int (iI (z_1)), .int (iI (z_2))] (wPre D K ad (xG ad K mm) N v ar al)) (vp_Si (fun r => ∃ z : Int, (-2147483648 ≤ z ∧ z ≤ 2147483647) ∧ r = iI z)) 0 0 (fun _ => False) := by
  refine s_metP (by decide) (Nat.le_of_ble_eq_true rfl) ?_
  intro p e s m below meth c ls args Q hE hB hl kr
  have hE : CallFix p m c cX1_shortestChain 5 s args tbG "TaleCourt$Court" := hE
  obtain ⟨hP, hK, hN⟩ := hB
  have hl : lv_has ls 5 [(0, .ref (ad 3)), (1, .int (iI (z_1))), (2, .int (iI (z_2)))] := hl
  refine lv_iconst (v := iI (1)) hE.1 hE.2.1 dX1_shortestChain_0 (by decide) ?_
  refine lv_iload_n hE.1 hE.2.1 dX1_shortestChain_1 rfl (lv_at hl 1 rfl) ?_
  refine lv_ishl hE.1 hE.2.1 dX1_shortestChain_2 ?_
  obtain ⟨z1, hz1, ez1⟩ := iI_of (iI (1) <<< (iI (z_1) &&& 31))
  refine x_top ez1 ?_
  refine lv_istore_n (lv' := [(3, .int (iI (z1))), (0, .ref (ad 3)), (1, .int (iI (z_1))), (2, .int (iI (z_2)))]) hE.1 hE.2.1 dX1_shortestChain_3 rfl hl (by decide) rfl (fun ls hl => ?_)
  refine lv_iconst (v := iI (1)) hE.1 hE.2.1 dX1_shortestChain_4 (by decide) ?_
  refine lv_istore (lv' := [(4, .int (iI (1))), (3, .int (iI (z1))), (0, .ref (ad 3)), (1, .int (iI (z_1))), (2, .int (iI (z_2)))]) hE.1 hE.2.1 dX1_shortestChain_5 hl (by decide) rfl (fun ls hl => ?_)
  have loop2 : ∀ (k2 : Nat) (y2_4 : Int) (y2_3 : Int) (ls : Array Slot), (10 - y2_4).toNat = k2 → (1 ≤ y2_4 ∧ y2_4 ≤ 10) → (-2147483648 ≤ y2_3 ∧ y2_3 ≤ 2147483647) → lv_has ls 5 [(4, .int (iI (y2_4))), (3, .int (iI (y2_3))), (0, .ref (ad 3)), (1, .int (iI (z_1))), (2, .int (iI (z_2)))] → W p l e (rmD 1) s m args below meth c s.heap [] 0 0 Q (F0 m 7 ls []) := by
    intro k2
    induction k2 using Nat.strongRecOn with
    | _ k2 ih2 =>
      intro y2_4 y2_3 ls hk2 hb_y2_4 hb_y2_3 hl
      refine lv_iload hE.1 hE.2.1 dX1_shortestChain_7 (lv_at hl 0 rfl) ?_
      refine lv_bipush (v := iI (9)) hE.1 hE.2.1 dX1_shortestChain_9 (by decide) ?_
      refine s_icmp_gt (a := y2_4) (b := 9) (tgt := 39) hE.1 hE.2.1 (by omega) (by omega) dX1_shortestChain_11 (by decide) (fun c3 => ?_) (fun c3 => ?_)
      · skip
        refine lv_iconst (v := iI (-1)) hE.1 hE.2.1 dX1_shortestChain_39 (by decide) ?_
        exact kr _ _ _ rfl ⟨-1, by omega, rfl⟩ dX1_shortestChain_40
      · skip
        refine lv_iload_n hE.1 hE.2.1 dX1_shortestChain_14 rfl (lv_at hl 1 rfl) ?_
        refine lv_iload_n hE.1 hE.2.1 dX1_shortestChain_15 rfl (lv_at hl 4 rfl) ?_
        refine lv_ishr hE.1 hE.2.1 dX1_shortestChain_16 ?_
        obtain ⟨z4, hz4, ez4⟩ := iI_of (iI (y2_3) >>> (iI (z_2) &&& 31))
        refine x_top ez4 ?_
        refine lv_iconst (v := iI (1)) hE.1 hE.2.1 dX1_shortestChain_17 (by decide) ?_
        refine lv_iand hE.1 hE.2.1 dX1_shortestChain_18 ?_
        obtain ⟨z5, hz5, ez5⟩ := iI_and (iI (z4)) (iI (1)) 1 (by decide)
        refine x_top ez5 ?_
        refine s_if_eq (a := z5) (tgt := 25) hE.1 hE.2.1 (by omega) dX1_shortestChain_19 (by decide) (fun c6 => ?_) (fun c6 => ?_)
        · skip
          refine lv_iload_n hE.1 hE.2.1 dX1_shortestChain_25 rfl (lv_at hl 1 rfl) ?_
          refine lv_aload_n hE.1 hE.2.1 dX1_shortestChain_26 rfl (lv_at hl 2 rfl) ?_
          refine lv_iload_n hE.1 hE.2.1 dX1_shortestChain_27 rfl (lv_at hl 1 rfl) ?_
          refine x_vp (nn := 1) (As := [.int (iI (y2_3))]) (rest := [.int (iI (y2_3))]) hE (s_X1_followersOfSet_3 l D K ad mm N hNN v ar al hI  (y2_3) (by omega)) wPre_blind (wPre_now hK hN hP) (x_recv hK hP 3 (Nat.lt_of_lt_of_le (by decide) hNN) (xG_1 rfl) rfl) rfl mw_726 mw_728 mw_15 mw_116 mw_729 (by decide +kernel) ⟨by decide, by decide⟩ hl.1 rfl (Nat.le_of_ble_eq_true rfl) ⟨Nat.zero_le _, Nat.zero_le _⟩ dX1_shortestChain_28 (fun r7 hr7 => ?_)
          obtain ⟨z7, hz7, rfl⟩ := hr7
          refine lv_ior hE.1 hE.2.1 dX1_shortestChain_31 ?_
          obtain ⟨z8, hz8, ez8⟩ := iI_of (iI (y2_3) ||| iI (z7))
          refine x_top ez8 ?_
          refine lv_istore_n (lv' := [(3, .int (iI (z8))), (4, .int (iI (y2_4))), (0, .ref (ad 3)), (1, .int (iI (z_1))), (2, .int (iI (z_2)))]) hE.1 hE.2.1 dX1_shortestChain_32 rfl hl (by decide) rfl (fun ls hl => ?_)
          refine lv_iinc (v := iI (y2_4 + 1)) (lv' := [(4, .int (iI (y2_4 + 1))), (3, .int (iI (z8))), (0, .ref (ad 3)), (1, .int (iI (z_1))), (2, .int (iI (z_2)))]) hE.1 hE.2.1 dX1_shortestChain_33 hl (k := 1) rfl ((iI_add (y2_4) (1)).trans (congrArg iI (by omega))) (by decide) rfl (fun ls hl => ?_)
          refine lv_goto (tgt := 7) hE.1 hE.2.1 dX1_shortestChain_36 (by decide) ?_
          exact ih2 _ (by omega) (y2_4 + 1) (z8) _ rfl (by omega) (by omega) (lv_sub hl [0, 1, 2, 3, 4] rfl)
        · skip
          refine lv_iload hE.1 hE.2.1 dX1_shortestChain_22 (lv_at hl 0 rfl) ?_
          exact kr _ _ _ rfl ⟨y2_4, by omega, rfl⟩ dX1_shortestChain_24
  exact loop2 _ (1) (z1) _ rfl (by omega) (by omega) hl

theorem dX8_chain_0 : decode cX8_chain 0 = .ok (.aload_n 0, 1) := by decide +kernel
theorem dX8_chain_1 : decode cX8_chain 1 = .ok (.getfield 19, 3) := by decide +kernel
theorem dX8_chain_4 : decode cX8_chain 4 = .ok (.iload_n 1, 1) := by decide +kernel
theorem dX8_chain_5 : decode cX8_chain 5 = .ok (.invokevirtual 102, 3) := by decide +kernel
theorem dX8_chain_8 : decode cX8_chain 8 = .ok (.ifCond .eq 14, 3) := by decide +kernel
theorem dX8_chain_11 : decode cX8_chain 11 = .ok (.aload_n 0, 1) := by decide +kernel
theorem dX8_chain_12 : decode cX8_chain 12 = .ok (.getfield 19, 3) := by decide +kernel
theorem dX8_chain_15 : decode cX8_chain 15 = .ok (.iload_n 2, 1) := by decide +kernel
theorem dX8_chain_16 : decode cX8_chain 16 = .ok (.invokevirtual 102, 3) := by decide +kernel
theorem dX8_chain_19 : decode cX8_chain 19 = .ok (.ifCond .ne 6, 3) := by decide +kernel
theorem dX8_chain_22 : decode cX8_chain 22 = .ok (.bipush (-2), 2) := by decide +kernel
theorem dX8_chain_24 : decode cX8_chain 24 = .ok (.ireturn, 1) := by decide +kernel
theorem dX8_chain_25 : decode cX8_chain 25 = .ok (.aload_n 0, 1) := by decide +kernel
theorem dX8_chain_26 : decode cX8_chain 26 = .ok (.getfield 19, 3) := by decide +kernel
theorem dX8_chain_29 : decode cX8_chain 29 = .ok (.iload_n 1, 1) := by decide +kernel
theorem dX8_chain_30 : decode cX8_chain 30 = .ok (.iload_n 2, 1) := by decide +kernel
theorem dX8_chain_31 : decode cX8_chain 31 = .ok (.invokevirtual 144, 3) := by decide +kernel
theorem dX8_chain_34 : decode cX8_chain 34 = .ok (.ireturn, 1) := by decide +kernel
set_option maxHeartbeats 4000000 in
set_option maxRecDepth 100000 in
theorem s_X8_chain_0 (l : Launch) (D : va_G) (K : Nat → ClassId) (ad : Nat → Nat) (mm : Option Nat) (N : Nat) (hNN : 132 ≤ N) (v ar : sI) (al : sL) (hI : XI v) (z_1 : Int) (hz_1 : -2147483648 ≤ z_1 ∧ z_1 ≤ 2147483647) (z_2 : Int) (hz_2 : -2147483648 ≤ z_2 ∧ z_2 ≤ 2147483647) : Met l yX8_chain (wM yX8_chain cX8_chain 3 (some .int)) (rmD 2) (va_Pc [.ref (ad 0), .int (iI (z_1)), .int (iI (z_2))] (wPre D K ad (xG ad K mm) N v ar al)) (vp_Si (fun r => ∃ z : Int, (-2147483648 ≤ z ∧ z ≤ 2147483647) ∧ r = iI z)) 0 0 (fun _ => False) := by
  refine s_metP (by decide) (Nat.le_of_ble_eq_true rfl) ?_
  intro p e s m below meth c ls args Q hE hB hl kr
  have hE : CallFix p m c cX8_chain 3 s args tbG "TaleCourt" := hE
  obtain ⟨hP, hK, hN⟩ := hB
  have hl : lv_has ls 3 [(0, .ref (ad 0)), (1, .int (iI (z_1))), (2, .int (iI (z_2)))] := hl
  refine lv_aload_n hE.1 hE.2.1 dX8_chain_0 rfl (lv_at hl 0 rfl) ?_
  refine x_get (x := .ref (ad 3)) hE hK hP 0 (Nat.lt_of_lt_of_le (by decide) hNN) (xG_8 rfl) rfl hin8 1 (by decide) mw_481 rfl dX8_chain_1 ?_
  refine lv_iload_n hE.1 hE.2.1 dX8_chain_4 rfl (lv_at hl 1 rfl) ?_
  refine x_vp (nn := 1) (As := [.int (iI (z_1))]) (rest := []) hE (s_X1_hasMotif_3 l D K ad mm N hNN v ar al hI  (z_1) (by omega)) wPre_blind (wPre_now hK hN hP) (x_recv hK hP 3 (Nat.lt_of_lt_of_le (by decide) hNN) (xG_1 rfl) rfl) rfl mw_694 mw_695 mw_696 mw_116 mw_697 (by decide +kernel) ⟨by decide, by decide⟩ hl.1 rfl (Nat.le_of_ble_eq_true rfl) ⟨Nat.zero_le _, Nat.zero_le _⟩ dX8_chain_5 (fun r1 hr1 => ?_)
  obtain ⟨z1, hz1, rfl⟩ := hr1
  refine s_if_eq (a := z1) (tgt := 22) hE.1 hE.2.1 (by omega) dX8_chain_8 (by decide) (fun c2 => ?_) (fun c2 => ?_)
  · skip
    refine lv_bipush (v := iI (-2)) hE.1 hE.2.1 dX8_chain_22 (by decide) ?_
    exact kr _ _ _ rfl ⟨-2, by omega, rfl⟩ dX8_chain_24
  · skip
    refine lv_aload_n hE.1 hE.2.1 dX8_chain_11 rfl (lv_at hl 0 rfl) ?_
    refine x_get (x := .ref (ad 3)) hE hK hP 0 (Nat.lt_of_lt_of_le (by decide) hNN) (xG_8 rfl) rfl hin8 1 (by decide) mw_481 rfl dX8_chain_12 ?_
    refine lv_iload_n hE.1 hE.2.1 dX8_chain_15 rfl (lv_at hl 2 rfl) ?_
    refine x_vp (nn := 1) (As := [.int (iI (z_2))]) (rest := []) hE (s_X1_hasMotif_3 l D K ad mm N hNN v ar al hI  (z_2) (by omega)) wPre_blind (wPre_now hK hN hP) (x_recv hK hP 3 (Nat.lt_of_lt_of_le (by decide) hNN) (xG_1 rfl) rfl) rfl mw_694 mw_695 mw_696 mw_116 mw_697 (by decide +kernel) ⟨by decide, by decide⟩ hl.1 rfl (Nat.le_of_ble_eq_true rfl) ⟨Nat.zero_le _, Nat.zero_le _⟩ dX8_chain_16 (fun r3 hr3 => ?_)
    obtain ⟨z3, hz3, rfl⟩ := hr3
    refine s_if_ne (a := z3) (tgt := 25) hE.1 hE.2.1 (by omega) dX8_chain_19 (by decide) (fun c4 => ?_) (fun c4 => ?_)
    · skip
      refine lv_aload_n hE.1 hE.2.1 dX8_chain_25 rfl (lv_at hl 0 rfl) ?_
      refine x_get (x := .ref (ad 3)) hE hK hP 0 (Nat.lt_of_lt_of_le (by decide) hNN) (xG_8 rfl) rfl hin8 1 (by decide) mw_481 rfl dX8_chain_26 ?_
      refine lv_iload_n hE.1 hE.2.1 dX8_chain_29 rfl (lv_at hl 1 rfl) ?_
      refine lv_iload_n hE.1 hE.2.1 dX8_chain_30 rfl (lv_at hl 2 rfl) ?_
      refine x_vp (nn := 2) (As := [.int (iI (z_1)), .int (iI (z_2))]) (rest := []) hE (s_X1_shortestChain_3 l D K ad mm N hNN v ar al hI  (z_1) (by omega) (z_2) (by omega)) wPre_blind (wPre_now hK hN hP) (x_recv hK hP 3 (Nat.lt_of_lt_of_le (by decide) hNN) (xG_1 rfl) rfl) rfl mw_734 mw_735 mw_736 mw_116 mw_737 (by decide +kernel) ⟨by decide, by decide⟩ hl.1 rfl (Nat.le_of_ble_eq_true rfl) ⟨Nat.zero_le _, Nat.zero_le _⟩ dX8_chain_31 (fun r5 hr5 => ?_)
      obtain ⟨z5, hz5, rfl⟩ := hr5
      exact kr _ _ _ rfl ⟨z5, by omega, rfl⟩ dX8_chain_34
    · skip
      refine lv_bipush (v := iI (-2)) hE.1 hE.2.1 dX8_chain_22 (by decide) ?_
      exact kr _ _ _ rfl ⟨-2, by omega, rfl⟩ dX8_chain_24
