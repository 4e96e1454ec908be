theorem dX9_areMotifs_0 : decode cX9_areMotifs 0 = .ok (.iconst 0, 1) := by decide +kernel
theorem dX9_areMotifs_1 : decode cX9_areMotifs 1 = .ok (.istore_n 2, 1) := by decide +kernel
theorem dX9_areMotifs_2 : decode cX9_areMotifs 2 = .ok (.iload_n 2, 1) := by decide +kernel
theorem dX9_areMotifs_3 : decode cX9_areMotifs 3 = .ok (.aload_n 0, 1) := by decide +kernel
theorem dX9_areMotifs_4 : decode cX9_areMotifs 4 = .ok (.getfield 13, 3) := by decide +kernel
theorem dX9_areMotifs_7 : decode cX9_areMotifs 7 = .ok (.iload_n 1, 1) := by decide +kernel
theorem dX9_areMotifs_8 : decode cX9_areMotifs 8 = .ok (.iaload, 1) := by decide +kernel
theorem dX9_areMotifs_9 : decode cX9_areMotifs 9 = .ok (.if_icmp .ge 29, 3) := by decide +kernel
theorem dX9_areMotifs_12 : decode cX9_areMotifs 12 = .ok (.aload_n 0, 1) := by decide +kernel
theorem dX9_areMotifs_13 : decode cX9_areMotifs 13 = .ok (.aload_n 0, 1) := by decide +kernel
theorem dX9_areMotifs_14 : decode cX9_areMotifs 14 = .ok (.getfield 16, 3) := by decide +kernel
theorem dX9_areMotifs_17 : decode cX9_areMotifs 17 = .ok (.bipush 60, 2) := by decide +kernel
theorem dX9_areMotifs_19 : decode cX9_areMotifs 19 = .ok (.iload_n 1, 1) := by decide +kernel
theorem dX9_areMotifs_20 : decode cX9_areMotifs 20 = .ok (.imul, 1) := by decide +kernel
theorem dX9_areMotifs_21 : decode cX9_areMotifs 21 = .ok (.iload_n 2, 1) := by decide +kernel
theorem dX9_areMotifs_22 : decode cX9_areMotifs 22 = .ok (.iadd, 1) := by decide +kernel
theorem dX9_areMotifs_23 : decode cX9_areMotifs 23 = .ok (.laload, 1) := by decide +kernel
theorem dX9_areMotifs_24 : decode cX9_areMotifs 24 = .ok (.invokevirtual 253, 3) := by decide +kernel
theorem dX9_areMotifs_27 : decode cX9_areMotifs 27 = .ok (.ifCond .ne 5, 3) := by decide +kernel
theorem dX9_areMotifs_30 : decode cX9_areMotifs 30 = .ok (.iconst 0, 1) := by decide +kernel
theorem dX9_areMotifs_31 : decode cX9_areMotifs 31 = .ok (.ireturn, 1) := by decide +kernel
theorem dX9_areMotifs_32 : decode cX9_areMotifs 32 = .ok (.iinc 2 1, 3) := by decide +kernel
theorem dX9_areMotifs_35 : decode cX9_areMotifs 35 = .ok (.goto (-33), 3) := by decide +kernel
theorem dX9_areMotifs_38 : decode cX9_areMotifs 38 = .ok (.iconst 1, 1) := by decide +kernel
theorem dX9_areMotifs_39 : decode cX9_areMotifs 39 = .ok (.ireturn, 1) := by decide +kernel
set_option maxHeartbeats 4000000 in
set_option maxRecDepth 100000 in
theorem s_X9_areMotifs_e (l : Launch) (D : va_G) (K : Nat → ClassId) (ad : Nat → Nat) (v ar : sI) (al : sL) (hI : YI v ar) (z_1 : Int) (hz_1 : 0 ≤ z_1 ∧ z_1 ≤ 3) : Met l yX9_areMotifs (wM yX9_areMotifs cX9_areMotifs 3 (some .boolean)) (rmD 2) (va_Pc [.ref (ad 0), .int (iI (z_1))] (wPre D K ad (yG ad K) 21 v ar al)) (vp_Si (fun r => ∃ z : Int, (z = 0 ∨ (z = 1 ∧ MSv z_1 (ar 2) (al 3))) ∧ r = iI z)) 0 0 (fun _ => False) := by
  refine s_metP (by decide) (Nat.le_of_ble_eq_true rfl) ?_
  intro p e s m below meth c ls args Q hE hB hl kr
  have hE : CallFix p m c cX9_areMotifs 3 s args tbG "TaleCourtModel" := hE
  obtain ⟨hP, hK, hN⟩ := hB
  have hl : lv_has ls 3 [(0, .ref (ad 0)), (1, .int (iI (z_1)))] := hl
  refine lv_iconst (v := iI (0)) hE.1 hE.2.1 dX9_areMotifs_0 (by decide) ?_
  refine lv_istore_n (lv' := [(2, .int (iI (0))), (0, .ref (ad 0)), (1, .int (iI (z_1)))]) hE.1 hE.2.1 dX9_areMotifs_1 rfl hl (by decide) rfl (fun ls hl => ?_)
  have loop1 : ∀ (k1 : Nat) (y1_2 : Int) (ls : Array Slot), (60 - y1_2).toNat = k1 → (0 ≤ y1_2 ∧ y1_2 ≤ 60) → (MSp z_1 y1_2 (al 3)) → lv_has ls 3 [(2, .int (iI (y1_2))), (0, .ref (ad 0)), (1, .int (iI (z_1)))] → W p l e (rmD 2) s m args below meth c s.heap [] 0 0 Q (F0 m 2 ls []) := by
    intro k1
    induction k1 using Nat.strongRecOn with
    | _ k1 ih1 =>
      intro y1_2 ls hk1 hb_y1_2 hb_xi1 hl
      refine lv_iload_n hE.1 hE.2.1 dX9_areMotifs_2 rfl (lv_at hl 0 rfl) ?_
      refine lv_aload_n hE.1 hE.2.1 dX9_areMotifs_3 rfl (lv_at hl 1 rfl) ?_
      refine x_get (x := .ref (ad 2)) hE hK hP 0 (by decide) (yG_9 rfl) rfl hin9 2 (by decide) mw_1336 rfl dX9_areMotifs_4 ?_
      refine lv_iload_n hE.1 hE.2.1 dX9_areMotifs_7 rfl (lv_at hl 2 rfl) ?_
      refine x_iald (j := iI (z_1)) hE hK hP 2 (by decide) (yG_10 rfl) (iI_in (n := 4) (by omega)) dX9_areMotifs_8 ?_
      obtain ⟨z3, hz3, ez3⟩ := YI_a2 hI ((iI (z_1)).toNatClampNeg)
      refine x_top ez3 ?_
      refine s_icmp_ge (a := y1_2) (b := z3) (tgt := 38) hE.1 hE.2.1 (by omega) (by omega) dX9_areMotifs_9 (by decide) (fun c4 => ?_) (fun c4 => ?_)
      · skip
        refine lv_iconst (v := iI (1)) hE.1 hE.2.1 dX9_areMotifs_38 (by decide) ?_
        exact kr _ _ _ (nar01 (by omega)) ⟨1, Or.inr ⟨rfl, MSp_all hb_xi1 ez3 (by omega) (by omega)⟩, rfl⟩ dX9_areMotifs_39
      · skip
        refine lv_aload_n hE.1 hE.2.1 dX9_areMotifs_12 rfl (lv_at hl 1 rfl) ?_
        refine lv_aload_n hE.1 hE.2.1 dX9_areMotifs_13 rfl (lv_at hl 1 rfl) ?_
        refine x_get (x := .ref (ad 3)) hE hK hP 0 (by decide) (yG_9 rfl) rfl hin9 3 (by decide) mw_1337 rfl dX9_areMotifs_14 ?_
        refine lv_bipush (v := iI (60)) hE.1 hE.2.1 dX9_areMotifs_17 (by decide) ?_
        refine lv_iload_n hE.1 hE.2.1 dX9_areMotifs_19 rfl (lv_at hl 2 rfl) ?_
        refine lv_imul hE.1 hE.2.1 dX9_areMotifs_20 ?_
        refine x_top (y := iI (60 * z_1)) ((iI_mul (60) (z_1)).trans (congrArg iI (by omega))) ?_
        refine lv_iload_n hE.1 hE.2.1 dX9_areMotifs_21 rfl (lv_at hl 0 rfl) ?_
        refine lv_iadd hE.1 hE.2.1 dX9_areMotifs_22 ?_
        refine x_top (y := iI (y1_2 + 60 * z_1)) ((iI_add (60 * z_1) (y1_2)).trans (congrArg iI (by omega))) ?_
        refine x_lald (j := iI (y1_2 + 60 * z_1)) hE hK hP 3 (by decide) (yG_11 rfl) (iI_in (n := 240) (by omega)) dX9_areMotifs_23 ?_
        obtain ⟨z6, hz6, ez6⟩ := lI_of (al 3 (iI (y1_2 + 60 * z_1)).toNatClampNeg)
        refine x_topl ez6 ?_
        obtain ⟨z7, hz7, ez7⟩ := YI_h2 hI 2 (by decide)
        refine x_vp (nn := 1) (As := [.long (lI (z6))]) (rest := []) hE (s_X9_isMotif l D K ad v ar al hI (z7) (by omega) ez7 (z6) (by omega)) wPre_blind (wPre_now hK hN hP) (x_recv hK hP 0 (by decide) (yG_9 rfl) rfl) rfl mw_1662 mw_1664 mw_74 mw_123 mw_1665 (by decide +kernel) ⟨by decide, by decide⟩ hl.1 rfl (Nat.le_of_ble_eq_true rfl) ⟨Nat.zero_le _, Nat.zero_le _⟩ dX9_areMotifs_24 (fun r8 hr8 => ?_)
        obtain ⟨z8, hz8, rfl⟩ := hr8
        refine s_if_ne (a := z8) (tgt := 32) hE.1 hE.2.1 (by omega) dX9_areMotifs_27 (by decide) (fun c9 => ?_) (fun c9 => ?_)
        · skip
          refine lv_iinc (v := iI (y1_2 + 1)) (lv' := [(2, .int (iI (y1_2 + 1))), (0, .ref (ad 0)), (1, .int (iI (z_1)))]) hE.1 hE.2.1 dX9_areMotifs_32 hl (k := 0) rfl ((iI_add (y1_2) (1)).trans (congrArg iI (by omega))) (by decide) rfl (fun ls hl => ?_)
          refine lv_goto (tgt := 2) hE.1 hE.2.1 dX9_areMotifs_35 (by decide) ?_
          exact ih1 _ (by omega) (y1_2 + 1) _ rfl (by omega) (MSp_step hb_xi1 (by omega) ez6 (by omega) (by omega) (by omega)) (lv_sub hl [0, 1, 2] rfl)
        · skip
          refine lv_iconst (v := iI (0)) hE.1 hE.2.1 dX9_areMotifs_30 (by decide) ?_
          exact kr _ _ _ (nar01 (by omega)) ⟨0, Or.inl rfl, rfl⟩ dX9_areMotifs_31
  exact loop1 _ (0) _ rfl (by omega) (MSp_0 _ _ (by omega)) hl

set_option maxHeartbeats 4000000 in
set_option maxRecDepth 100000 in
theorem s_X9_cellOf_e (l : Launch) (D : va_G) (K : Nat → ClassId) (ad : Nat → Nat) (v ar : sI) (al : sL) (hI : YI v ar) (z_1 : Int) (hz_1 : 0 ≤ z_1 ∧ z_1 ≤ 3) (z_2 : Int) (hz_2 : 0 ≤ z_2 ∧ z_2 ≤ 59) (g_1 : Int) (hg_1 : 0 ≤ g_1 ∧ g_1 ≤ 8) (hg_e : al 3 (iI (60 * z_1 + z_2)).toNatClampNeg = lI g_1) : Met l yX9_cellOf (wM yX9_cellOf cX9_cellOf 3 (some .int)) (rmD 0) (va_Pc [.ref (ad 0), .int (iI (z_1)), .int (iI (z_2))] (wPre D K ad (yG ad K) 21 v ar al)) (vp_Si (fun r => ∃ z : Int, (z = g_1) ∧ r = iI z)) 0 0 (fun _ => False) := by
  refine s_metP (by decide) (Nat.le_of_ble_eq_true rfl) ?_
  intro p e s m below meth c ls args Q hE hB hl kr
  have hE : CallFix p m c cX9_cellOf 3 s args tbG "TaleCourtModel" := hE
  obtain ⟨hP, hK, hN⟩ := hB
  have hl : lv_has ls 3 [(0, .ref (ad 0)), (1, .int (iI (z_1))), (2, .int (iI (z_2)))] := hl
  refine lv_aload_n hE.1 hE.2.1 dX9_cellOf_0 rfl (lv_at hl 0 rfl) ?_
  refine x_get (x := .ref (ad 3)) hE hK hP 0 (by decide) (yG_9 rfl) rfl hin9 3 (by decide) mw_1337 rfl dX9_cellOf_1 ?_
  refine lv_bipush (v := iI (60)) hE.1 hE.2.1 dX9_cellOf_4 (by decide) ?_
  refine lv_iload_n hE.1 hE.2.1 dX9_cellOf_6 rfl (lv_at hl 1 rfl) ?_
  refine lv_imul hE.1 hE.2.1 dX9_cellOf_7 ?_
  refine x_top (y := iI (60 * z_1)) ((iI_mul (60) (z_1)).trans (congrArg iI (by omega))) ?_
  refine lv_iload_n hE.1 hE.2.1 dX9_cellOf_8 rfl (lv_at hl 2 rfl) ?_
  refine lv_iadd hE.1 hE.2.1 dX9_cellOf_9 ?_
  refine x_top (y := iI (60 * z_1 + z_2)) ((iI_add (60 * z_1) (z_2)).trans (congrArg iI (by omega))) ?_
  refine x_lald (j := iI (60 * z_1 + z_2)) hE hK hP 3 (by decide) (yG_11 rfl) (iI_in (n := 240) (by omega)) dX9_cellOf_10 ?_
  refine x_topl hg_e ?_
  refine lv_l2i (v := iI (g_1)) hE.1 hE.2.1 dX9_cellOf_11 (lI_l2i _) ?_
  exact kr _ _ _ rfl ⟨g_1, by omega, rfl⟩ dX9_cellOf_12

theorem dX9_tasteOf_0 : decode cX9_tasteOf 0 = .ok (.iconst 0, 1) := by decide +kernel
theorem dX9_tasteOf_1 : decode cX9_tasteOf 1 = .ok (.istore_n 3, 1) := by decide +kernel
theorem dX9_tasteOf_2 : decode cX9_tasteOf 2 = .ok (.iconst 0, 1) := by decide +kernel
theorem dX9_tasteOf_3 : decode cX9_tasteOf 3 = .ok (.istore 4, 2) := by decide +kernel
theorem dX9_tasteOf_5 : decode cX9_tasteOf 5 = .ok (.iload 4, 2) := by decide +kernel
theorem dX9_tasteOf_7 : decode cX9_tasteOf 7 = .ok (.aload_n 0, 1) := by decide +kernel
theorem dX9_tasteOf_8 : decode cX9_tasteOf 8 = .ok (.getfield 13, 3) := by decide +kernel
theorem dX9_tasteOf_11 : decode cX9_tasteOf 11 = .ok (.iload_n 2, 1) := by decide +kernel
theorem dX9_tasteOf_12 : decode cX9_tasteOf 12 = .ok (.iaload, 1) := by decide +kernel
theorem dX9_tasteOf_13 : decode cX9_tasteOf 13 = .ok (.if_icmp .ge 58, 3) := by decide +kernel
theorem dX9_tasteOf_16 : decode cX9_tasteOf 16 = .ok (.aload_n 0, 1) := by decide +kernel
theorem dX9_tasteOf_17 : decode cX9_tasteOf 17 = .ok (.iload_n 2, 1) := by decide +kernel
theorem dX9_tasteOf_18 : decode cX9_tasteOf 18 = .ok (.iload 4, 2) := by decide +kernel
theorem dX9_tasteOf_20 : decode cX9_tasteOf 20 = .ok (.invokevirtual 424, 3) := by decide +kernel
theorem dX9_tasteOf_23 : decode cX9_tasteOf 23 = .ok (.istore 5, 2) := by decide +kernel
theorem dX9_tasteOf_25 : decode cX9_tasteOf 25 = .ok (.iload_n 3, 1) := by decide +kernel
theorem dX9_tasteOf_26 : decode cX9_tasteOf 26 = .ok (.aload_n 0, 1) := by decide +kernel
theorem dX9_tasteOf_27 : decode cX9_tasteOf 27 = .ok (.iload 5, 2) := by decide +kernel
theorem dX9_tasteOf_29 : decode cX9_tasteOf 29 = .ok (.invokevirtual 274, 3) := by decide +kernel
theorem dX9_tasteOf_32 : decode cX9_tasteOf 32 = .ok (.aload_n 0, 1) := by decide +kernel
theorem dX9_tasteOf_33 : decode cX9_tasteOf 33 = .ok (.getfield 40, 3) := by decide +kernel
theorem dX9_tasteOf_36 : decode cX9_tasteOf 36 = .ok (.iconst 2, 1) := by decide +kernel
theorem dX9_tasteOf_37 : decode cX9_tasteOf 37 = .ok (.iload_n 1, 1) := by decide +kernel
theorem dX9_tasteOf_38 : decode cX9_tasteOf 38 = .ok (.imul, 1) := by decide +kernel
theorem dX9_tasteOf_39 : decode cX9_tasteOf 39 = .ok (.iconst 1, 1) := by decide +kernel
theorem dX9_tasteOf_40 : decode cX9_tasteOf 40 = .ok (.iadd, 1) := by decide +kernel
theorem dX9_tasteOf_41 : decode cX9_tasteOf 41 = .ok (.iaload, 1) := by decide +kernel
theorem dX9_tasteOf_42 : decode cX9_tasteOf 42 = .ok (.iload 5, 2) := by decide +kernel
theorem dX9_tasteOf_44 : decode cX9_tasteOf 44 = .ok (.invokestatic 261, 3) := by decide +kernel
theorem dX9_tasteOf_47 : decode cX9_tasteOf 47 = .ok (.ifCond .eq 14, 3) := by decide +kernel
theorem dX9_tasteOf_50 : decode cX9_tasteOf 50 = .ok (.aload_n 0, 1) := by decide +kernel
theorem dX9_tasteOf_51 : decode cX9_tasteOf 51 = .ok (.getfield 40, 3) := by decide +kernel
theorem dX9_tasteOf_54 : decode cX9_tasteOf 54 = .ok (.iconst 2, 1) := by decide +kernel
theorem dX9_tasteOf_55 : decode cX9_tasteOf 55 = .ok (.iload_n 1, 1) := by decide +kernel
theorem dX9_tasteOf_56 : decode cX9_tasteOf 56 = .ok (.imul, 1) := by decide +kernel
theorem dX9_tasteOf_57 : decode cX9_tasteOf 57 = .ok (.iaload, 1) := by decide +kernel
theorem dX9_tasteOf_58 : decode cX9_tasteOf 58 = .ok (.goto 4, 3) := by decide +kernel
theorem dX9_tasteOf_61 : decode cX9_tasteOf 61 = .ok (.iconst 0, 1) := by decide +kernel
theorem dX9_tasteOf_62 : decode cX9_tasteOf 62 = .ok (.iadd, 1) := by decide +kernel
theorem dX9_tasteOf_63 : decode cX9_tasteOf 63 = .ok (.iadd, 1) := by decide +kernel
theorem dX9_tasteOf_64 : decode cX9_tasteOf 64 = .ok (.istore_n 3, 1) := by decide +kernel
theorem dX9_tasteOf_65 : decode cX9_tasteOf 65 = .ok (.iinc 4 1, 3) := by decide +kernel
theorem dX9_tasteOf_68 : decode cX9_tasteOf 68 = .ok (.goto (-63), 3) := by decide +kernel
theorem dX9_tasteOf_71 : decode cX9_tasteOf 71 = .ok (.iload_n 3, 1) := by decide +kernel
theorem dX9_tasteOf_72 : decode cX9_tasteOf 72 = .ok (.ireturn, 1) := by decide +kernel
set_option maxHeartbeats 4000000 in
set_option maxRecDepth 100000 in
theorem s_X9_tasteOf_e (l : Launch) (D : va_G) (K : Nat → ClassId) (ad : Nat → Nat) (v ar : sI) (al : sL) (hI : YI v ar) (z_1 : Int) (hz_1 : 0 ≤ z_1 ∧ z_1 ≤ 7) (z_2 : Int) (hz_2 : 0 ≤ z_2 ∧ z_2 ≤ 3) (hms : MSv z_2 (ar 2) (al 3)) : Met l yX9_tasteOf (wM yX9_tasteOf cX9_tasteOf 6 (some .int)) (rmD 2) (va_Pc [.ref (ad 0), .int (iI (z_1)), .int (iI (z_2))] (wPre D K ad (yG ad K) 21 v ar al)) (vp_Si (fun r => ∃ z : Int, (-2147483648 ≤ z ∧ z ≤ 2147483647) ∧ r = iI z)) 0 0 (fun _ => False) := by
  refine s_metP (by decide) (Nat.le_of_ble_eq_true rfl) ?_
  intro p e s m below meth c ls args Q hE hB hl kr
  have hE : CallFix p m c cX9_tasteOf 6 s args tbG "TaleCourtModel" := hE
  obtain ⟨hP, hK, hN⟩ := hB
  have hl : lv_has ls 6 [(0, .ref (ad 0)), (1, .int (iI (z_1))), (2, .int (iI (z_2)))] := hl
  refine lv_iconst (v := iI (0)) hE.1 hE.2.1 dX9_tasteOf_0 (by decide) ?_
  refine lv_istore_n (lv' := [(3, .int (iI (0))), (0, .ref (ad 0)), (1, .int (iI (z_1))), (2, .int (iI (z_2)))]) hE.1 hE.2.1 dX9_tasteOf_1 rfl hl (by decide) rfl (fun ls hl => ?_)
  refine lv_iconst (v := iI (0)) hE.1 hE.2.1 dX9_tasteOf_2 (by decide) ?_
  refine lv_istore (lv' := [(4, .int (iI (0))), (3, .int (iI (0))), (0, .ref (ad 0)), (1, .int (iI (z_1))), (2, .int (iI (z_2)))]) hE.1 hE.2.1 dX9_tasteOf_3 hl (by decide) rfl (fun ls hl => ?_)
  have loop1 : ∀ (k1 : Nat) (y1_4 : Int) (y1_3 : Int) (ls : Array Slot), (60 - y1_4).toNat = k1 → (0 ≤ y1_4 ∧ y1_4 ≤ 60) → (-2147483648 ≤ y1_3 ∧ y1_3 ≤ 2147483647) → lv_has ls 6 [(4, .int (iI (y1_4))), (3, .int (iI (y1_3))), (0, .ref (ad 0)), (1, .int (iI (z_1))), (2, .int (iI (z_2)))] → W p l e (rmD 2) s m args below meth c s.heap [] 0 0 Q (F0 m 5 ls []) := by
    intro k1
    induction k1 using Nat.strongRecOn with
    | _ k1 ih1 =>
      intro y1_4 y1_3 ls hk1 hb_y1_4 hb_y1_3 hl
      refine lv_iload hE.1 hE.2.1 dX9_tasteOf_5 (lv_at hl 0 rfl) ?_
      refine lv_aload_n hE.1 hE.2.1 dX9_tasteOf_7 rfl (lv_at hl 2 rfl) ?_
      refine x_get (x := .ref (ad 2)) hE hK hP 0 (by decide) (yG_9 rfl) rfl hin9 2 (by decide) mw_1336 rfl dX9_tasteOf_8 ?_
      refine lv_iload_n hE.1 hE.2.1 dX9_tasteOf_11 rfl (lv_at hl 4 rfl) ?_
      refine x_iald (j := iI (z_2)) hE hK hP 2 (by decide) (yG_10 rfl) (iI_in (n := 4) (by omega)) dX9_tasteOf_12 ?_
      obtain ⟨z3, hz3, ez3⟩ := YI_a2 hI ((iI (z_2)).toNatClampNeg)
      refine x_top ez3 ?_
      refine s_icmp_ge (a := y1_4) (b := z3) (tgt := 71) hE.1 hE.2.1 (by omega) (by omega) dX9_tasteOf_13 (by decide) (fun c4 => ?_) (fun c4 => ?_)
      · skip
        refine lv_iload_n hE.1 hE.2.1 dX9_tasteOf_71 rfl (lv_at hl 1 rfl) ?_
        exact kr _ _ _ rfl ⟨y1_3, by omega, rfl⟩ dX9_tasteOf_72
      · skip
        refine lv_aload_n hE.1 hE.2.1 dX9_tasteOf_16 rfl (lv_at hl 2 rfl) ?_
        refine lv_iload_n hE.1 hE.2.1 dX9_tasteOf_17 rfl (lv_at hl 4 rfl) ?_
        refine lv_iload hE.1 hE.2.1 dX9_tasteOf_18 (lv_at hl 0 rfl) ?_
        obtain ⟨g5, hg5, eg5⟩ := MSv_get (k := 60 * (z_2) + (y1_4)) (y := y1_4) hms ez3 (by omega) (by omega) rfl
        refine x_vp (nn := 2) (As := [.int (iI (z_2)), .int (iI (y1_4))]) (rest := []) hE (s_X9_cellOf_e l D K ad v ar al hI  (z_2) (by omega) (y1_4) (by omega) (g5) (by omega) eg5) wPre_blind (wPre_now hK hN hP) (x_recv hK hP 0 (by decide) (yG_9 rfl) rfl) rfl mw_1814 mw_1816 mw_89 mw_123 mw_1817 (by decide +kernel) ⟨by decide, by decide⟩ hl.1 rfl (Nat.le_of_ble_eq_true rfl) ⟨Nat.zero_le _, Nat.zero_le _⟩ dX9_tasteOf_20 (fun r6 hr6 => ?_)
        obtain ⟨z6, hz6, rfl⟩ := hr6
        refine lv_istore (lv' := [(5, .int (iI (z6))), (4, .int (iI (y1_4))), (3, .int (iI (y1_3))), (0, .ref (ad 0)), (1, .int (iI (z_1))), (2, .int (iI (z_2)))]) hE.1 hE.2.1 dX9_tasteOf_23 hl (by decide) rfl (fun ls hl => ?_)
        refine lv_iload_n hE.1 hE.2.1 dX9_tasteOf_25 rfl (lv_at hl 2 rfl) ?_
        refine lv_aload_n hE.1 hE.2.1 dX9_tasteOf_26 rfl (lv_at hl 3 rfl) ?_
        refine lv_iload hE.1 hE.2.1 dX9_tasteOf_27 (lv_at hl 0 rfl) ?_
        refine x_vp (nn := 1) (As := [.int (iI (z6))]) (rest := [.int (iI (y1_3))]) hE (s_X9_pointsOf l D K ad v ar al hI  (z6) (by omega)) wPre_blind (wPre_now hK hN hP) (x_recv hK hP 0 (by decide) (yG_9 rfl) rfl) rfl mw_1650 mw_1652 mw_72 mw_123 mw_1653 (by decide +kernel) ⟨by decide, by decide⟩ hl.1 rfl (Nat.le_of_ble_eq_true rfl) ⟨Nat.zero_le _, Nat.zero_le _⟩ dX9_tasteOf_29 (fun r7 hr7 => ?_)
        obtain ⟨z7, hz7, rfl⟩ := hr7
        refine lv_aload_n hE.1 hE.2.1 dX9_tasteOf_32 rfl (lv_at hl 3 rfl) ?_
        refine x_get (x := .ref (ad 9)) hE hK hP 0 (by decide) (yG_9 rfl) rfl hin9 19 (by decide) mw_1353 rfl dX9_tasteOf_33 ?_
        refine lv_iconst (v := iI (2)) hE.1 hE.2.1 dX9_tasteOf_36 (by decide) ?_
        refine lv_iload_n hE.1 hE.2.1 dX9_tasteOf_37 rfl (lv_at hl 4 rfl) ?_
        refine lv_imul hE.1 hE.2.1 dX9_tasteOf_38 ?_
        refine x_top (y := iI (2 * z_1)) ((iI_mul (2) (z_1)).trans (congrArg iI (by omega))) ?_
        refine lv_iconst (v := iI (1)) hE.1 hE.2.1 dX9_tasteOf_39 (by decide) ?_
        refine lv_iadd hE.1 hE.2.1 dX9_tasteOf_40 ?_
        refine x_top (y := iI (2 * z_1 + 1)) ((iI_add (2 * z_1) (1)).trans (congrArg iI (by omega))) ?_
        refine x_iald (j := iI (2 * z_1 + 1)) hE hK hP 9 (by decide) (yG_10 rfl) (iI_in (n := 80) (by omega)) dX9_tasteOf_41 ?_
        obtain ⟨z9, hz9, ez9⟩ := iI_of (ar 9 (iI (2 * z_1 + 1)).toNatClampNeg)
        refine x_top ez9 ?_
        refine lv_iload hE.1 hE.2.1 dX9_tasteOf_42 (lv_at hl 0 rfl) ?_
        refine x_sp (nn := 2) (As := [.int (iI (z9)), .int (iI (z6))]) (rest := [.int (iI (z7)), .int (iI (y1_3))]) hE (s_X9_isBit_e l (z9) (by omega) (z6) (by omega)) tt_blind (fun _ _ _ => trivial) rfl mw_1683 mw_1684 mw_123 mw_1685 (by decide +kernel) ⟨by decide, by decide⟩ hl.1 rfl (Nat.le_of_ble_eq_true rfl) ⟨Nat.zero_le _, Nat.zero_le _⟩ dX9_tasteOf_44 (fun r10 hr10 => ?_)
        obtain ⟨z10, hz10, rfl⟩ := hr10
        refine s_if_eq (a := z10) (tgt := 61) hE.1 hE.2.1 (by omega) dX9_tasteOf_47 (by decide) (fun c11 => ?_) (fun c11 => ?_)
        · skip
          refine lv_iconst (v := iI (0)) hE.1 hE.2.1 dX9_tasteOf_61 (by decide) ?_
          refine lv_iadd hE.1 hE.2.1 dX9_tasteOf_62 ?_
          refine x_top (y := iI (z7)) ((iI_add (z7) (0)).trans (congrArg iI (by omega))) ?_
          refine lv_iadd hE.1 hE.2.1 dX9_tasteOf_63 ?_
          obtain ⟨z12, hz12, ez12⟩ := iI_of (iI (y1_3) + iI (z7))
          refine x_top ez12 ?_
          refine lv_istore_n (lv' := [(3, .int (iI (z12))), (5, .int (iI (z6))), (4, .int (iI (y1_4))), (0, .ref (ad 0)), (1, .int (iI (z_1))), (2, .int (iI (z_2)))]) hE.1 hE.2.1 dX9_tasteOf_64 rfl hl (by decide) rfl (fun ls hl => ?_)
          refine lv_iinc (v := iI (y1_4 + 1)) (lv' := [(4, .int (iI (y1_4 + 1))), (3, .int (iI (z12))), (5, .int (iI (z6))), (0, .ref (ad 0)), (1, .int (iI (z_1))), (2, .int (iI (z_2)))]) hE.1 hE.2.1 dX9_tasteOf_65 hl (k := 2) rfl ((iI_add (y1_4) (1)).trans (congrArg iI (by omega))) (by decide) rfl (fun ls hl => ?_)
          refine lv_goto (tgt := 5) hE.1 hE.2.1 dX9_tasteOf_68 (by decide) ?_
          exact ih1 _ (by omega) (y1_4 + 1) (z12) _ rfl (by omega) (by omega) (lv_sub hl [0, 1, 3, 4, 5] rfl)
        · skip
          refine lv_aload_n hE.1 hE.2.1 dX9_tasteOf_50 rfl (lv_at hl 3 rfl) ?_
          refine x_get (x := .ref (ad 9)) hE hK hP 0 (by decide) (yG_9 rfl) rfl hin9 19 (by decide) mw_1353 rfl dX9_tasteOf_51 ?_
          refine lv_iconst (v := iI (2)) hE.1 hE.2.1 dX9_tasteOf_54 (by decide) ?_
          refine lv_iload_n hE.1 hE.2.1 dX9_tasteOf_55 rfl (lv_at hl 4 rfl) ?_
          refine lv_imul hE.1 hE.2.1 dX9_tasteOf_56 ?_
          refine x_top (y := iI (2 * z_1)) ((iI_mul (2) (z_1)).trans (congrArg iI (by omega))) ?_
          refine x_iald (j := iI (2 * z_1)) hE hK hP 9 (by decide) (yG_10 rfl) (iI_in (n := 80) (by omega)) dX9_tasteOf_57 ?_
          obtain ⟨z14, hz14, ez14⟩ := iI_of (ar 9 (iI (2 * z_1)).toNatClampNeg)
          refine x_top ez14 ?_
          refine lv_goto (tgt := 62) hE.1 hE.2.1 dX9_tasteOf_58 (by decide) ?_
          refine lv_iadd hE.1 hE.2.1 dX9_tasteOf_62 ?_
          obtain ⟨z15, hz15, ez15⟩ := iI_of (iI (z7) + iI (z14))
          refine x_top ez15 ?_
          refine lv_iadd hE.1 hE.2.1 dX9_tasteOf_63 ?_
          obtain ⟨z16, hz16, ez16⟩ := iI_of (iI (y1_3) + iI (z15))
          refine x_top ez16 ?_
          refine lv_istore_n (lv' := [(3, .int (iI (z16))), (5, .int (iI (z6))), (4, .int (iI (y1_4))), (0, .ref (ad 0)), (1, .int (iI (z_1))), (2, .int (iI (z_2)))]) hE.1 hE.2.1 dX9_tasteOf_64 rfl hl (by decide) rfl (fun ls hl => ?_)
          refine lv_iinc (v := iI (y1_4 + 1)) (lv' := [(4, .int (iI (y1_4 + 1))), (3, .int (iI (z16))), (5, .int (iI (z6))), (0, .ref (ad 0)), (1, .int (iI (z_1))), (2, .int (iI (z_2)))]) hE.1 hE.2.1 dX9_tasteOf_65 hl (k := 2) rfl ((iI_add (y1_4) (1)).trans (congrArg iI (by omega))) (by decide) rfl (fun ls hl => ?_)
          refine lv_goto (tgt := 5) hE.1 hE.2.1 dX9_tasteOf_68 (by decide) ?_
          exact ih1 _ (by omega) (y1_4 + 1) (z16) _ rfl (by omega) (by omega) (lv_sub hl [0, 1, 3, 4, 5] rfl)
  exact loop1 _ (0) (0) _ rfl (by omega) (by omega) hl

theorem dX9_votes_0 : decode cX9_votes 0 = .ok (.aload_n 0, 1) := by decide +kernel
theorem dX9_votes_1 : decode cX9_votes 1 = .ok (.iconst 0, 1) := by decide +kernel
theorem dX9_votes_2 : decode cX9_votes 2 = .ok (.putfield 81, 3) := by decide +kernel
theorem dX9_votes_5 : decode cX9_votes 5 = .ok (.iload_n 1, 1) := by decide +kernel
theorem dX9_votes_6 : decode cX9_votes 6 = .ok (.invokestatic 90, 3) := by decide +kernel
theorem dX9_votes_9 : decode cX9_votes 9 = .ok (.ifCond .eq 17, 3) := by decide +kernel
theorem dX9_votes_12 : decode cX9_votes 12 = .ok (.iload_n 2, 1) := by decide +kernel
theorem dX9_votes_13 : decode cX9_votes 13 = .ok (.invokestatic 90, 3) := by decide +kernel
theorem dX9_votes_16 : decode cX9_votes 16 = .ok (.ifCond .eq 10, 3) := by decide +kernel
theorem dX9_votes_19 : decode cX9_votes 19 = .ok (.aload_n 0, 1) := by decide +kernel
theorem dX9_votes_20 : decode cX9_votes 20 = .ok (.invokevirtual 301, 3) := by decide +kernel
theorem dX9_votes_23 : decode cX9_votes 23 = .ok (.ifCond .ne 6, 3) := by decide +kernel
theorem dX9_votes_26 : decode cX9_votes 26 = .ok (.bipush (-2), 2) := by decide +kernel
theorem dX9_votes_28 : decode cX9_votes 28 = .ok (.ireturn, 1) := by decide +kernel
theorem dX9_votes_29 : decode cX9_votes 29 = .ok (.aload_n 0, 1) := by decide +kernel
theorem dX9_votes_30 : decode cX9_votes 30 = .ok (.getfield 7, 3) := by decide +kernel
theorem dX9_votes_33 : decode cX9_votes 33 = .ok (.iload_n 1, 1) := by decide +kernel
theorem dX9_votes_34 : decode cX9_votes 34 = .ok (.iaload, 1) := by decide +kernel
theorem dX9_votes_35 : decode cX9_votes 35 = .ok (.iconst (-1), 1) := by decide +kernel
theorem dX9_votes_36 : decode cX9_votes 36 = .ok (.if_icmp .eq 13, 3) := by decide +kernel
theorem dX9_votes_39 : decode cX9_votes 39 = .ok (.aload_n 0, 1) := by decide +kernel
theorem dX9_votes_40 : decode cX9_votes 40 = .ok (.getfield 7, 3) := by decide +kernel
theorem dX9_votes_43 : decode cX9_votes 43 = .ok (.iload_n 2, 1) := by decide +kernel
theorem dX9_votes_44 : decode cX9_votes 44 = .ok (.iaload, 1) := by decide +kernel
theorem dX9_votes_45 : decode cX9_votes 45 = .ok (.iconst (-1), 1) := by decide +kernel
theorem dX9_votes_46 : decode cX9_votes 46 = .ok (.if_icmp .ne 6, 3) := by decide +kernel
theorem dX9_votes_49 : decode cX9_votes 49 = .ok (.bipush (-6), 2) := by decide +kernel
theorem dX9_votes_51 : decode cX9_votes 51 = .ok (.ireturn, 1) := by decide +kernel
theorem dX9_votes_52 : decode cX9_votes 52 = .ok (.aload_n 0, 1) := by decide +kernel
theorem dX9_votes_53 : decode cX9_votes 53 = .ok (.iload_n 1, 1) := by decide +kernel
theorem dX9_votes_54 : decode cX9_votes 54 = .ok (.invokevirtual 439, 3) := by decide +kernel
theorem dX9_votes_57 : decode cX9_votes 57 = .ok (.ifCond .eq 11, 3) := by decide +kernel
theorem dX9_votes_60 : decode cX9_votes 60 = .ok (.aload_n 0, 1) := by decide +kernel
theorem dX9_votes_61 : decode cX9_votes 61 = .ok (.iload_n 2, 1) := by decide +kernel
theorem dX9_votes_62 : decode cX9_votes 62 = .ok (.invokevirtual 439, 3) := by decide +kernel
theorem dX9_votes_65 : decode cX9_votes 65 = .ok (.ifCond .ne 6, 3) := by decide +kernel
theorem dX9_votes_68 : decode cX9_votes 68 = .ok (.bipush (-2), 2) := by decide +kernel
theorem dX9_votes_70 : decode cX9_votes 70 = .ok (.ireturn, 1) := by decide +kernel
theorem dX9_votes_71 : decode cX9_votes 71 = .ok (.iconst 0, 1) := by decide +kernel
theorem dX9_votes_72 : decode cX9_votes 72 = .ok (.istore_n 3, 1) := by decide +kernel
theorem dX9_votes_73 : decode cX9_votes 73 = .ok (.iconst 0, 1) := by decide +kernel
theorem dX9_votes_74 : decode cX9_votes 74 = .ok (.istore 4, 2) := by decide +kernel
theorem dX9_votes_76 : decode cX9_votes 76 = .ok (.iload 4, 2) := by decide +kernel
theorem dX9_votes_78 : decode cX9_votes 78 = .ok (.aload_n 0, 1) := by decide +kernel
theorem dX9_votes_79 : decode cX9_votes 79 = .ok (.getfield 34, 3) := by decide +kernel
theorem dX9_votes_82 : decode cX9_votes 82 = .ok (.iconst 3, 1) := by decide +kernel
theorem dX9_votes_83 : decode cX9_votes 83 = .ok (.iaload, 1) := by decide +kernel
theorem dX9_votes_84 : decode cX9_votes 84 = .ok (.if_icmp .ge 34, 3) := by decide +kernel
theorem dX9_votes_87 : decode cX9_votes 87 = .ok (.iload_n 3, 1) := by decide +kernel
theorem dX9_votes_88 : decode cX9_votes 88 = .ok (.aload_n 0, 1) := by decide +kernel
theorem dX9_votes_89 : decode cX9_votes 89 = .ok (.iload 4, 2) := by decide +kernel
theorem dX9_votes_91 : decode cX9_votes 91 = .ok (.iload_n 1, 1) := by decide +kernel
theorem dX9_votes_92 : decode cX9_votes 92 = .ok (.invokevirtual 442, 3) := by decide +kernel
theorem dX9_votes_95 : decode cX9_votes 95 = .ok (.aload_n 0, 1) := by decide +kernel
theorem dX9_votes_96 : decode cX9_votes 96 = .ok (.iload 4, 2) := by decide +kernel
theorem dX9_votes_98 : decode cX9_votes 98 = .ok (.iload_n 2, 1) := by decide +kernel
theorem dX9_votes_99 : decode cX9_votes 99 = .ok (.invokevirtual 442, 3) := by decide +kernel
theorem dX9_votes_102 : decode cX9_votes 102 = .ok (.if_icmp .le 7, 3) := by decide +kernel
theorem dX9_votes_105 : decode cX9_votes 105 = .ok (.iconst 1, 1) := by decide +kernel
theorem dX9_votes_106 : decode cX9_votes 106 = .ok (.goto 4, 3) := by decide +kernel
theorem dX9_votes_109 : decode cX9_votes 109 = .ok (.iconst 0, 1) := by decide +kernel
theorem dX9_votes_110 : decode cX9_votes 110 = .ok (.iadd, 1) := by decide +kernel
theorem dX9_votes_111 : decode cX9_votes 111 = .ok (.istore_n 3, 1) := by decide +kernel
theorem dX9_votes_112 : decode cX9_votes 112 = .ok (.iinc 4 1, 3) := by decide +kernel
theorem dX9_votes_115 : decode cX9_votes 115 = .ok (.goto (-39), 3) := by decide +kernel
theorem dX9_votes_118 : decode cX9_votes 118 = .ok (.iload_n 3, 1) := by decide +kernel
theorem dX9_votes_119 : decode cX9_votes 119 = .ok (.ireturn, 1) := by decide +kernel
set_option maxHeartbeats 4000000 in
set_option maxRecDepth 100000 in
theorem s_X9_votes (l : Launch) (D : va_G) (K : Nat → ClassId) (ad : Nat → Nat) (v ar : sI) (al : sL) (hI : YI v ar) (z_1 : Int) (hz_1 : -2147483648 ≤ z_1 ∧ z_1 ≤ 2147483647) (z_2 : Int) (hz_2 : -2147483648 ≤ z_2 ∧ z_2 ≤ 2147483647) : Met l yX9_votes (wM yX9_votes cX9_votes 5 (some .int)) (rmD 3) (va_Pc [.ref (ad 0), .int (iI (z_1)), .int (iI (z_2))] (wPre D K ad (yG ad K) 21 v ar al)) (va_Qi (fun (r : Int32) (u : sT) => (∃ z : Int, (-2147483648 ≤ z ∧ z ≤ 2147483647) ∧ r = iI z) ∧ YI u.1 u.2.1 ∧ (∀ i j : Nat, (i, j) ∉ ([(0, 0)] : List (Nat × Nat)) → u.1 i j = v i j) ∧ (∀ i : Nat, i ∉ ([] : List Nat) → u.2.1 i = ar i) ∧ (∀ i : Nat, i ∉ ([] : List Nat) → u.2.2 i = al i)) (wB D ad (yG ad K) 21) (inW ad 21)) 0 0 (inW ad 21) := by
  refine s_metI (by decide) (Nat.le_of_ble_eq_true rfl) ?_
  intro p e s m below meth c ls args Q hE hB hl kr
  have hE : CallFix p m c cX9_votes 5 s args tbG "TaleCourtModel" := hE
  obtain ⟨hP, hK, hN⟩ := hB
  have hS : va_S (inW ad 21) s.heap s.heap [] := va_S.rf
  have hl : lv_has ls 5 [(0, .ref (ad 0)), (1, .int (iI (z_1))), (2, .int (iI (z_2)))] := hl
  obtain ⟨z1, hz1, ez1⟩ := iI_of (ar 6 0)
  obtain ⟨z2, hz2, ez2⟩ := YI_h2 hI 2 (by decide)
  obtain ⟨z3, hz3, ez3⟩ := YI_h5 hI 5 (by decide)
  obtain ⟨z4, hz4, ez4⟩ := YI_h0 hI 0 (by decide)
  have ht0 := YI_t0 hI ez1 (by omega) ez2 (by omega) ez3 (by omega) ez4 (by omega)
  refine lv_aload_n hE.1 hE.2.1 dX9_votes_0 rfl (lv_at hl 0 rfl) ?_
  refine lv_iconst (v := iI (0)) hE.1 hE.2.1 dX9_votes_1 (by decide) ?_
  refine x_put (x := iI (0)) hE hK hN hP hS 0 (by decide) (yG_9 rfl) rfl hin9 tyX9 tyX9_ok nmX9 0 (by decide) mw_1334 rfl rfl rfl (Nat.le_of_ble_eq_true rfl) (yG_9 rfl) dX9_votes_2 (fun v5 H locs hv5 hP hS => ?_)
  have hI := YI_putN hI hv5 (by decide)
  refine lv_iload_n hE.1 hE.2.1 dX9_votes_5 rfl (lv_at hl 1 rfl) ?_
  refine x_sp (nn := 1) (As := [.int (iI (z_1))]) (rest := []) hE (s_X9_isSlot l (z_1) (by omega)) tt_blind (fun _ _ _ => trivial) rfl mw_1490 mw_1491 mw_123 mw_1492 (by decide +kernel) ⟨by decide, by decide⟩ hl.1 rfl (Nat.le_of_ble_eq_true rfl) ⟨Nat.zero_le _, Nat.zero_le _⟩ dX9_votes_6 (fun r6 hr6 => ?_)
  obtain ⟨z6, hz6, rfl⟩ := hr6
  refine s_if_eq (a := z6) (tgt := 26) hE.1 hE.2.1 (by omega) dX9_votes_9 (by decide) (fun c7 => ?_) (fun c7 => ?_)
  · skip
    refine lv_bipush (v := iI (-2)) hE.1 hE.2.1 dX9_votes_26 (by decide) ?_
    exact kr _ v5 ar al _ _ _ _ rfl ⟨⟨-2, by omega, rfl⟩, hI, fun i j h => (up_oth hv5 (fun q => h (by rcases q with ⟨rfl, rfl⟩; decide))), fun i h => rfl, fun i h => rfl⟩ hP hS dX9_votes_28
  · skip
    refine lv_iload_n hE.1 hE.2.1 dX9_votes_12 rfl (lv_at hl 2 rfl) ?_
    refine x_sp (nn := 1) (As := [.int (iI (z_2))]) (rest := []) hE (s_X9_isSlot l (z_2) (by omega)) tt_blind (fun _ _ _ => trivial) rfl mw_1490 mw_1491 mw_123 mw_1492 (by decide +kernel) ⟨by decide, by decide⟩ hl.1 rfl (Nat.le_of_ble_eq_true rfl) ⟨Nat.zero_le _, Nat.zero_le _⟩ dX9_votes_13 (fun r8 hr8 => ?_)
    obtain ⟨z8, hz8, rfl⟩ := hr8
    refine s_if_eq (a := z8) (tgt := 26) hE.1 hE.2.1 (by omega) dX9_votes_16 (by decide) (fun c9 => ?_) (fun c9 => ?_)
    · skip
      refine lv_bipush (v := iI (-2)) hE.1 hE.2.1 dX9_votes_26 (by decide) ?_
      exact kr _ v5 ar al _ _ _ _ rfl ⟨⟨-2, by omega, rfl⟩, hI, fun i j h => (up_oth hv5 (fun q => h (by rcases q with ⟨rfl, rfl⟩; decide))), fun i h => rfl, fun i h => rfl⟩ hP hS dX9_votes_28
    · skip
      refine lv_aload_n hE.1 hE.2.1 dX9_votes_19 rfl (lv_at hl 0 rfl) ?_
      refine x_vp (nn := 0) (As := []) (rest := []) hE (s_X9_isCourt l D K ad v5 ar al hI (z1) (by omega) ez1 ) wPre_blind (wPre_now hK hN hP) (x_recv hK hP 0 (by decide) (yG_9 rfl) rfl) rfl mw_1718 mw_1720 mw_79 mw_123 mw_1721 (by decide +kernel) ⟨by decide, by decide⟩ hl.1 rfl (Nat.le_of_ble_eq_true rfl) ⟨Nat.zero_le _, Nat.zero_le _⟩ dX9_votes_20 (fun r10 hr10 => ?_)
      obtain ⟨z10, hz10, rfl⟩ := hr10
      refine s_if_ne (a := z10) (tgt := 29) hE.1 hE.2.1 (by omega) dX9_votes_23 (by decide) (fun c11 => ?_) (fun c11 => ?_)
      · skip
        refine lv_aload_n hE.1 hE.2.1 dX9_votes_29 rfl (lv_at hl 0 rfl) ?_
        refine x_get (x := .ref (ad 1)) hE hK hP 0 (by decide) (yG_9 rfl) rfl hin9 1 (by decide) mw_1335 rfl dX9_votes_30 ?_
        refine lv_iload_n hE.1 hE.2.1 dX9_votes_33 rfl (lv_at hl 1 rfl) ?_
        refine x_iald (j := iI (z_1)) hE hK hP 1 (by decide) (yG_10 rfl) (iI_in (n := 4) (by omega)) dX9_votes_34 ?_
        obtain ⟨z13, hz13, ez13⟩ := YI_a1 hI ((iI (z_1)).toNatClampNeg)
        refine x_top ez13 ?_
        refine lv_iconst (v := iI (-1)) hE.1 hE.2.1 dX9_votes_35 (by decide) ?_
        refine s_icmp_eq (a := z13) (b := -1) (tgt := 49) hE.1 hE.2.1 (by omega) (by omega) dX9_votes_36 (by decide) (fun c14 => ?_) (fun c14 => ?_)
        · skip
          refine lv_bipush (v := iI (-6)) hE.1 hE.2.1 dX9_votes_49 (by decide) ?_
          exact kr _ v5 ar al _ _ _ _ rfl ⟨⟨-6, by omega, rfl⟩, hI, fun i j h => (up_oth hv5 (fun q => h (by rcases q with ⟨rfl, rfl⟩; decide))), fun i h => rfl, fun i h => rfl⟩ hP hS dX9_votes_51
        · skip
          refine lv_aload_n hE.1 hE.2.1 dX9_votes_39 rfl (lv_at hl 0 rfl) ?_
          refine x_get (x := .ref (ad 1)) hE hK hP 0 (by decide) (yG_9 rfl) rfl hin9 1 (by decide) mw_1335 rfl dX9_votes_40 ?_
          refine lv_iload_n hE.1 hE.2.1 dX9_votes_43 rfl (lv_at hl 2 rfl) ?_
          refine x_iald (j := iI (z_2)) hE hK hP 1 (by decide) (yG_10 rfl) (iI_in (n := 4) (by omega)) dX9_votes_44 ?_
          obtain ⟨z16, hz16, ez16⟩ := YI_a1 hI ((iI (z_2)).toNatClampNeg)
          refine x_top ez16 ?_
          refine lv_iconst (v := iI (-1)) hE.1 hE.2.1 dX9_votes_45 (by decide) ?_
          refine s_icmp_ne (a := z16) (b := -1) (tgt := 52) hE.1 hE.2.1 (by omega) (by omega) dX9_votes_46 (by decide) (fun c17 => ?_) (fun c17 => ?_)
          · skip
            refine lv_aload_n hE.1 hE.2.1 dX9_votes_52 rfl (lv_at hl 0 rfl) ?_
            refine lv_iload_n hE.1 hE.2.1 dX9_votes_53 rfl (lv_at hl 1 rfl) ?_
            refine x_vp (nn := 1) (As := [.int (iI (z_1))]) (rest := []) hE (s_X9_areMotifs_e l D K ad v5 ar al hI  (z_1) (by omega)) wPre_blind (wPre_now hK hN hP) (x_recv hK hP 0 (by decide) (yG_9 rfl) rfl) rfl mw_2025 mw_2027 mw_109 mw_123 mw_2028 (by decide +kernel) ⟨by decide, by decide⟩ hl.1 rfl (Nat.le_of_ble_eq_true rfl) ⟨Nat.zero_le _, Nat.zero_le _⟩ dX9_votes_54 (fun r18 hr18 => ?_)
            obtain ⟨z18, hz18, rfl⟩ := hr18
            refine s_if_eq (a := z18) (tgt := 68) hE.1 hE.2.1 (by omega) dX9_votes_57 (by decide) (fun c19 => ?_) (fun c19 => ?_)
            · skip
              refine lv_bipush (v := iI (-2)) hE.1 hE.2.1 dX9_votes_68 (by decide) ?_
              exact kr _ v5 ar al _ _ _ _ rfl ⟨⟨-2, by omega, rfl⟩, hI, fun i j h => (up_oth hv5 (fun q => h (by rcases q with ⟨rfl, rfl⟩; decide))), fun i h => rfl, fun i h => rfl⟩ hP hS dX9_votes_70
            · skip
              refine lv_aload_n hE.1 hE.2.1 dX9_votes_60 rfl (lv_at hl 0 rfl) ?_
              refine lv_iload_n hE.1 hE.2.1 dX9_votes_61 rfl (lv_at hl 2 rfl) ?_
              refine x_vp (nn := 1) (As := [.int (iI (z_2))]) (rest := []) hE (s_X9_areMotifs_e l D K ad v5 ar al hI  (z_2) (by omega)) wPre_blind (wPre_now hK hN hP) (x_recv hK hP 0 (by decide) (yG_9 rfl) rfl) rfl mw_2025 mw_2027 mw_109 mw_123 mw_2028 (by decide +kernel) ⟨by decide, by decide⟩ hl.1 rfl (Nat.le_of_ble_eq_true rfl) ⟨Nat.zero_le _, Nat.zero_le _⟩ dX9_votes_62 (fun r20 hr20 => ?_)
              obtain ⟨z20, hz20, rfl⟩ := hr20
              refine s_if_ne (a := z20) (tgt := 71) hE.1 hE.2.1 (by omega) dX9_votes_65 (by decide) (fun c21 => ?_) (fun c21 => ?_)
              · skip
                refine lv_iconst (v := iI (0)) hE.1 hE.2.1 dX9_votes_71 (by decide) ?_
                refine lv_istore_n (lv' := [(3, .int (iI (0))), (0, .ref (ad 0)), (1, .int (iI (z_1))), (2, .int (iI (z_2)))]) hE.1 hE.2.1 dX9_votes_72 rfl hl (by decide) rfl (fun ls hl => ?_)
                refine lv_iconst (v := iI (0)) hE.1 hE.2.1 dX9_votes_73 (by decide) ?_
                refine lv_istore (lv' := [(4, .int (iI (0))), (3, .int (iI (0))), (0, .ref (ad 0)), (1, .int (iI (z_1))), (2, .int (iI (z_2)))]) hE.1 hE.2.1 dX9_votes_74 hl (by decide) rfl (fun ls hl => ?_)
                have loop22 : ∀ (k22 : Nat) (y22_4 : Int) (y22_3 : Int) (vl22 : sI) (all22 : sL) (H : Heap) (locs : List Loc) (ls : Array Slot), (8 - y22_4).toNat = k22 → (0 ≤ y22_4 ∧ y22_4 ≤ 8) → (-2147483648 ≤ y22_3 ∧ y22_3 ≤ 2147483647) → YI vl22 ar → (∀ i j : Nat, (i, j) ∉ ([] : List (Nat × Nat)) → vl22 i j = v5 i j) → (∀ i : Nat, i ∉ ([] : List Nat) → all22 i = al i) → va_P D xcl (wW ad (yG ad K) 21 vl22 ar all22) H → va_S (inW ad 21) s.heap H locs → lv_has ls 5 [(4, .int (iI (y22_4))), (3, .int (iI (y22_3))), (0, .ref (ad 0)), (1, .int (iI (z_1))), (2, .int (iI (z_2)))] → W p l e (rmD 3) s m args below meth c H locs 0 0 Q (F0 m 76 ls []) := by
                  intro k22
                  induction k22 using Nat.strongRecOn with
                  | _ k22 ih22 =>
                    intro y22_4 y22_3  vl22 all22 H locs ls hk22 hb_y22_4 hb_y22_3 hI hfr22 hfl22 hP hS hl
                    refine lv_iload hE.1 hE.2.1 dX9_votes_76 (lv_at hl 0 rfl) ?_
                    refine lv_aload_n hE.1 hE.2.1 dX9_votes_78 rfl (lv_at hl 2 rfl) ?_
                    refine x_get (x := .ref (ad 7)) hE hK hP 0 (by decide) (yG_9 rfl) rfl hin9 17 (by decide) mw_1351 rfl dX9_votes_79 ?_
                    refine lv_iconst (v := iI (3)) hE.1 hE.2.1 dX9_votes_82 (by decide) ?_
                    refine x_iald (j := iI (3)) hE hK hP 7 (by decide) (yG_10 rfl) (iI_in (n := 30) (by omega)) dX9_votes_83 ?_
                    obtain ⟨z24, hz24, ez24⟩ := YI_h3 hI 3 (by decide)
                    refine x_top (y := iI (z24)) (by rw [show (iI (3)).toNatClampNeg = 3 from by decide]; exact ez24) ?_
                    refine s_icmp_ge (a := y22_4) (b := z24) (tgt := 118) hE.1 hE.2.1 (by omega) (by omega) dX9_votes_84 (by decide) (fun c25 => ?_) (fun c25 => ?_)
                    · skip
                      refine lv_iload_n hE.1 hE.2.1 dX9_votes_118 rfl (lv_at hl 1 rfl) ?_
                      exact kr _ vl22 ar all22 _ _ _ _ rfl ⟨⟨y22_3, by omega, rfl⟩, hI, fun i j h => ((hfr22 i j (fun q => h (mem_sub (by decide) q))).trans (up_oth hv5 (fun q => h (by rcases q with ⟨rfl, rfl⟩; decide)))), fun i h => rfl, fun i h => (hfl22 i (fun q => h (mem_subn (by decide) q)))⟩ hP hS dX9_votes_119
                    · skip
                      refine lv_iload_n hE.1 hE.2.1 dX9_votes_87 rfl (lv_at hl 1 rfl) ?_
                      refine lv_aload_n hE.1 hE.2.1 dX9_votes_88 rfl (lv_at hl 2 rfl) ?_
                      refine lv_iload hE.1 hE.2.1 dX9_votes_89 (lv_at hl 0 rfl) ?_
                      refine lv_iload_n hE.1 hE.2.1 dX9_votes_91 rfl (lv_at hl 3 rfl) ?_
                      refine x_vp (nn := 2) (As := [.int (iI (y22_4)), .int (iI (z_1))]) (rest := [.int (iI (y22_3))]) hE (s_X9_tasteOf_e l D K ad vl22 ar all22 hI  (y22_4) (by omega) (z_1) (by omega) (by exact (MSv_tr ((hz18.resolve_left (by omega)).2) rfl (hfl22 3 (by decide))))) wPre_blind (wPre_now hK hN hP) (x_recv hK hP 0 (by decide) (yG_9 rfl) rfl) rfl mw_2029 mw_2031 mw_110 mw_123 mw_2032 (by decide +kernel) ⟨by decide, by decide⟩ hl.1 rfl (Nat.le_of_ble_eq_true rfl) ⟨Nat.zero_le _, Nat.zero_le _⟩ dX9_votes_92 (fun r26 hr26 => ?_)
                      obtain ⟨z26, hz26, rfl⟩ := hr26
                      refine lv_aload_n hE.1 hE.2.1 dX9_votes_95 rfl (lv_at hl 2 rfl) ?_
                      refine lv_iload hE.1 hE.2.1 dX9_votes_96 (lv_at hl 0 rfl) ?_
                      refine lv_iload_n hE.1 hE.2.1 dX9_votes_98 rfl (lv_at hl 4 rfl) ?_
                      refine x_vp (nn := 2) (As := [.int (iI (y22_4)), .int (iI (z_2))]) (rest := [.int (iI (z26)), .int (iI (y22_3))]) hE (s_X9_tasteOf_e l D K ad vl22 ar all22 hI  (y22_4) (by omega) (z_2) (by omega) (by exact (MSv_tr ((hz20.resolve_left (by omega)).2) rfl (hfl22 3 (by decide))))) wPre_blind (wPre_now hK hN hP) (x_recv hK hP 0 (by decide) (yG_9 rfl) rfl) rfl mw_2029 mw_2031 mw_110 mw_123 mw_2032 (by decide +kernel) ⟨by decide, by decide⟩ hl.1 rfl (Nat.le_of_ble_eq_true rfl) ⟨Nat.zero_le _, Nat.zero_le _⟩ dX9_votes_99 (fun r27 hr27 => ?_)
                      obtain ⟨z27, hz27, rfl⟩ := hr27
                      refine s_icmp_le (a := z26) (b := z27) (tgt := 109) hE.1 hE.2.1 (by omega) (by omega) dX9_votes_102 (by decide) (fun c28 => ?_) (fun c28 => ?_)
                      · skip
                        refine lv_iconst (v := iI (0)) hE.1 hE.2.1 dX9_votes_109 (by decide) ?_
                        refine lv_iadd hE.1 hE.2.1 dX9_votes_110 ?_
                        refine x_top (y := iI (y22_3)) ((iI_add (y22_3) (0)).trans (congrArg iI (by omega))) ?_
                        refine lv_istore_n (lv' := [(3, .int (iI (y22_3))), (4, .int (iI (y22_4))), (0, .ref (ad 0)), (1, .int (iI (z_1))), (2, .int (iI (z_2)))]) hE.1 hE.2.1 dX9_votes_111 rfl hl (by decide) rfl (fun ls hl => ?_)
                        refine lv_iinc (v := iI (y22_4 + 1)) (lv' := [(4, .int (iI (y22_4 + 1))), (3, .int (iI (y22_3))), (0, .ref (ad 0)), (1, .int (iI (z_1))), (2, .int (iI (z_2)))]) hE.1 hE.2.1 dX9_votes_112 hl (k := 1) rfl ((iI_add (y22_4) (1)).trans (congrArg iI (by omega))) (by decide) rfl (fun ls hl => ?_)
                        refine lv_goto (tgt := 76) hE.1 hE.2.1 dX9_votes_115 (by decide) ?_
                        exact ih22 _ (by omega) (y22_4 + 1) (y22_3)  vl22  all22 _ _ _ rfl (by omega) (by omega)  hI (fun i j h => (hfr22 i j h)) (fun i h => (hfl22 i h)) hP hS (lv_sub hl [0, 1, 2, 3, 4] rfl)
                      · skip
                        refine lv_iconst (v := iI (1)) hE.1 hE.2.1 dX9_votes_105 (by decide) ?_
                        refine lv_goto (tgt := 110) hE.1 hE.2.1 dX9_votes_106 (by decide) ?_
                        refine lv_iadd hE.1 hE.2.1 dX9_votes_110 ?_
                        obtain ⟨z29, hz29, ez29⟩ := iI_of (iI (y22_3) + iI (1))
                        refine x_top ez29 ?_
                        refine lv_istore_n (lv' := [(3, .int (iI (z29))), (4, .int (iI (y22_4))), (0, .ref (ad 0)), (1, .int (iI (z_1))), (2, .int (iI (z_2)))]) hE.1 hE.2.1 dX9_votes_111 rfl hl (by decide) rfl (fun ls hl => ?_)
                        refine lv_iinc (v := iI (y22_4 + 1)) (lv' := [(4, .int (iI (y22_4 + 1))), (3, .int (iI (z29))), (0, .ref (ad 0)), (1, .int (iI (z_1))), (2, .int (iI (z_2)))]) hE.1 hE.2.1 dX9_votes_112 hl (k := 1) rfl ((iI_add (y22_4) (1)).trans (congrArg iI (by omega))) (by decide) rfl (fun ls hl => ?_)
                        refine lv_goto (tgt := 76) hE.1 hE.2.1 dX9_votes_115 (by decide) ?_
                        exact ih22 _ (by omega) (y22_4 + 1) (z29)  vl22  all22 _ _ _ rfl (by omega) (by omega)  hI (fun i j h => (hfr22 i j h)) (fun i h => (hfl22 i h)) hP hS (lv_sub hl [0, 1, 2, 3, 4] rfl)
                exact loop22 _ (0) (0)  v5  al _ _ _ rfl (by omega) (by omega)  hI (fun _ _ _ => rfl) (fun _ _ => rfl) hP hS hl
              · skip
                refine lv_bipush (v := iI (-2)) hE.1 hE.2.1 dX9_votes_68 (by decide) ?_
                exact kr _ v5 ar al _ _ _ _ rfl ⟨⟨-2, by omega, rfl⟩, hI, fun i j h => (up_oth hv5 (fun q => h (by rcases q with ⟨rfl, rfl⟩; decide))), fun i h => rfl, fun i h => rfl⟩ hP hS dX9_votes_70
          · skip
            refine lv_bipush (v := iI (-6)) hE.1 hE.2.1 dX9_votes_49 (by decide) ?_
            exact kr _ v5 ar al _ _ _ _ rfl ⟨⟨-6, by omega, rfl⟩, hI, fun i j h => (up_oth hv5 (fun q => h (by rcases q with ⟨rfl, rfl⟩; decide))), fun i h => rfl, fun i h => rfl⟩ hP hS dX9_votes_51
      · skip
        refine lv_bipush (v := iI (-2)) hE.1 hE.2.1 dX9_votes_26 (by decide) ?_
        exact kr _ v5 ar al _ _ _ _ rfl ⟨⟨-2, by omega, rfl⟩, hI, fun i j h => (up_oth hv5 (fun q => h (by rcases q with ⟨rfl, rfl⟩; decide))), fun i h => rfl, fun i h => rfl⟩ hP hS dX9_votes_28

theorem dX9_taste_0 : decode cX9_taste 0 = .ok (.aload_n 0, 1) := by decide +kernel
theorem dX9_taste_1 : decode cX9_taste 1 = .ok (.iconst 0, 1) := by decide +kernel
theorem dX9_taste_2 : decode cX9_taste 2 = .ok (.putfield 81, 3) := by decide +kernel
theorem dX9_taste_5 : decode cX9_taste 5 = .ok (.iload_n 1, 1) := by decide +kernel
theorem dX9_taste_6 : decode cX9_taste 6 = .ok (.i2l, 1) := by decide +kernel
theorem dX9_taste_7 : decode cX9_taste 7 = .ok (.lconst 0, 1) := by decide +kernel
theorem dX9_taste_8 : decode cX9_taste 8 = .ok (.aload_n 0, 1) := by decide +kernel
theorem dX9_taste_9 : decode cX9_taste 9 = .ok (.getfield 34, 3) := by decide +kernel
theorem dX9_taste_12 : decode cX9_taste 12 = .ok (.iconst 3, 1) := by decide +kernel
theorem dX9_taste_13 : decode cX9_taste 13 = .ok (.iaload, 1) := by decide +kernel
theorem dX9_taste_14 : decode cX9_taste 14 = .ok (.iconst 1, 1) := by decide +kernel
theorem dX9_taste_15 : decode cX9_taste 15 = .ok (.isub, 1) := by decide +kernel
theorem dX9_taste_16 : decode cX9_taste 16 = .ok (.i2l, 1) := by decide +kernel
theorem dX9_taste_17 : decode cX9_taste 17 = .ok (.invokestatic 86, 3) := by decide +kernel
theorem dX9_taste_20 : decode cX9_taste 20 = .ok (.ifCond .eq 10, 3) := by decide +kernel
theorem dX9_taste_23 : decode cX9_taste 23 = .ok (.iload_n 2, 1) := by decide +kernel
theorem dX9_taste_24 : decode cX9_taste 24 = .ok (.invokestatic 90, 3) := by decide +kernel
theorem dX9_taste_27 : decode cX9_taste 27 = .ok (.ifCond .ne 7, 3) := by decide +kernel
theorem dX9_taste_30 : decode cX9_taste 30 = .ok (.sipush (-1000), 3) := by decide +kernel
theorem dX9_taste_33 : decode cX9_taste 33 = .ok (.ireturn, 1) := by decide +kernel
theorem dX9_taste_34 : decode cX9_taste 34 = .ok (.aload_n 0, 1) := by decide +kernel
theorem dX9_taste_35 : decode cX9_taste 35 = .ok (.getfield 7, 3) := by decide +kernel
theorem dX9_taste_38 : decode cX9_taste 38 = .ok (.iload_n 2, 1) := by decide +kernel
theorem dX9_taste_39 : decode cX9_taste 39 = .ok (.iaload, 1) := by decide +kernel
theorem dX9_taste_40 : decode cX9_taste 40 = .ok (.iconst (-1), 1) := by decide +kernel
theorem dX9_taste_41 : decode cX9_taste 41 = .ok (.if_icmp .ne 7, 3) := by decide +kernel
theorem dX9_taste_44 : decode cX9_taste 44 = .ok (.sipush (-6000), 3) := by decide +kernel
theorem dX9_taste_47 : decode cX9_taste 47 = .ok (.ireturn, 1) := by decide +kernel
theorem dX9_taste_48 : decode cX9_taste 48 = .ok (.aload_n 0, 1) := by decide +kernel
theorem dX9_taste_49 : decode cX9_taste 49 = .ok (.iload_n 2, 1) := by decide +kernel
theorem dX9_taste_50 : decode cX9_taste 50 = .ok (.invokevirtual 439, 3) := by decide +kernel
theorem dX9_taste_53 : decode cX9_taste 53 = .ok (.ifCond .eq 12, 3) := by decide +kernel
theorem dX9_taste_56 : decode cX9_taste 56 = .ok (.aload_n 0, 1) := by decide +kernel
theorem dX9_taste_57 : decode cX9_taste 57 = .ok (.iload_n 1, 1) := by decide +kernel
theorem dX9_taste_58 : decode cX9_taste 58 = .ok (.iload_n 2, 1) := by decide +kernel
theorem dX9_taste_59 : decode cX9_taste 59 = .ok (.invokevirtual 442, 3) := by decide +kernel
theorem dX9_taste_62 : decode cX9_taste 62 = .ok (.goto 6, 3) := by decide +kernel
theorem dX9_taste_65 : decode cX9_taste 65 = .ok (.sipush (-1000), 3) := by decide +kernel
theorem dX9_taste_68 : decode cX9_taste 68 = .ok (.ireturn, 1) := by decide +kernel
set_option maxHeartbeats 4000000 in
set_option maxRecDepth 100000 in
theorem s_X9_taste (l : Launch) (D : va_G) (K : Nat → ClassId) (ad : Nat → Nat) (v ar : sI) (al : sL) (hI : YI v ar) (z_1 : Int) (hz_1 : -2147483648 ≤ z_1 ∧ z_1 ≤ 2147483647) (z_2 : Int) (hz_2 : -2147483648 ≤ z_2 ∧ z_2 ≤ 2147483647) : Met l yX9_taste (wM yX9_taste cX9_taste 3 (some .int)) (rmD 3) (va_Pc [.ref (ad 0), .int (iI (z_1)), .int (iI (z_2))] (wPre D K ad (yG ad K) 21 v ar al)) (va_Qi (fun (r : Int32) (u : sT) => (∃ z : Int, (-2147483648 ≤ z ∧ z ≤ 2147483647) ∧ r = iI z) ∧ YI u.1 u.2.1 ∧ (∀ i j : Nat, (i, j) ∉ ([(0, 0)] : List (Nat × Nat)) → u.1 i j = v i j) ∧ (∀ i : Nat, i ∉ ([] : List Nat) → u.2.1 i = ar i) ∧ (∀ i : Nat, i ∉ ([] : List Nat) → u.2.2 i = al i)) (wB D ad (yG ad K) 21) (inW ad 21)) 0 0 (inW ad 21) := by
  refine s_metI (by decide) (Nat.le_of_ble_eq_true rfl) ?_
  intro p e s m below meth c ls args Q hE hB hl kr
  have hE : CallFix p m c cX9_taste 3 s args tbG "TaleCourtModel" := hE
  obtain ⟨hP, hK, hN⟩ := hB
  have hS : va_S (inW ad 21) s.heap s.heap [] := va_S.rf
  have hl : lv_has ls 3 [(0, .ref (ad 0)), (1, .int (iI (z_1))), (2, .int (iI (z_2)))] := hl
  obtain ⟨z1, hz1, ez1⟩ := iI_of (ar 6 0)
  obtain ⟨z2, hz2, ez2⟩ := YI_h2 hI 2 (by decide)
  obtain ⟨z3, hz3, ez3⟩ := YI_h5 hI 5 (by decide)
  obtain ⟨z4, hz4, ez4⟩ := YI_h0 hI 0 (by decide)
  have ht0 := YI_t0 hI ez1 (by omega) ez2 (by omega) ez3 (by omega) ez4 (by omega)
  refine lv_aload_n hE.1 hE.2.1 dX9_taste_0 rfl (lv_at hl 0 rfl) ?_
  refine lv_iconst (v := iI (0)) hE.1 hE.2.1 dX9_taste_1 (by decide) ?_
  refine x_put (x := iI (0)) hE hK hN hP hS 0 (by decide) (yG_9 rfl) rfl hin9 tyX9 tyX9_ok nmX9 0 (by decide) mw_1334 rfl rfl rfl (Nat.le_of_ble_eq_true rfl) (yG_9 rfl) dX9_taste_2 (fun v5 H locs hv5 hP hS => ?_)
  have hI := YI_putN hI hv5 (by decide)
  refine lv_iload_n hE.1 hE.2.1 dX9_taste_5 rfl (lv_at hl 1 rfl) ?_
  refine lv_i2l (v := lI (z_1)) hE.1 hE.2.1 dX9_taste_6 (iI_i2l (by omega)) ?_
  refine lv_lconst (v := lI (0)) hE.1 hE.2.1 dX9_taste_7 (by decide) ?_
  refine lv_aload_n hE.1 hE.2.1 dX9_taste_8 rfl (lv_at hl 0 rfl) ?_
  refine x_get (x := .ref (ad 7)) hE hK hP 0 (by decide) (yG_9 rfl) rfl hin9 17 (by decide) mw_1351 rfl dX9_taste_9 ?_
  refine lv_iconst (v := iI (3)) hE.1 hE.2.1 dX9_taste_12 (by decide) ?_
  refine x_iald (j := iI (3)) hE hK hP 7 (by decide) (yG_10 rfl) (iI_in (n := 30) (by omega)) dX9_taste_13 ?_
  obtain ⟨z7, hz7, ez7⟩ := YI_h3 hI 3 (by decide)
  refine x_top (y := iI (z7)) (by rw [show (iI (3)).toNatClampNeg = 3 from by decide]; exact ez7) ?_
  refine lv_iconst (v := iI (1)) hE.1 hE.2.1 dX9_taste_14 (by decide) ?_
  refine lv_isub hE.1 hE.2.1 dX9_taste_15 ?_
  refine x_top (y := iI (z7 - 1)) ((iI_sub (z7) (1)).trans (congrArg iI (by omega))) ?_
  refine lv_i2l (v := lI (z7 - 1)) hE.1 hE.2.1 dX9_taste_16 (iI_i2l (by omega)) ?_
  refine x_sp (nn := 3) (As := [.long (lI (z_1)), .long (lI (0)), .long (lI (z7 - 1))]) (rest := []) hE (s_X9_in l (z_1) (by omega) (0) (by omega) (z7 - 1) (by omega)) tt_blind (fun _ _ _ => trivial) rfl mw_1494 mw_1495 mw_123 mw_1496 (by decide +kernel) ⟨by decide, by decide⟩ hl.1 rfl (Nat.le_of_ble_eq_true rfl) ⟨Nat.zero_le _, Nat.zero_le _⟩ dX9_taste_17 (fun r8 hr8 => ?_)
  obtain ⟨z8, hz8, rfl⟩ := hr8
  refine s_if_eq (a := z8) (tgt := 30) hE.1 hE.2.1 (by omega) dX9_taste_20 (by decide) (fun c9 => ?_) (fun c9 => ?_)
  · skip
    refine lv_sipush (v := iI (-1000)) hE.1 hE.2.1 dX9_taste_30 (by decide) ?_
    exact kr _ v5 ar al _ _ _ _ rfl ⟨⟨-1000, by omega, rfl⟩, hI, fun i j h => (up_oth hv5 (fun q => h (by rcases q with ⟨rfl, rfl⟩; decide))), fun i h => rfl, fun i h => rfl⟩ hP hS dX9_taste_33
  · skip
    refine lv_iload_n hE.1 hE.2.1 dX9_taste_23 rfl (lv_at hl 2 rfl) ?_
    refine x_sp (nn := 1) (As := [.int (iI (z_2))]) (rest := []) hE (s_X9_isSlot l (z_2) (by omega)) tt_blind (fun _ _ _ => trivial) rfl mw_1490 mw_1491 mw_123 mw_1492 (by decide +kernel) ⟨by decide, by decide⟩ hl.1 rfl (Nat.le_of_ble_eq_true rfl) ⟨Nat.zero_le _, Nat.zero_le _⟩ dX9_taste_24 (fun r10 hr10 => ?_)
    obtain ⟨z10, hz10, rfl⟩ := hr10
    refine s_if_ne (a := z10) (tgt := 34) hE.1 hE.2.1 (by omega) dX9_taste_27 (by decide) (fun c11 => ?_) (fun c11 => ?_)
    · skip
      refine lv_aload_n hE.1 hE.2.1 dX9_taste_34 rfl (lv_at hl 0 rfl) ?_
      refine x_get (x := .ref (ad 1)) hE hK hP 0 (by decide) (yG_9 rfl) rfl hin9 1 (by decide) mw_1335 rfl dX9_taste_35 ?_
      refine lv_iload_n hE.1 hE.2.1 dX9_taste_38 rfl (lv_at hl 2 rfl) ?_
      refine x_iald (j := iI (z_2)) hE hK hP 1 (by decide) (yG_10 rfl) (iI_in (n := 4) (by omega)) dX9_taste_39 ?_
      obtain ⟨z13, hz13, ez13⟩ := YI_a1 hI ((iI (z_2)).toNatClampNeg)
      refine x_top ez13 ?_
      refine lv_iconst (v := iI (-1)) hE.1 hE.2.1 dX9_taste_40 (by decide) ?_
      refine s_icmp_ne (a := z13) (b := -1) (tgt := 48) hE.1 hE.2.1 (by omega) (by omega) dX9_taste_41 (by decide) (fun c14 => ?_) (fun c14 => ?_)
      · skip
        refine lv_aload_n hE.1 hE.2.1 dX9_taste_48 rfl (lv_at hl 0 rfl) ?_
        refine lv_iload_n hE.1 hE.2.1 dX9_taste_49 rfl (lv_at hl 2 rfl) ?_
        refine x_vp (nn := 1) (As := [.int (iI (z_2))]) (rest := []) hE (s_X9_areMotifs_e l D K ad v5 ar al hI  (z_2) (by omega)) wPre_blind (wPre_now hK hN hP) (x_recv hK hP 0 (by decide) (yG_9 rfl) rfl) rfl mw_2025 mw_2027 mw_109 mw_123 mw_2028 (by decide +kernel) ⟨by decide, by decide⟩ hl.1 rfl (Nat.le_of_ble_eq_true rfl) ⟨Nat.zero_le _, Nat.zero_le _⟩ dX9_taste_50 (fun r15 hr15 => ?_)
        obtain ⟨z15, hz15, rfl⟩ := hr15
        refine s_if_eq (a := z15) (tgt := 65) hE.1 hE.2.1 (by omega) dX9_taste_53 (by decide) (fun c16 => ?_) (fun c16 => ?_)
        · skip
          refine lv_sipush (v := iI (-1000)) hE.1 hE.2.1 dX9_taste_65 (by decide) ?_
          exact kr _ v5 ar al _ _ _ _ rfl ⟨⟨-1000, by omega, rfl⟩, hI, fun i j h => (up_oth hv5 (fun q => h (by rcases q with ⟨rfl, rfl⟩; decide))), fun i h => rfl, fun i h => rfl⟩ hP hS dX9_taste_68
        · skip
          refine lv_aload_n hE.1 hE.2.1 dX9_taste_56 rfl (lv_at hl 0 rfl) ?_
          refine lv_iload_n hE.1 hE.2.1 dX9_taste_57 rfl (lv_at hl 1 rfl) ?_
          refine lv_iload_n hE.1 hE.2.1 dX9_taste_58 rfl (lv_at hl 2 rfl) ?_
          refine x_vp (nn := 2) (As := [.int (iI (z_1)), .int (iI (z_2))]) (rest := []) hE (s_X9_tasteOf_e l D K ad v5 ar al hI  (z_1) (by omega) (z_2) (by omega) (by exact (MSv_tr ((hz15.resolve_left (by omega)).2) rfl rfl))) wPre_blind (wPre_now hK hN hP) (x_recv hK hP 0 (by decide) (yG_9 rfl) rfl) rfl mw_2029 mw_2031 mw_110 mw_123 mw_2032 (by decide +kernel) ⟨by decide, by decide⟩ hl.1 rfl (Nat.le_of_ble_eq_true rfl) ⟨Nat.zero_le _, Nat.zero_le _⟩ dX9_taste_59 (fun r17 hr17 => ?_)
          obtain ⟨z17, hz17, rfl⟩ := hr17
          refine lv_goto (tgt := 68) hE.1 hE.2.1 dX9_taste_62 (by decide) ?_
          exact kr _ v5 ar al _ _ _ _ rfl ⟨⟨z17, by omega, rfl⟩, hI, fun i j h => (up_oth hv5 (fun q => h (by rcases q with ⟨rfl, rfl⟩; decide))), fun i h => rfl, fun i h => rfl⟩ hP hS dX9_taste_68
      · skip
        refine lv_sipush (v := iI (-6000)) hE.1 hE.2.1 dX9_taste_44 (by decide) ?_
        exact kr _ v5 ar al _ _ _ _ rfl ⟨⟨-6000, by omega, rfl⟩, hI, fun i j h => (up_oth hv5 (fun q => h (by rcases q with ⟨rfl, rfl⟩; decide))), fun i h => rfl, fun i h => rfl⟩ hP hS dX9_taste_47
    · skip
      refine lv_sipush (v := iI (-1000)) hE.1 hE.2.1 dX9_taste_30 (by decide) ?_
      exact kr _ v5 ar al _ _ _ _ rfl ⟨⟨-1000, by omega, rfl⟩, hI, fun i j h => (up_oth hv5 (fun q => h (by rcases q with ⟨rfl, rfl⟩; decide))), fun i h => rfl, fun i h => rfl⟩ hP hS dX9_taste_33
