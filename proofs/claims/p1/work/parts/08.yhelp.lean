theorem slB_nar (x : Int32) : narrow .boolean (.int (slB x)) = .int (slB x) := by
  unfold slB
  split
  · rfl
  · split <;> rfl
theorem inL_nar (x lo hi : Int64) : narrow .boolean (.int (inL x lo hi)) = .int (inL x lo hi) := by
  unfold inL
  split
  · rfl
  · split <;> rfl

theorem dX9_in_0 : decode cX9_in 0 = .ok (.lload_n 0, 1) := by decide +kernel
theorem dX9_in_1 : decode cX9_in 1 = .ok (.lload_n 2, 1) := by decide +kernel
theorem dX9_in_2 : decode cX9_in 2 = .ok (.lcmp, 1) := by decide +kernel
theorem dX9_in_3 : decode cX9_in 3 = .ok (.ifCond .lt 14, 3) := by decide +kernel
theorem dX9_in_6 : decode cX9_in 6 = .ok (.lload_n 0, 1) := by decide +kernel
theorem dX9_in_7 : decode cX9_in 7 = .ok (.lload 4, 2) := by decide +kernel
theorem dX9_in_9 : decode cX9_in 9 = .ok (.lcmp, 1) := by decide +kernel
theorem dX9_in_10 : decode cX9_in 10 = .ok (.ifCond .gt 7, 3) := by decide +kernel
theorem dX9_in_13 : decode cX9_in 13 = .ok (.iconst 1, 1) := by decide +kernel
theorem dX9_in_14 : decode cX9_in 14 = .ok (.goto 4, 3) := by decide +kernel
theorem dX9_in_17 : decode cX9_in 17 = .ok (.iconst 0, 1) := by decide +kernel
theorem dX9_in_18 : decode cX9_in 18 = .ok (.ireturn, 1) := by decide +kernel
set_option maxHeartbeats 4000000 in
set_option maxRecDepth 100000 in
theorem k_X9_in (l : Launch) (p1 p2 p3 : Int64) : Met l yX9_in (wM yX9_in cX9_in 6 (some .boolean)) (rmD 0) (va_Pc [.long p1, .long p2, .long p3] (fun _ => True)) (vp_Si (fun r => r = inL p1 p2 p3)) 0 0 (fun _ => False) := by
  refine x_met (by decide) (Nat.le_of_ble_eq_true rfl) ?_
  intro p e s m below meth c ls hE hr hlo hnm hB hl
  have hE : CallFix p m c cX9_in 6 s _ tbG "TaleCourtModel" := hE
  have hl : lv_has ls 6 [(0, .long p1), (2, .long p2), (4, .long p3)] := hl
  refine lv_lload_n hE.1 hE.2.1 dX9_in_0 rfl (lv_at hl 0 rfl) ?_
  refine lv_lload_n hE.1 hE.2.1 dX9_in_1 rfl (lv_at hl 1 rfl) ?_
  refine W.lcmp hE.1 hE.2.1 dX9_in_2 ?_
  refine lv_if_lt (tgt := 17) hE.1 hE.2.1 dX9_in_3 (by decide) (fun c_1 => ?_) (fun c_1 => ?_)
  · skip
    refine lv_iconst (v := 0) hE.1 hE.2.1 dX9_in_17 (by decide) ?_
    exact x_ri (post := fun r => r = inL p1 p2 p3) hE hr hlo rfl (show _ = inL p1 p2 p3 from (if_pos ((lg_cmp_lt _ _).mp c_1)).symm) dX9_in_18
  · skip
    refine lv_lload_n hE.1 hE.2.1 dX9_in_6 rfl (lv_at hl 0 rfl) ?_
    refine lv_lload hE.1 hE.2.1 dX9_in_7 (lv_at hl 2 rfl) ?_
    refine W.lcmp hE.1 hE.2.1 dX9_in_9 ?_
    refine lv_if_gt (tgt := 17) hE.1 hE.2.1 dX9_in_10 (by decide) (fun c_2 => ?_) (fun c_2 => ?_)
    · skip
      refine lv_iconst (v := 0) hE.1 hE.2.1 dX9_in_17 (by decide) ?_
      exact x_ri (post := fun r => r = inL p1 p2 p3) hE hr hlo rfl (show _ = inL p1 p2 p3 from ((if_neg (fun q => c_1 ((lg_cmp_lt _ _).mpr q))).trans (if_pos ((lg_cmp_gt _ _).mp c_2))).symm) dX9_in_18
    · skip
      refine lv_iconst (v := 1) hE.1 hE.2.1 dX9_in_13 (by decide) ?_
      refine lv_goto (tgt := 18) hE.1 hE.2.1 dX9_in_14 (by decide) ?_
      exact x_ri (post := fun r => r = inL p1 p2 p3) hE hr hlo rfl (show _ = inL p1 p2 p3 from ((if_neg (fun q => c_1 ((lg_cmp_lt _ _).mpr q))).trans (if_neg (fun q => c_2 ((lg_cmp_gt _ _).mpr q)))).symm) dX9_in_18

theorem dX9_isSlot_0 : decode cX9_isSlot 0 = .ok (.iload_n 0, 1) := by decide +kernel
theorem dX9_isSlot_1 : decode cX9_isSlot 1 = .ok (.i2l, 1) := by decide +kernel
theorem dX9_isSlot_2 : decode cX9_isSlot 2 = .ok (.lconst 0, 1) := by decide +kernel
theorem dX9_isSlot_3 : decode cX9_isSlot 3 = .ok (.ldc2_w 84, 3) := by decide +kernel
theorem dX9_isSlot_6 : decode cX9_isSlot 6 = .ok (.invokestatic 86, 3) := by decide +kernel
theorem dX9_isSlot_9 : decode cX9_isSlot 9 = .ok (.ireturn, 1) := by decide +kernel
set_option maxHeartbeats 4000000 in
set_option maxRecDepth 100000 in
theorem k_X9_isSlot (l : Launch) (p1 : Int32) : Met l yX9_isSlot (wM yX9_isSlot cX9_isSlot 1 (some .boolean)) (rmD 1) (va_Pc [.int p1] (fun _ => True)) (vp_Si (fun r => r = slB p1)) 0 0 (fun _ => False) := by
  refine x_met (by decide) (Nat.le_of_ble_eq_true rfl) ?_
  intro p e s m below meth c ls hE hr hlo hnm hB hl
  have hE : CallFix p m c cX9_isSlot 1 s _ tbG "TaleCourtModel" := hE
  have hl : lv_has ls 1 [(0, .int p1)] := hl
  refine lv_iload_n hE.1 hE.2.1 dX9_isSlot_0 rfl (lv_at hl 0 rfl) ?_
  refine lv_i2l (v := (p1.toInt64)) hE.1 hE.2.1 dX9_isSlot_1 rfl ?_
  refine lv_lconst (v := 0) hE.1 hE.2.1 dX9_isSlot_2 (by decide) ?_
  refine lv_ldc2 (v := 3) hE.1 hE.2.1 hE.2.2.2.1 (hE.2.2.2.2 _ mw_1493) dX9_isSlot_3 ?_
  refine x_sp (nn := 3) (As := [.long (p1.toInt64), .long 0, .long 3]) (rest := []) hE (k_X9_in l (p1.toInt64) 0 3) tt_blind (fun _ _ _ => trivial) rfl mw_1494 mw_1495 mw_123 mw_1496 (by decide +kernel) ⟨by decide, by decide⟩ hl.1 rfl (by decide) ⟨Nat.zero_le _, Nat.zero_le _⟩ dX9_isSlot_6 (fun r hr => ?_)
  subst hr
  refine x_top (y := slB p1) (inL_slot p1) ?_
  exact x_ri (post := fun r => r = slB p1) hE hr hlo (slB_nar p1) rfl dX9_isSlot_9

theorem dX9_isMotif_0 : decode cX9_isMotif 0 = .ok (.lload_n 1, 1) := by decide +kernel
theorem dX9_isMotif_1 : decode cX9_isMotif 1 = .ok (.lconst 0, 1) := by decide +kernel
theorem dX9_isMotif_2 : decode cX9_isMotif 2 = .ok (.aload_n 0, 1) := by decide +kernel
theorem dX9_isMotif_3 : decode cX9_isMotif 3 = .ok (.getfield 34, 3) := by decide +kernel
theorem dX9_isMotif_6 : decode cX9_isMotif 6 = .ok (.iconst 2, 1) := by decide +kernel
theorem dX9_isMotif_7 : decode cX9_isMotif 7 = .ok (.iaload, 1) := by decide +kernel
theorem dX9_isMotif_8 : decode cX9_isMotif 8 = .ok (.i2l, 1) := by decide +kernel
theorem dX9_isMotif_9 : decode cX9_isMotif 9 = .ok (.lconst 1, 1) := by decide +kernel
theorem dX9_isMotif_10 : decode cX9_isMotif 10 = .ok (.lsub, 1) := by decide +kernel
theorem dX9_isMotif_11 : decode cX9_isMotif 11 = .ok (.invokestatic 86, 3) := by decide +kernel
theorem dX9_isMotif_14 : decode cX9_isMotif 14 = .ok (.ireturn, 1) := by decide +kernel
set_option maxHeartbeats 4000000 in
set_option maxRecDepth 100000 in
theorem k_X9_isMotif (l : Launch) (D : va_G) (K : Nat → ClassId) (ad : Nat → Nat) (p1 : Int64) : Met l yX9_isMotif (wM yX9_isMotif cX9_isMotif 3 (some .boolean)) (rmD 1) (va_Pc [.ref (ad 0), .long p1] (wPre D K ad (yG ad K) 21 yv0 ya0 yl0)) (vp_Si (fun r => r = 0)) 0 0 (fun _ => False) := by
  refine x_met (by decide) (Nat.le_of_ble_eq_true rfl) ?_
  intro p e s m below meth c ls hE hr hlo hnm hB hl
  have hE : CallFix p m c cX9_isMotif 3 s _ tbG "TaleCourtModel" := hE
  obtain ⟨hP, hK, hN⟩ := hB
  have hS : va_S (inW ad 21) s.heap s.heap [] := va_S.rf
  have hl : lv_has ls 3 [(0, .ref (ad 0)), (1, .long p1)] := hl
  refine lv_lload_n hE.1 hE.2.1 dX9_isMotif_0 rfl (lv_at hl 1 rfl) ?_
  refine lv_lconst (v := 0) hE.1 hE.2.1 dX9_isMotif_1 (by decide) ?_
  refine lv_aload_n hE.1 hE.2.1 dX9_isMotif_2 rfl (lv_at hl 0 rfl) ?_
  refine x_get (x := .ref (ad 7)) hE hK hP 0 (by decide) (yG_9 rfl) rfl hin9 17 (by decide) mw_1351 rfl dX9_isMotif_3 ?_
  refine lv_iconst (v := 2) hE.1 hE.2.1 dX9_isMotif_6 (by decide) ?_
  refine x_iald (j := 2) hE hK hP 7 (by decide) (yG_10 rfl) (by unfold vp_in; decide) dX9_isMotif_7 ?_
  refine x_top (y := 0) (by decide) ?_
  refine lv_i2l (v := 0) hE.1 hE.2.1 dX9_isMotif_8 (by decide) ?_
  refine lv_lconst (v := 1) hE.1 hE.2.1 dX9_isMotif_9 (by decide) ?_
  refine lv_lsub hE.1 hE.2.1 dX9_isMotif_10 ?_
  refine x_topl (y := (-1)) (by decide) ?_
  refine x_sp (nn := 3) (As := [.long p1, .long 0, .long (-1)]) (rest := []) hE (k_X9_in l p1 0 (-1)) tt_blind (fun _ _ _ => trivial) rfl mw_1494 mw_1495 mw_123 mw_1496 (by decide +kernel) ⟨by decide, by decide⟩ hl.1 rfl (by decide) ⟨Nat.zero_le _, Nat.zero_le _⟩ dX9_isMotif_11 (fun r hr => ?_)
  subst hr
  refine x_top (y := 0) (inL_none _) ?_
  exact x_ri hE hr hlo rfl rfl dX9_isMotif_14

theorem dX9_isCourt_0 : decode cX9_isCourt 0 = .ok (.aload_n 0, 1) := by decide +kernel
theorem dX9_isCourt_1 : decode cX9_isCourt 1 = .ok (.getfield 31, 3) := by decide +kernel
theorem dX9_isCourt_4 : decode cX9_isCourt 4 = .ok (.iconst 0, 1) := by decide +kernel
theorem dX9_isCourt_5 : decode cX9_isCourt 5 = .ok (.iaload, 1) := by decide +kernel
theorem dX9_isCourt_6 : decode cX9_isCourt 6 = .ok (.ifCond .le 7, 3) := by decide +kernel
theorem dX9_isCourt_13 : decode cX9_isCourt 13 = .ok (.iconst 0, 1) := by decide +kernel
theorem dX9_isCourt_14 : decode cX9_isCourt 14 = .ok (.ireturn, 1) := by decide +kernel
set_option maxHeartbeats 4000000 in
set_option maxRecDepth 100000 in
theorem k_X9_isCourt (l : Launch) (D : va_G) (K : Nat → ClassId) (ad : Nat → Nat) : Met l yX9_isCourt (wM yX9_isCourt cX9_isCourt 1 (some .boolean)) (rmD 0) (va_Pc [.ref (ad 0)] (wPre D K ad (yG ad K) 21 yv0 ya0 yl0)) (vp_Si (fun r => r = 0)) 0 0 (fun _ => False) := by
  refine x_met (by decide) (Nat.le_of_ble_eq_true rfl) ?_
  intro p e s m below meth c ls hE hr hlo hnm hB hl
  have hE : CallFix p m c cX9_isCourt 1 s _ tbG "TaleCourtModel" := hE
  obtain ⟨hP, hK, hN⟩ := hB
  have hS : va_S (inW ad 21) s.heap s.heap [] := va_S.rf
  have hl : lv_has ls 1 [(0, .ref (ad 0))] := hl
  refine lv_aload_n hE.1 hE.2.1 dX9_isCourt_0 rfl (lv_at hl 0 rfl) ?_
  refine x_get (x := .ref (ad 6)) hE hK hP 0 (by decide) (yG_9 rfl) rfl hin9 16 (by decide) mw_1350 rfl dX9_isCourt_1 ?_
  refine lv_iconst (v := 0) hE.1 hE.2.1 dX9_isCourt_4 (by decide) ?_
  refine x_iald (j := 0) hE hK hP 6 (by decide) (yG_10 rfl) (by unfold vp_in; decide) dX9_isCourt_5 ?_
  refine x_top (y := 0) (by decide) ?_
  refine lv_if_le (tgt := 13) hE.1 hE.2.1 dX9_isCourt_6 (by decide) (fun _ => ?_) (fun h => absurd (by decide) h)
  refine lv_iconst (v := 0) hE.1 hE.2.1 dX9_isCourt_13 (by decide) ?_
  exact x_ri hE hr hlo rfl rfl dX9_isCourt_14

theorem dX9_isTeller_0 : decode cX9_isTeller 0 = .ok (.iload_n 1, 1) := by decide +kernel
theorem dX9_isTeller_1 : decode cX9_isTeller 1 = .ok (.i2l, 1) := by decide +kernel
theorem dX9_isTeller_2 : decode cX9_isTeller 2 = .ok (.lconst 0, 1) := by decide +kernel
theorem dX9_isTeller_3 : decode cX9_isTeller 3 = .ok (.aload_n 0, 1) := by decide +kernel
theorem dX9_isTeller_4 : decode cX9_isTeller 4 = .ok (.getfield 34, 3) := by decide +kernel
theorem dX9_isTeller_7 : decode cX9_isTeller 7 = .ok (.iconst 0, 1) := by decide +kernel
theorem dX9_isTeller_8 : decode cX9_isTeller 8 = .ok (.iaload, 1) := by decide +kernel
theorem dX9_isTeller_9 : decode cX9_isTeller 9 = .ok (.iconst 1, 1) := by decide +kernel
theorem dX9_isTeller_10 : decode cX9_isTeller 10 = .ok (.isub, 1) := by decide +kernel
theorem dX9_isTeller_11 : decode cX9_isTeller 11 = .ok (.i2l, 1) := by decide +kernel
theorem dX9_isTeller_12 : decode cX9_isTeller 12 = .ok (.invokestatic 86, 3) := by decide +kernel
theorem dX9_isTeller_15 : decode cX9_isTeller 15 = .ok (.ireturn, 1) := by decide +kernel
set_option maxHeartbeats 4000000 in
set_option maxRecDepth 100000 in
theorem k_X9_isTeller (l : Launch) (D : va_G) (K : Nat → ClassId) (ad : Nat → Nat) (p1 : Int32) : Met l yX9_isTeller (wM yX9_isTeller cX9_isTeller 2 (some .boolean)) (rmD 1) (va_Pc [.ref (ad 0), .int p1] (wPre D K ad (yG ad K) 21 yv0 ya0 yl0)) (vp_Si (fun r => r = 0)) 0 0 (fun _ => False) := by
  refine x_met (by decide) (Nat.le_of_ble_eq_true rfl) ?_
  intro p e s m below meth c ls hE hr hlo hnm hB hl
  have hE : CallFix p m c cX9_isTeller 2 s _ tbG "TaleCourtModel" := hE
  obtain ⟨hP, hK, hN⟩ := hB
  have hS : va_S (inW ad 21) s.heap s.heap [] := va_S.rf
  have hl : lv_has ls 2 [(0, .ref (ad 0)), (1, .int p1)] := hl
  refine lv_iload_n hE.1 hE.2.1 dX9_isTeller_0 rfl (lv_at hl 1 rfl) ?_
  refine lv_i2l (v := (p1.toInt64)) hE.1 hE.2.1 dX9_isTeller_1 rfl ?_
  refine lv_lconst (v := 0) hE.1 hE.2.1 dX9_isTeller_2 (by decide) ?_
  refine lv_aload_n hE.1 hE.2.1 dX9_isTeller_3 rfl (lv_at hl 0 rfl) ?_
  refine x_get (x := .ref (ad 7)) hE hK hP 0 (by decide) (yG_9 rfl) rfl hin9 17 (by decide) mw_1351 rfl dX9_isTeller_4 ?_
  refine lv_iconst (v := 0) hE.1 hE.2.1 dX9_isTeller_7 (by decide) ?_
  refine x_iald (j := 0) hE hK hP 7 (by decide) (yG_10 rfl) (by unfold vp_in; decide) dX9_isTeller_8 ?_
  refine x_top (y := 0) (by decide) ?_
  refine lv_iconst (v := 1) hE.1 hE.2.1 dX9_isTeller_9 (by decide) ?_
  refine lv_isub hE.1 hE.2.1 dX9_isTeller_10 ?_
  refine x_top (y := (-1)) (by decide) ?_
  refine lv_i2l (v := (-1)) hE.1 hE.2.1 dX9_isTeller_11 (by decide) ?_
  refine x_sp (nn := 3) (As := [.long (p1.toInt64), .long 0, .long (-1)]) (rest := []) hE (k_X9_in l (p1.toInt64) 0 (-1)) tt_blind (fun _ _ _ => trivial) rfl mw_1494 mw_1495 mw_123 mw_1496 (by decide +kernel) ⟨by decide, by decide⟩ hl.1 rfl (by decide) ⟨Nat.zero_le _, Nat.zero_le _⟩ dX9_isTeller_12 (fun r hr => ?_)
  subst hr
  refine x_top (y := 0) (inL_none _) ?_
  exact x_ri hE hr hlo rfl rfl dX9_isTeller_15

theorem dX9_whyNoGame_0 : decode cX9_whyNoGame 0 = .ok (.aload_n 0, 1) := by decide +kernel
theorem dX9_whyNoGame_1 : decode cX9_whyNoGame 1 = .ok (.invokevirtual 301, 3) := by decide +kernel
theorem dX9_whyNoGame_4 : decode cX9_whyNoGame 4 = .ok (.ifCond .ne 8, 3) := by decide +kernel
theorem dX9_whyNoGame_7 : decode cX9_whyNoGame 7 = .ok (.bipush (-2), 2) := by decide +kernel
theorem dX9_whyNoGame_9 : decode cX9_whyNoGame 9 = .ok (.goto 19, 3) := by decide +kernel
theorem dX9_whyNoGame_28 : decode cX9_whyNoGame 28 = .ok (.ireturn, 1) := by decide +kernel
set_option maxHeartbeats 4000000 in
set_option maxRecDepth 100000 in
theorem k_X9_whyNoGame (l : Launch) (D : va_G) (K : Nat → ClassId) (ad : Nat → Nat) : Met l yX9_whyNoGame (wM yX9_whyNoGame cX9_whyNoGame 1 (some .int)) (rmD 1) (va_Pc [.ref (ad 0)] (wPre D K ad (yG ad K) 21 yv0 ya0 yl0)) (vp_Si (fun r => r = (-2))) 0 0 (fun _ => False) := by
  refine x_met (by decide) (Nat.le_of_ble_eq_true rfl) ?_
  intro p e s m below meth c ls hE hr hlo hnm hB hl
  have hE : CallFix p m c cX9_whyNoGame 1 s _ tbG "TaleCourtModel" := hE
  obtain ⟨hP, hK, hN⟩ := hB
  have hS : va_S (inW ad 21) s.heap s.heap [] := va_S.rf
  have hl : lv_has ls 1 [(0, .ref (ad 0))] := hl
  refine lv_aload_n hE.1 hE.2.1 dX9_whyNoGame_0 rfl (lv_at hl 0 rfl) ?_
  refine x_vp (nn := 0) (As := []) (rest := []) hE (k_X9_isCourt l D K ad ) wPre_blind (wPre_now hK hN hP) (x_recv hK hP 0 (by decide) (yG_9 rfl) rfl) rfl mw_1718 mw_1720 mw_79 mw_123 mw_1721 (by decide +kernel) ⟨by decide, by decide⟩ hl.1 rfl (by decide) ⟨Nat.zero_le _, Nat.zero_le _⟩ dX9_whyNoGame_1 (fun r hr => ?_)
  subst hr
  refine lv_if_ne (tgt := 12) hE.1 hE.2.1 dX9_whyNoGame_4 (by decide) (fun h => absurd (by decide) h) (fun _ => ?_)
  refine lv_bipush (v := (-2)) hE.1 hE.2.1 dX9_whyNoGame_7 (by decide) ?_
  refine lv_goto (tgt := 28) hE.1 hE.2.1 dX9_whyNoGame_9 (by decide) ?_
  exact x_ri hE hr hlo rfl rfl dX9_whyNoGame_28

theorem dX9_whyNoRow_0 : decode cX9_whyNoRow 0 = .ok (.iload_n 1, 1) := by decide +kernel
theorem dX9_whyNoRow_1 : decode cX9_whyNoRow 1 = .ok (.invokestatic 90, 3) := by decide +kernel
theorem dX9_whyNoRow_4 : decode cX9_whyNoRow 4 = .ok (.ifCond .eq 10, 3) := by decide +kernel
theorem dX9_whyNoRow_7 : decode cX9_whyNoRow 7 = .ok (.aload_n 0, 1) := by decide +kernel
theorem dX9_whyNoRow_8 : decode cX9_whyNoRow 8 = .ok (.invokevirtual 301, 3) := by decide +kernel
theorem dX9_whyNoRow_11 : decode cX9_whyNoRow 11 = .ok (.ifCond .ne 8, 3) := by decide +kernel
theorem dX9_whyNoRow_14 : decode cX9_whyNoRow 14 = .ok (.bipush (-2), 2) := by decide +kernel
theorem dX9_whyNoRow_16 : decode cX9_whyNoRow 16 = .ok (.goto 19, 3) := by decide +kernel
theorem dX9_whyNoRow_35 : decode cX9_whyNoRow 35 = .ok (.ireturn, 1) := by decide +kernel
set_option maxHeartbeats 4000000 in
set_option maxRecDepth 100000 in
theorem k_X9_whyNoRow (l : Launch) (D : va_G) (K : Nat → ClassId) (ad : Nat → Nat) (p1 : Int32) : Met l yX9_whyNoRow (wM yX9_whyNoRow cX9_whyNoRow 2 (some .int)) (rmD 2) (va_Pc [.ref (ad 0), .int p1] (wPre D K ad (yG ad K) 21 yv0 ya0 yl0)) (vp_Si (fun r => r = (-2))) 0 0 (fun _ => False) := by
  refine x_met (by decide) (Nat.le_of_ble_eq_true rfl) ?_
  intro p e s m below meth c ls hE hr hlo hnm hB hl
  have hE : CallFix p m c cX9_whyNoRow 2 s _ tbG "TaleCourtModel" := hE
  obtain ⟨hP, hK, hN⟩ := hB
  have hS : va_S (inW ad 21) s.heap s.heap [] := va_S.rf
  have hl : lv_has ls 2 [(0, .ref (ad 0)), (1, .int p1)] := hl
  refine lv_iload_n hE.1 hE.2.1 dX9_whyNoRow_0 rfl (lv_at hl 1 rfl) ?_
  refine x_sp (nn := 1) (As := [.int p1]) (rest := []) hE (k_X9_isSlot l p1) tt_blind (fun _ _ _ => trivial) rfl mw_1490 mw_1491 mw_123 mw_1492 (by decide +kernel) ⟨by decide, by decide⟩ hl.1 rfl (by decide) ⟨Nat.zero_le _, Nat.zero_le _⟩ dX9_whyNoRow_1 (fun r hr => ?_)
  subst hr
  refine lv_if_eq (tgt := 14) hE.1 hE.2.1 dX9_whyNoRow_4 (by decide) (fun c_1 => ?_) (fun c_1 => ?_)
  · skip
    refine lv_bipush (v := (-2)) hE.1 hE.2.1 dX9_whyNoRow_14 (by decide) ?_
    refine lv_goto (tgt := 35) hE.1 hE.2.1 dX9_whyNoRow_16 (by decide) ?_
    exact x_ri hE hr hlo rfl rfl dX9_whyNoRow_35
  · skip
    refine lv_aload_n hE.1 hE.2.1 dX9_whyNoRow_7 rfl (lv_at hl 0 rfl) ?_
    refine x_vp (nn := 0) (As := []) (rest := []) hE (k_X9_isCourt l D K ad ) wPre_blind (wPre_now hK hN hP) (x_recv hK hP 0 (by decide) (yG_9 rfl) rfl) rfl mw_1718 mw_1720 mw_79 mw_123 mw_1721 (by decide +kernel) ⟨by decide, by decide⟩ hl.1 rfl (by decide) ⟨Nat.zero_le _, Nat.zero_le _⟩ dX9_whyNoRow_8 (fun r hr => ?_)
    subst hr
    refine lv_if_ne (tgt := 19) hE.1 hE.2.1 dX9_whyNoRow_11 (by decide) (fun h => absurd (by decide) h) (fun _ => ?_)
    refine lv_bipush (v := (-2)) hE.1 hE.2.1 dX9_whyNoRow_14 (by decide) ?_
    refine lv_goto (tgt := 35) hE.1 hE.2.1 dX9_whyNoRow_16 (by decide) ?_
    exact x_ri hE hr hlo rfl rfl dX9_whyNoRow_35

theorem dX9_whyNotTold_0 : decode cX9_whyNotTold 0 = .ok (.aload_n 0, 1) := by decide +kernel
theorem dX9_whyNotTold_1 : decode cX9_whyNotTold 1 = .ok (.iload_n 1, 1) := by decide +kernel
theorem dX9_whyNotTold_2 : decode cX9_whyNotTold 2 = .ok (.invokevirtual 418, 3) := by decide +kernel
theorem dX9_whyNotTold_5 : decode cX9_whyNotTold 5 = .ok (.istore_n 3, 1) := by decide +kernel
theorem dX9_whyNotTold_6 : decode cX9_whyNotTold 6 = .ok (.iload_n 3, 1) := by decide +kernel
theorem dX9_whyNotTold_7 : decode cX9_whyNotTold 7 = .ok (.ifCond .eq 5, 3) := by decide +kernel
theorem dX9_whyNotTold_10 : decode cX9_whyNotTold 10 = .ok (.iload_n 3, 1) := by decide +kernel
theorem dX9_whyNotTold_11 : decode cX9_whyNotTold 11 = .ok (.ireturn, 1) := by decide +kernel
set_option maxHeartbeats 4000000 in
set_option maxRecDepth 100000 in
theorem k_X9_whyNotTold (l : Launch) (D : va_G) (K : Nat → ClassId) (ad : Nat → Nat) (p1 : Int32) (p2 : Int32) : Met l yX9_whyNotTold (wM yX9_whyNotTold cX9_whyNotTold 9 (some .int)) (rmD 3) (va_Pc [.ref (ad 0), .int p1, .int p2] (wPre D K ad (yG ad K) 21 yv0 ya0 yl0)) (vp_Si (fun r => r = (-2))) 0 0 (fun _ => False) := by
  refine x_met (by decide) (Nat.le_of_ble_eq_true rfl) ?_
  intro p e s m below meth c ls hE hr hlo hnm hB hl
  have hE : CallFix p m c cX9_whyNotTold 9 s _ tbG "TaleCourtModel" := hE
  obtain ⟨hP, hK, hN⟩ := hB
  have hS : va_S (inW ad 21) s.heap s.heap [] := va_S.rf
  have hl : lv_has ls 9 [(0, .ref (ad 0)), (1, .int p1), (2, .int p2)] := hl
  refine lv_aload_n hE.1 hE.2.1 dX9_whyNotTold_0 rfl (lv_at hl 0 rfl) ?_
  refine lv_iload_n hE.1 hE.2.1 dX9_whyNotTold_1 rfl (lv_at hl 1 rfl) ?_
  refine x_vp (nn := 1) (As := [.int p1]) (rest := []) hE (k_X9_whyNoRow l D K ad p1) wPre_blind (wPre_now hK hN hP) (x_recv hK hP 0 (by decide) (yG_9 rfl) rfl) rfl mw_1974 mw_1976 mw_104 mw_123 mw_1977 (by decide +kernel) ⟨by decide, by decide⟩ hl.1 rfl (by decide) ⟨Nat.zero_le _, Nat.zero_le _⟩ dX9_whyNotTold_2 (fun r hr => ?_)
  subst hr
  refine lv_istore_n (lv' := [(3, .int (-2)), (0, .ref (ad 0)), (1, .int p1), (2, .int p2)]) hE.1 hE.2.1 dX9_whyNotTold_5 rfl hl (by decide) rfl (fun ls hl => ?_)
  refine lv_iload_n hE.1 hE.2.1 dX9_whyNotTold_6 rfl (lv_at hl 0 rfl) ?_
  refine lv_if_eq (tgt := 12) hE.1 hE.2.1 dX9_whyNotTold_7 (by decide) (fun h => absurd h (by decide)) (fun _ => ?_)
  refine lv_iload_n hE.1 hE.2.1 dX9_whyNotTold_10 rfl (lv_at hl 0 rfl) ?_
  exact x_ri hE hr hlo rfl rfl dX9_whyNotTold_11

theorem dX9_isSeed_0 : decode cX9_isSeed 0 = .ok (.aload_n 0, 1) := by decide +kernel
theorem dX9_isSeed_1 : decode cX9_isSeed 1 = .ok (.invokevirtual 301, 3) := by decide +kernel
theorem dX9_isSeed_4 : decode cX9_isSeed 4 = .ok (.ifCond .eq 19, 3) := by decide +kernel
theorem dX9_isSeed_23 : decode cX9_isSeed 23 = .ok (.iconst 0, 1) := by decide +kernel
theorem dX9_isSeed_24 : decode cX9_isSeed 24 = .ok (.ireturn, 1) := by decide +kernel
set_option maxHeartbeats 4000000 in
set_option maxRecDepth 100000 in
theorem k_X9_isSeed (l : Launch) (D : va_G) (K : Nat → ClassId) (ad : Nat → Nat) (p1 : Int32) : Met l yX9_isSeed (wM yX9_isSeed cX9_isSeed 2 (some .boolean)) (rmD 1) (va_Pc [.ref (ad 0), .int p1] (wPre D K ad (yG ad K) 21 yv0 ya0 yl0)) (vp_Si (fun r => r = 0)) 0 0 (fun _ => False) := by
  refine x_met (by decide) (Nat.le_of_ble_eq_true rfl) ?_
  intro p e s m below meth c ls hE hr hlo hnm hB hl
  have hE : CallFix p m c cX9_isSeed 2 s _ tbG "TaleCourtModel" := hE
  obtain ⟨hP, hK, hN⟩ := hB
  have hS : va_S (inW ad 21) s.heap s.heap [] := va_S.rf
  have hl : lv_has ls 2 [(0, .ref (ad 0)), (1, .int p1)] := hl
  refine lv_aload_n hE.1 hE.2.1 dX9_isSeed_0 rfl (lv_at hl 0 rfl) ?_
  refine x_vp (nn := 0) (As := []) (rest := []) hE (k_X9_isCourt l D K ad ) wPre_blind (wPre_now hK hN hP) (x_recv hK hP 0 (by decide) (yG_9 rfl) rfl) rfl mw_1718 mw_1720 mw_79 mw_123 mw_1721 (by decide +kernel) ⟨by decide, by decide⟩ hl.1 rfl (by decide) ⟨Nat.zero_le _, Nat.zero_le _⟩ dX9_isSeed_1 (fun r hr => ?_)
  subst hr
  refine lv_if_eq (tgt := 23) hE.1 hE.2.1 dX9_isSeed_4 (by decide) (fun _ => ?_) (fun h => absurd (by decide) h)
  refine lv_iconst (v := 0) hE.1 hE.2.1 dX9_isSeed_23 (by decide) ?_
  exact x_ri hE hr hlo rfl rfl dX9_isSeed_24
