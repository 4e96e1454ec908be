theorem dX9_motif_0 : decode cX9_motif 0 = .ok (.aload_n 0, 1) := by decide +kernel
theorem dX9_motif_1 : decode cX9_motif 1 = .ok (.iconst 0, 1) := by decide +kernel
theorem dX9_motif_2 : decode cX9_motif 2 = .ok (.putfield 81, 3) := by decide +kernel
theorem dX9_motif_5 : decode cX9_motif 5 = .ok (.aload_n 0, 1) := by decide +kernel
theorem dX9_motif_6 : decode cX9_motif 6 = .ok (.iload_n 1, 1) := by decide +kernel
theorem dX9_motif_7 : decode cX9_motif 7 = .ok (.i2l, 1) := by decide +kernel
theorem dX9_motif_8 : decode cX9_motif 8 = .ok (.invokevirtual 253, 3) := by decide +kernel
theorem dX9_motif_11 : decode cX9_motif 11 = .ok (.ifCond .eq 15, 3) := by decide +kernel
theorem dX9_motif_26 : decode cX9_motif 26 = .ok (.bipush (-2), 2) := by decide +kernel
theorem dX9_motif_28 : decode cX9_motif 28 = .ok (.ireturn, 1) := by decide +kernel
set_option maxHeartbeats 4000000 in
set_option maxRecDepth 100000 in
theorem k_X9_motif (l : Launch) (D : va_G) (K : Nat → ClassId) (ad : Nat → Nat) (p1 : Int32) (p2 : Int32) : Met l yX9_motif (wM yX9_motif cX9_motif 3 (some .int)) (rmD 2) (va_Pc [.ref (ad 0), .int p1, .int p2] (wPre D K ad (yG ad K) 21 yv0 ya0 yl0)) (va_Qi (fun r _ => r = (-2)) (wB D ad (yG ad K) 21) (inW ad 21)) 0 0 (inW ad 21) := by
  refine x_met (by decide) (Nat.le_of_ble_eq_true rfl) ?_
  intro p e s m below meth c ls hE hr hlo hnm hB hl
  have hE : CallFix p m c cX9_motif 3 s _ tbG "TaleCourtModel" := hE
  obtain ⟨hP, hK, hN⟩ := hB
  have hS : va_S (inW ad 21) s.heap s.heap [] := va_S.rf
  have hl : lv_has ls 3 [(0, .ref (ad 0)), (1, .int p1), (2, .int p2)] := hl
  refine lv_aload_n hE.1 hE.2.1 dX9_motif_0 rfl (lv_at hl 0 rfl) ?_
  refine lv_iconst (v := 0) hE.1 hE.2.1 dX9_motif_1 (by decide) ?_
  refine x_put hE hK hN hP hS 0 (by decide) (yG_9 rfl) rfl hin9 tyX9 tyX9_ok nmX9 0 (by decide) mw_1334 rfl rfl rfl (Nat.le_of_ble_eq_true rfl) (yG_9 rfl) dX9_motif_2 (fun v1 H locs hv hP hS => ?_)
  obtain rfl := hv.trans (up_same (by decide))
  refine lv_aload_n hE.1 hE.2.1 dX9_motif_5 rfl (lv_at hl 0 rfl) ?_
  refine lv_iload_n hE.1 hE.2.1 dX9_motif_6 rfl (lv_at hl 1 rfl) ?_
  refine lv_i2l (v := (p1.toInt64)) hE.1 hE.2.1 dX9_motif_7 rfl ?_
  refine x_vp (nn := 1) (As := [.long (p1.toInt64)]) (rest := []) hE (k_X9_isMotif l D K ad (p1.toInt64)) wPre_blind (wPre_now hK hN hP) (x_recv hK hP 0 (by decide) (yG_9 rfl) rfl) rfl mw_1662 mw_1664 mw_74 mw_123 mw_1665 (by decide +kernel) ⟨by decide, by decide⟩ hl.1 rfl (by decide) ⟨Nat.zero_le _, Nat.zero_le _⟩ dX9_motif_8 (fun r hr => ?_)
  subst hr
  refine lv_if_eq (tgt := 26) hE.1 hE.2.1 dX9_motif_11 (by decide) (fun _ => ?_) (fun h => absurd (by decide) h)
  refine lv_bipush (v := (-2)) hE.1 hE.2.1 dX9_motif_26 (by decide) ?_
  exact x_wi hE hr hlo hP hS rfl rfl dX9_motif_28

theorem dX9_joins_0 : decode cX9_joins 0 = .ok (.aload_n 0, 1) := by decide +kernel
theorem dX9_joins_1 : decode cX9_joins 1 = .ok (.iconst 0, 1) := by decide +kernel
theorem dX9_joins_2 : decode cX9_joins 2 = .ok (.putfield 81, 3) := by decide +kernel
theorem dX9_joins_5 : decode cX9_joins 5 = .ok (.aload_n 0, 1) := by decide +kernel
theorem dX9_joins_6 : decode cX9_joins 6 = .ok (.iload_n 1, 1) := by decide +kernel
theorem dX9_joins_7 : decode cX9_joins 7 = .ok (.i2l, 1) := by decide +kernel
theorem dX9_joins_8 : decode cX9_joins 8 = .ok (.invokevirtual 253, 3) := by decide +kernel
theorem dX9_joins_11 : decode cX9_joins 11 = .ok (.ifCond .eq 26, 3) := by decide +kernel
theorem dX9_joins_37 : decode cX9_joins 37 = .ok (.bipush (-2), 2) := by decide +kernel
theorem dX9_joins_39 : decode cX9_joins 39 = .ok (.ireturn, 1) := by decide +kernel
set_option maxHeartbeats 4000000 in
set_option maxRecDepth 100000 in
theorem k_X9_joins (l : Launch) (D : va_G) (K : Nat → ClassId) (ad : Nat → Nat) (p1 : Int32) (p2 : Int32) : Met l yX9_joins (wM yX9_joins cX9_joins 3 (some .int)) (rmD 2) (va_Pc [.ref (ad 0), .int p1, .int p2] (wPre D K ad (yG ad K) 21 yv0 ya0 yl0)) (va_Qi (fun r _ => r = (-2)) (wB D ad (yG ad K) 21) (inW ad 21)) 0 0 (inW ad 21) := by
  refine x_met (by decide) (Nat.le_of_ble_eq_true rfl) ?_
  intro p e s m below meth c ls hE hr hlo hnm hB hl
  have hE : CallFix p m c cX9_joins 3 s _ tbG "TaleCourtModel" := hE
  obtain ⟨hP, hK, hN⟩ := hB
  have hS : va_S (inW ad 21) s.heap s.heap [] := va_S.rf
  have hl : lv_has ls 3 [(0, .ref (ad 0)), (1, .int p1), (2, .int p2)] := hl
  refine lv_aload_n hE.1 hE.2.1 dX9_joins_0 rfl (lv_at hl 0 rfl) ?_
  refine lv_iconst (v := 0) hE.1 hE.2.1 dX9_joins_1 (by decide) ?_
  refine x_put hE hK hN hP hS 0 (by decide) (yG_9 rfl) rfl hin9 tyX9 tyX9_ok nmX9 0 (by decide) mw_1334 rfl rfl rfl (Nat.le_of_ble_eq_true rfl) (yG_9 rfl) dX9_joins_2 (fun v1 H locs hv hP hS => ?_)
  obtain rfl := hv.trans (up_same (by decide))
  refine lv_aload_n hE.1 hE.2.1 dX9_joins_5 rfl (lv_at hl 0 rfl) ?_
  refine lv_iload_n hE.1 hE.2.1 dX9_joins_6 rfl (lv_at hl 1 rfl) ?_
  refine lv_i2l (v := (p1.toInt64)) hE.1 hE.2.1 dX9_joins_7 rfl ?_
  refine x_vp (nn := 1) (As := [.long (p1.toInt64)]) (rest := []) hE (k_X9_isMotif l D K ad (p1.toInt64)) wPre_blind (wPre_now hK hN hP) (x_recv hK hP 0 (by decide) (yG_9 rfl) rfl) rfl mw_1662 mw_1664 mw_74 mw_123 mw_1665 (by decide +kernel) ⟨by decide, by decide⟩ hl.1 rfl (by decide) ⟨Nat.zero_le _, Nat.zero_le _⟩ dX9_joins_8 (fun r hr => ?_)
  subst hr
  refine lv_if_eq (tgt := 37) hE.1 hE.2.1 dX9_joins_11 (by decide) (fun _ => ?_) (fun h => absurd (by decide) h)
  refine lv_bipush (v := (-2)) hE.1 hE.2.1 dX9_joins_37 (by decide) ?_
  exact x_wi hE hr hlo hP hS rfl rfl dX9_joins_39

theorem dX9_clash_0 : decode cX9_clash 0 = .ok (.aload_n 0, 1) := by decide +kernel
theorem dX9_clash_1 : decode cX9_clash 1 = .ok (.iconst 0, 1) := by decide +kernel
theorem dX9_clash_2 : decode cX9_clash 2 = .ok (.putfield 81, 3) := by decide +kernel
theorem dX9_clash_5 : decode cX9_clash 5 = .ok (.aload_n 0, 1) := by decide +kernel
theorem dX9_clash_6 : decode cX9_clash 6 = .ok (.iload_n 1, 1) := by decide +kernel
theorem dX9_clash_7 : decode cX9_clash 7 = .ok (.i2l, 1) := by decide +kernel
theorem dX9_clash_8 : decode cX9_clash 8 = .ok (.invokevirtual 253, 3) := by decide +kernel
theorem dX9_clash_11 : decode cX9_clash 11 = .ok (.ifCond .eq 26, 3) := by decide +kernel
theorem dX9_clash_37 : decode cX9_clash 37 = .ok (.bipush (-2), 2) := by decide +kernel
theorem dX9_clash_39 : decode cX9_clash 39 = .ok (.ireturn, 1) := by decide +kernel
set_option maxHeartbeats 4000000 in
set_option maxRecDepth 100000 in
theorem k_X9_clash (l : Launch) (D : va_G) (K : Nat → ClassId) (ad : Nat → Nat) (p1 : Int32) (p2 : Int32) : Met l yX9_clash (wM yX9_clash cX9_clash 3 (some .int)) (rmD 2) (va_Pc [.ref (ad 0), .int p1, .int p2] (wPre D K ad (yG ad K) 21 yv0 ya0 yl0)) (va_Qi (fun r _ => r = (-2)) (wB D ad (yG ad K) 21) (inW ad 21)) 0 0 (inW ad 21) := by
  refine x_met (by decide) (Nat.le_of_ble_eq_true rfl) ?_
  intro p e s m below meth c ls hE hr hlo hnm hB hl
  have hE : CallFix p m c cX9_clash 3 s _ tbG "TaleCourtModel" := hE
  obtain ⟨hP, hK, hN⟩ := hB
  have hS : va_S (inW ad 21) s.heap s.heap [] := va_S.rf
  have hl : lv_has ls 3 [(0, .ref (ad 0)), (1, .int p1), (2, .int p2)] := hl
  refine lv_aload_n hE.1 hE.2.1 dX9_clash_0 rfl (lv_at hl 0 rfl) ?_
  refine lv_iconst (v := 0) hE.1 hE.2.1 dX9_clash_1 (by decide) ?_
  refine x_put hE hK hN hP hS 0 (by decide) (yG_9 rfl) rfl hin9 tyX9 tyX9_ok nmX9 0 (by decide) mw_1334 rfl rfl rfl (Nat.le_of_ble_eq_true rfl) (yG_9 rfl) dX9_clash_2 (fun v1 H locs hv hP hS => ?_)
  obtain rfl := hv.trans (up_same (by decide))
  refine lv_aload_n hE.1 hE.2.1 dX9_clash_5 rfl (lv_at hl 0 rfl) ?_
  refine lv_iload_n hE.1 hE.2.1 dX9_clash_6 rfl (lv_at hl 1 rfl) ?_
  refine lv_i2l (v := (p1.toInt64)) hE.1 hE.2.1 dX9_clash_7 rfl ?_
  refine x_vp (nn := 1) (As := [.long (p1.toInt64)]) (rest := []) hE (k_X9_isMotif l D K ad (p1.toInt64)) wPre_blind (wPre_now hK hN hP) (x_recv hK hP 0 (by decide) (yG_9 rfl) rfl) rfl mw_1662 mw_1664 mw_74 mw_123 mw_1665 (by decide +kernel) ⟨by decide, by decide⟩ hl.1 rfl (by decide) ⟨Nat.zero_le _, Nat.zero_le _⟩ dX9_clash_8 (fun r hr => ?_)
  subst hr
  refine lv_if_eq (tgt := 37) hE.1 hE.2.1 dX9_clash_11 (by decide) (fun _ => ?_) (fun h => absurd (by decide) h)
  refine lv_bipush (v := (-2)) hE.1 hE.2.1 dX9_clash_37 (by decide) ?_
  exact x_wi hE hr hlo hP hS rfl rfl dX9_clash_39

theorem dX9_behind_0 : decode cX9_behind 0 = .ok (.aload_n 0, 1) := by decide +kernel
theorem dX9_behind_1 : decode cX9_behind 1 = .ok (.iconst 0, 1) := by decide +kernel
theorem dX9_behind_2 : decode cX9_behind 2 = .ok (.putfield 81, 3) := by decide +kernel
theorem dX9_behind_5 : decode cX9_behind 5 = .ok (.aload_n 0, 1) := by decide +kernel
theorem dX9_behind_6 : decode cX9_behind 6 = .ok (.iload_n 1, 1) := by decide +kernel
theorem dX9_behind_7 : decode cX9_behind 7 = .ok (.i2l, 1) := by decide +kernel
theorem dX9_behind_8 : decode cX9_behind 8 = .ok (.invokevirtual 253, 3) := by decide +kernel
theorem dX9_behind_11 : decode cX9_behind 11 = .ok (.ifCond .eq 13, 3) := by decide +kernel
theorem dX9_behind_24 : decode cX9_behind 24 = .ok (.bipush (-2), 2) := by decide +kernel
theorem dX9_behind_26 : decode cX9_behind 26 = .ok (.ireturn, 1) := by decide +kernel
set_option maxHeartbeats 4000000 in
set_option maxRecDepth 100000 in
theorem k_X9_behind (l : Launch) (D : va_G) (K : Nat → ClassId) (ad : Nat → Nat) (p1 : Int32) : Met l yX9_behind (wM yX9_behind cX9_behind 2 (some .int)) (rmD 2) (va_Pc [.ref (ad 0), .int p1] (wPre D K ad (yG ad K) 21 yv0 ya0 yl0)) (va_Qi (fun r _ => r = (-2)) (wB D ad (yG ad K) 21) (inW ad 21)) 0 0 (inW ad 21) := by
  refine x_met (by decide) (Nat.le_of_ble_eq_true rfl) ?_
  intro p e s m below meth c ls hE hr hlo hnm hB hl
  have hE : CallFix p m c cX9_behind 2 s _ tbG "TaleCourtModel" := hE
  obtain ⟨hP, hK, hN⟩ := hB
  have hS : va_S (inW ad 21) s.heap s.heap [] := va_S.rf
  have hl : lv_has ls 2 [(0, .ref (ad 0)), (1, .int p1)] := hl
  refine lv_aload_n hE.1 hE.2.1 dX9_behind_0 rfl (lv_at hl 0 rfl) ?_
  refine lv_iconst (v := 0) hE.1 hE.2.1 dX9_behind_1 (by decide) ?_
  refine x_put hE hK hN hP hS 0 (by decide) (yG_9 rfl) rfl hin9 tyX9 tyX9_ok nmX9 0 (by decide) mw_1334 rfl rfl rfl (Nat.le_of_ble_eq_true rfl) (yG_9 rfl) dX9_behind_2 (fun v1 H locs hv hP hS => ?_)
  obtain rfl := hv.trans (up_same (by decide))
  refine lv_aload_n hE.1 hE.2.1 dX9_behind_5 rfl (lv_at hl 0 rfl) ?_
  refine lv_iload_n hE.1 hE.2.1 dX9_behind_6 rfl (lv_at hl 1 rfl) ?_
  refine lv_i2l (v := (p1.toInt64)) hE.1 hE.2.1 dX9_behind_7 rfl ?_
  refine x_vp (nn := 1) (As := [.long (p1.toInt64)]) (rest := []) hE (k_X9_isMotif l D K ad (p1.toInt64)) wPre_blind (wPre_now hK hN hP) (x_recv hK hP 0 (by decide) (yG_9 rfl) rfl) rfl mw_1662 mw_1664 mw_74 mw_123 mw_1665 (by decide +kernel) ⟨by decide, by decide⟩ hl.1 rfl (by decide) ⟨Nat.zero_le _, Nat.zero_le _⟩ dX9_behind_8 (fun r hr => ?_)
  subst hr
  refine lv_if_eq (tgt := 24) hE.1 hE.2.1 dX9_behind_11 (by decide) (fun _ => ?_) (fun h => absurd (by decide) h)
  refine lv_bipush (v := (-2)) hE.1 hE.2.1 dX9_behind_24 (by decide) ?_
  exact x_wi hE hr hlo hP hS rfl rfl dX9_behind_26

theorem dX9_ahead_0 : decode cX9_ahead 0 = .ok (.aload_n 0, 1) := by decide +kernel
theorem dX9_ahead_1 : decode cX9_ahead 1 = .ok (.iconst 0, 1) := by decide +kernel
theorem dX9_ahead_2 : decode cX9_ahead 2 = .ok (.putfield 81, 3) := by decide +kernel
theorem dX9_ahead_5 : decode cX9_ahead 5 = .ok (.aload_n 0, 1) := by decide +kernel
theorem dX9_ahead_6 : decode cX9_ahead 6 = .ok (.iload_n 1, 1) := by decide +kernel
theorem dX9_ahead_7 : decode cX9_ahead 7 = .ok (.i2l, 1) := by decide +kernel
theorem dX9_ahead_8 : decode cX9_ahead 8 = .ok (.invokevirtual 253, 3) := by decide +kernel
theorem dX9_ahead_11 : decode cX9_ahead 11 = .ok (.ifCond .ne 6, 3) := by decide +kernel
theorem dX9_ahead_14 : decode cX9_ahead 14 = .ok (.bipush (-2), 2) := by decide +kernel
theorem dX9_ahead_16 : decode cX9_ahead 16 = .ok (.ireturn, 1) := by decide +kernel
set_option maxHeartbeats 4000000 in
set_option maxRecDepth 100000 in
theorem k_X9_ahead (l : Launch) (D : va_G) (K : Nat → ClassId) (ad : Nat → Nat) (p1 : Int32) : Met l yX9_ahead (wM yX9_ahead cX9_ahead 4 (some .int)) (rmD 2) (va_Pc [.ref (ad 0), .int p1] (wPre D K ad (yG ad K) 21 yv0 ya0 yl0)) (va_Qi (fun r _ => r = (-2)) (wB D ad (yG ad K) 21) (inW ad 21)) 0 0 (inW ad 21) := by
  refine x_met (by decide) (Nat.le_of_ble_eq_true rfl) ?_
  intro p e s m below meth c ls hE hr hlo hnm hB hl
  have hE : CallFix p m c cX9_ahead 4 s _ tbG "TaleCourtModel" := hE
  obtain ⟨hP, hK, hN⟩ := hB
  have hS : va_S (inW ad 21) s.heap s.heap [] := va_S.rf
  have hl : lv_has ls 4 [(0, .ref (ad 0)), (1, .int p1)] := hl
  refine lv_aload_n hE.1 hE.2.1 dX9_ahead_0 rfl (lv_at hl 0 rfl) ?_
  refine lv_iconst (v := 0) hE.1 hE.2.1 dX9_ahead_1 (by decide) ?_
  refine x_put hE hK hN hP hS 0 (by decide) (yG_9 rfl) rfl hin9 tyX9 tyX9_ok nmX9 0 (by decide) mw_1334 rfl rfl rfl (Nat.le_of_ble_eq_true rfl) (yG_9 rfl) dX9_ahead_2 (fun v1 H locs hv hP hS => ?_)
  obtain rfl := hv.trans (up_same (by decide))
  refine lv_aload_n hE.1 hE.2.1 dX9_ahead_5 rfl (lv_at hl 0 rfl) ?_
  refine lv_iload_n hE.1 hE.2.1 dX9_ahead_6 rfl (lv_at hl 1 rfl) ?_
  refine lv_i2l (v := (p1.toInt64)) hE.1 hE.2.1 dX9_ahead_7 rfl ?_
  refine x_vp (nn := 1) (As := [.long (p1.toInt64)]) (rest := []) hE (k_X9_isMotif l D K ad (p1.toInt64)) wPre_blind (wPre_now hK hN hP) (x_recv hK hP 0 (by decide) (yG_9 rfl) rfl) rfl mw_1662 mw_1664 mw_74 mw_123 mw_1665 (by decide +kernel) ⟨by decide, by decide⟩ hl.1 rfl (by decide) ⟨Nat.zero_le _, Nat.zero_le _⟩ dX9_ahead_8 (fun r hr => ?_)
  subst hr
  refine lv_if_ne (tgt := 17) hE.1 hE.2.1 dX9_ahead_11 (by decide) (fun h => absurd (by decide) h) (fun _ => ?_)
  refine lv_bipush (v := (-2)) hE.1 hE.2.1 dX9_ahead_14 (by decide) ?_
  exact x_wi hE hr hlo hP hS rfl rfl dX9_ahead_16

theorem dX9_comes_0 : decode cX9_comes 0 = .ok (.aload_n 0, 1) := by decide +kernel
theorem dX9_comes_1 : decode cX9_comes 1 = .ok (.iconst 0, 1) := by decide +kernel
theorem dX9_comes_2 : decode cX9_comes 2 = .ok (.putfield 81, 3) := by decide +kernel
theorem dX9_comes_5 : decode cX9_comes 5 = .ok (.aload_n 0, 1) := by decide +kernel
theorem dX9_comes_6 : decode cX9_comes 6 = .ok (.iload_n 1, 1) := by decide +kernel
theorem dX9_comes_7 : decode cX9_comes 7 = .ok (.i2l, 1) := by decide +kernel
theorem dX9_comes_8 : decode cX9_comes 8 = .ok (.invokevirtual 253, 3) := by decide +kernel
theorem dX9_comes_11 : decode cX9_comes 11 = .ok (.ifCond .ne 6, 3) := by decide +kernel
theorem dX9_comes_14 : decode cX9_comes 14 = .ok (.bipush (-2), 2) := by decide +kernel
theorem dX9_comes_16 : decode cX9_comes 16 = .ok (.ireturn, 1) := by decide +kernel
set_option maxHeartbeats 4000000 in
set_option maxRecDepth 100000 in
theorem k_X9_comes (l : Launch) (D : va_G) (K : Nat → ClassId) (ad : Nat → Nat) (p1 : Int32) : Met l yX9_comes (wM yX9_comes cX9_comes 5 (some .int)) (rmD 2) (va_Pc [.ref (ad 0), .int p1] (wPre D K ad (yG ad K) 21 yv0 ya0 yl0)) (va_Qi (fun r _ => r = (-2)) (wB D ad (yG ad K) 21) (inW ad 21)) 0 0 (inW ad 21) := by
  refine x_met (by decide) (Nat.le_of_ble_eq_true rfl) ?_
  intro p e s m below meth c ls hE hr hlo hnm hB hl
  have hE : CallFix p m c cX9_comes 5 s _ tbG "TaleCourtModel" := hE
  obtain ⟨hP, hK, hN⟩ := hB
  have hS : va_S (inW ad 21) s.heap s.heap [] := va_S.rf
  have hl : lv_has ls 5 [(0, .ref (ad 0)), (1, .int p1)] := hl
  refine lv_aload_n hE.1 hE.2.1 dX9_comes_0 rfl (lv_at hl 0 rfl) ?_
  refine lv_iconst (v := 0) hE.1 hE.2.1 dX9_comes_1 (by decide) ?_
  refine x_put hE hK hN hP hS 0 (by decide) (yG_9 rfl) rfl hin9 tyX9 tyX9_ok nmX9 0 (by decide) mw_1334 rfl rfl rfl (Nat.le_of_ble_eq_true rfl) (yG_9 rfl) dX9_comes_2 (fun v1 H locs hv hP hS => ?_)
  obtain rfl := hv.trans (up_same (by decide))
  refine lv_aload_n hE.1 hE.2.1 dX9_comes_5 rfl (lv_at hl 0 rfl) ?_
  refine lv_iload_n hE.1 hE.2.1 dX9_comes_6 rfl (lv_at hl 1 rfl) ?_
  refine lv_i2l (v := (p1.toInt64)) hE.1 hE.2.1 dX9_comes_7 rfl ?_
  refine x_vp (nn := 1) (As := [.long (p1.toInt64)]) (rest := []) hE (k_X9_isMotif l D K ad (p1.toInt64)) wPre_blind (wPre_now hK hN hP) (x_recv hK hP 0 (by decide) (yG_9 rfl) rfl) rfl mw_1662 mw_1664 mw_74 mw_123 mw_1665 (by decide +kernel) ⟨by decide, by decide⟩ hl.1 rfl (by decide) ⟨Nat.zero_le _, Nat.zero_le _⟩ dX9_comes_8 (fun r hr => ?_)
  subst hr
  refine lv_if_ne (tgt := 17) hE.1 hE.2.1 dX9_comes_11 (by decide) (fun h => absurd (by decide) h) (fun _ => ?_)
  refine lv_bipush (v := (-2)) hE.1 hE.2.1 dX9_comes_14 (by decide) ?_
  exact x_wi hE hr hlo hP hS rfl rfl dX9_comes_16

theorem dX9_chain_0 : decode cX9_chain 0 = .ok (.aload_n 0, 1) := by decide +kernel
theorem dX9_chain_1 : decode cX9_chain 1 = .ok (.iconst 0, 1) := by decide +kernel
theorem dX9_chain_2 : decode cX9_chain 2 = .ok (.putfield 81, 3) := by decide +kernel
theorem dX9_chain_5 : decode cX9_chain 5 = .ok (.aload_n 0, 1) := by decide +kernel
theorem dX9_chain_6 : decode cX9_chain 6 = .ok (.iload_n 1, 1) := by decide +kernel
theorem dX9_chain_7 : decode cX9_chain 7 = .ok (.i2l, 1) := by decide +kernel
theorem dX9_chain_8 : decode cX9_chain 8 = .ok (.invokevirtual 253, 3) := by decide +kernel
theorem dX9_chain_11 : decode cX9_chain 11 = .ok (.ifCond .eq 12, 3) := by decide +kernel
theorem dX9_chain_23 : decode cX9_chain 23 = .ok (.bipush (-2), 2) := by decide +kernel
theorem dX9_chain_25 : decode cX9_chain 25 = .ok (.ireturn, 1) := by decide +kernel
set_option maxHeartbeats 4000000 in
set_option maxRecDepth 100000 in
theorem k_X9_chain (l : Launch) (D : va_G) (K : Nat → ClassId) (ad : Nat → Nat) (p1 : Int32) (p2 : Int32) : Met l yX9_chain (wM yX9_chain cX9_chain 7 (some .int)) (rmD 2) (va_Pc [.ref (ad 0), .int p1, .int p2] (wPre D K ad (yG ad K) 21 yv0 ya0 yl0)) (va_Qi (fun r _ => r = (-2)) (wB D ad (yG ad K) 21) (inW ad 21)) 0 0 (inW ad 21) := by
  refine x_met (by decide) (Nat.le_of_ble_eq_true rfl) ?_
  intro p e s m below meth c ls hE hr hlo hnm hB hl
  have hE : CallFix p m c cX9_chain 7 s _ tbG "TaleCourtModel" := hE
  obtain ⟨hP, hK, hN⟩ := hB
  have hS : va_S (inW ad 21) s.heap s.heap [] := va_S.rf
  have hl : lv_has ls 7 [(0, .ref (ad 0)), (1, .int p1), (2, .int p2)] := hl
  refine lv_aload_n hE.1 hE.2.1 dX9_chain_0 rfl (lv_at hl 0 rfl) ?_
  refine lv_iconst (v := 0) hE.1 hE.2.1 dX9_chain_1 (by decide) ?_
  refine x_put hE hK hN hP hS 0 (by decide) (yG_9 rfl) rfl hin9 tyX9 tyX9_ok nmX9 0 (by decide) mw_1334 rfl rfl rfl (Nat.le_of_ble_eq_true rfl) (yG_9 rfl) dX9_chain_2 (fun v1 H locs hv hP hS => ?_)
  obtain rfl := hv.trans (up_same (by decide))
  refine lv_aload_n hE.1 hE.2.1 dX9_chain_5 rfl (lv_at hl 0 rfl) ?_
  refine lv_iload_n hE.1 hE.2.1 dX9_chain_6 rfl (lv_at hl 1 rfl) ?_
  refine lv_i2l (v := (p1.toInt64)) hE.1 hE.2.1 dX9_chain_7 rfl ?_
  refine x_vp (nn := 1) (As := [.long (p1.toInt64)]) (rest := []) hE (k_X9_isMotif l D K ad (p1.toInt64)) wPre_blind (wPre_now hK hN hP) (x_recv hK hP 0 (by decide) (yG_9 rfl) rfl) rfl mw_1662 mw_1664 mw_74 mw_123 mw_1665 (by decide +kernel) ⟨by decide, by decide⟩ hl.1 rfl (by decide) ⟨Nat.zero_le _, Nat.zero_le _⟩ dX9_chain_8 (fun r hr => ?_)
  subst hr
  refine lv_if_eq (tgt := 23) hE.1 hE.2.1 dX9_chain_11 (by decide) (fun _ => ?_) (fun h => absurd (by decide) h)
  refine lv_bipush (v := (-2)) hE.1 hE.2.1 dX9_chain_23 (by decide) ?_
  exact x_wi hE hr hlo hP hS rfl rfl dX9_chain_25

theorem dX9_say_0 : decode cX9_say 0 = .ok (.aload_n 0, 1) := by decide +kernel
theorem dX9_say_1 : decode cX9_say 1 = .ok (.iconst 0, 1) := by decide +kernel
theorem dX9_say_2 : decode cX9_say 2 = .ok (.putfield 81, 3) := by decide +kernel
theorem dX9_say_5 : decode cX9_say 5 = .ok (.aload_n 0, 1) := by decide +kernel
theorem dX9_say_6 : decode cX9_say 6 = .ok (.iload_n 1, 1) := by decide +kernel
theorem dX9_say_7 : decode cX9_say 7 = .ok (.i2l, 1) := by decide +kernel
theorem dX9_say_8 : decode cX9_say 8 = .ok (.invokevirtual 253, 3) := by decide +kernel
theorem dX9_say_11 : decode cX9_say 11 = .ok (.ifCond .ne 6, 3) := by decide +kernel
theorem dX9_say_14 : decode cX9_say 14 = .ok (.bipush (-2), 2) := by decide +kernel
theorem dX9_say_16 : decode cX9_say 16 = .ok (.ireturn, 1) := by decide +kernel
set_option maxHeartbeats 4000000 in
set_option maxRecDepth 100000 in
theorem k_X9_say (l : Launch) (D : va_G) (K : Nat → ClassId) (ad : Nat → Nat) (p1 : Int32) : Met l yX9_say (wM yX9_say cX9_say 2 (some .int)) (rmD 2) (va_Pc [.ref (ad 0), .int p1] (wPre D K ad (yG ad K) 21 yv0 ya0 yl0)) (va_Qi (fun r _ => r = (-2)) (wB D ad (yG ad K) 21) (inW ad 21)) 0 0 (inW ad 21) := by
  refine x_met (by decide) (Nat.le_of_ble_eq_true rfl) ?_
  intro p e s m below meth c ls hE hr hlo hnm hB hl
  have hE : CallFix p m c cX9_say 2 s _ tbG "TaleCourtModel" := hE
  obtain ⟨hP, hK, hN⟩ := hB
  have hS : va_S (inW ad 21) s.heap s.heap [] := va_S.rf
  have hl : lv_has ls 2 [(0, .ref (ad 0)), (1, .int p1)] := hl
  refine lv_aload_n hE.1 hE.2.1 dX9_say_0 rfl (lv_at hl 0 rfl) ?_
  refine lv_iconst (v := 0) hE.1 hE.2.1 dX9_say_1 (by decide) ?_
  refine x_put hE hK hN hP hS 0 (by decide) (yG_9 rfl) rfl hin9 tyX9 tyX9_ok nmX9 0 (by decide) mw_1334 rfl rfl rfl (Nat.le_of_ble_eq_true rfl) (yG_9 rfl) dX9_say_2 (fun v1 H locs hv hP hS => ?_)
  obtain rfl := hv.trans (up_same (by decide))
  refine lv_aload_n hE.1 hE.2.1 dX9_say_5 rfl (lv_at hl 0 rfl) ?_
  refine lv_iload_n hE.1 hE.2.1 dX9_say_6 rfl (lv_at hl 1 rfl) ?_
  refine lv_i2l (v := (p1.toInt64)) hE.1 hE.2.1 dX9_say_7 rfl ?_
  refine x_vp (nn := 1) (As := [.long (p1.toInt64)]) (rest := []) hE (k_X9_isMotif l D K ad (p1.toInt64)) wPre_blind (wPre_now hK hN hP) (x_recv hK hP 0 (by decide) (yG_9 rfl) rfl) rfl mw_1662 mw_1664 mw_74 mw_123 mw_1665 (by decide +kernel) ⟨by decide, by decide⟩ hl.1 rfl (by decide) ⟨Nat.zero_le _, Nat.zero_le _⟩ dX9_say_8 (fun r hr => ?_)
  subst hr
  refine lv_if_ne (tgt := 17) hE.1 hE.2.1 dX9_say_11 (by decide) (fun h => absurd (by decide) h) (fun _ => ?_)
  refine lv_bipush (v := (-2)) hE.1 hE.2.1 dX9_say_14 (by decide) ?_
  exact x_wi hE hr hlo hP hS rfl rfl dX9_say_16

theorem dX9_hush_0 : decode cX9_hush 0 = .ok (.aload_n 0, 1) := by decide +kernel
theorem dX9_hush_1 : decode cX9_hush 1 = .ok (.iconst 0, 1) := by decide +kernel
theorem dX9_hush_2 : decode cX9_hush 2 = .ok (.putfield 81, 3) := by decide +kernel
theorem dX9_hush_5 : decode cX9_hush 5 = .ok (.aload_n 0, 1) := by decide +kernel
theorem dX9_hush_6 : decode cX9_hush 6 = .ok (.invokevirtual 301, 3) := by decide +kernel
theorem dX9_hush_9 : decode cX9_hush 9 = .ok (.ifCond .ne 6, 3) := by decide +kernel
theorem dX9_hush_12 : decode cX9_hush 12 = .ok (.bipush (-2), 2) := by decide +kernel
theorem dX9_hush_14 : decode cX9_hush 14 = .ok (.ireturn, 1) := by decide +kernel
set_option maxHeartbeats 4000000 in
set_option maxRecDepth 100000 in
theorem k_X9_hush (l : Launch) (D : va_G) (K : Nat → ClassId) (ad : Nat → Nat) : Met l yX9_hush (wM yX9_hush cX9_hush 1 (some .int)) (rmD 1) (va_Pc [.ref (ad 0)] (wPre D K ad (yG ad K) 21 yv0 ya0 yl0)) (va_Qi (fun r _ => r = (-2)) (wB D ad (yG ad K) 21) (inW ad 21)) 0 0 (inW ad 21) := by
  refine x_met (by decide) (Nat.le_of_ble_eq_true rfl) ?_
  intro p e s m below meth c ls hE hr hlo hnm hB hl
  have hE : CallFix p m c cX9_hush 1 s _ tbG "TaleCourtModel" := hE
  obtain ⟨hP, hK, hN⟩ := hB
  have hS : va_S (inW ad 21) s.heap s.heap [] := va_S.rf
  have hl : lv_has ls 1 [(0, .ref (ad 0))] := hl
  refine lv_aload_n hE.1 hE.2.1 dX9_hush_0 rfl (lv_at hl 0 rfl) ?_
  refine lv_iconst (v := 0) hE.1 hE.2.1 dX9_hush_1 (by decide) ?_
  refine x_put hE hK hN hP hS 0 (by decide) (yG_9 rfl) rfl hin9 tyX9 tyX9_ok nmX9 0 (by decide) mw_1334 rfl rfl rfl (Nat.le_of_ble_eq_true rfl) (yG_9 rfl) dX9_hush_2 (fun v1 H locs hv hP hS => ?_)
  obtain rfl := hv.trans (up_same (by decide))
  refine lv_aload_n hE.1 hE.2.1 dX9_hush_5 rfl (lv_at hl 0 rfl) ?_
  refine x_vp (nn := 0) (As := []) (rest := []) hE (k_X9_isCourt l D K ad ) wPre_blind (wPre_now hK hN hP) (x_recv hK hP 0 (by decide) (yG_9 rfl) rfl) rfl mw_1718 mw_1720 mw_79 mw_123 mw_1721 (by decide +kernel) ⟨by decide, by decide⟩ hl.1 rfl (by decide) ⟨Nat.zero_le _, Nat.zero_le _⟩ dX9_hush_6 (fun r hr => ?_)
  subst hr
  refine lv_if_ne (tgt := 15) hE.1 hE.2.1 dX9_hush_9 (by decide) (fun h => absurd (by decide) h) (fun _ => ?_)
  refine lv_bipush (v := (-2)) hE.1 hE.2.1 dX9_hush_12 (by decide) ?_
  exact x_wi hE hr hlo hP hS rfl rfl dX9_hush_14

theorem dX9_unsay_0 : decode cX9_unsay 0 = .ok (.aload_n 0, 1) := by decide +kernel
theorem dX9_unsay_1 : decode cX9_unsay 1 = .ok (.iconst 0, 1) := by decide +kernel
theorem dX9_unsay_2 : decode cX9_unsay 2 = .ok (.putfield 81, 3) := by decide +kernel
theorem dX9_unsay_5 : decode cX9_unsay 5 = .ok (.aload_n 0, 1) := by decide +kernel
theorem dX9_unsay_6 : decode cX9_unsay 6 = .ok (.invokevirtual 301, 3) := by decide +kernel
theorem dX9_unsay_9 : decode cX9_unsay 9 = .ok (.ifCond .ne 6, 3) := by decide +kernel
theorem dX9_unsay_12 : decode cX9_unsay 12 = .ok (.bipush (-2), 2) := by decide +kernel
theorem dX9_unsay_14 : decode cX9_unsay 14 = .ok (.ireturn, 1) := by decide +kernel
set_option maxHeartbeats 4000000 in
set_option maxRecDepth 100000 in
theorem k_X9_unsay (l : Launch) (D : va_G) (K : Nat → ClassId) (ad : Nat → Nat) : Met l yX9_unsay (wM yX9_unsay cX9_unsay 1 (some .int)) (rmD 1) (va_Pc [.ref (ad 0)] (wPre D K ad (yG ad K) 21 yv0 ya0 yl0)) (va_Qi (fun r _ => r = (-2)) (wB D ad (yG ad K) 21) (inW ad 21)) 0 0 (inW ad 21) := by
  refine x_met (by decide) (Nat.le_of_ble_eq_true rfl) ?_
  intro p e s m below meth c ls hE hr hlo hnm hB hl
  have hE : CallFix p m c cX9_unsay 1 s _ tbG "TaleCourtModel" := hE
  obtain ⟨hP, hK, hN⟩ := hB
  have hS : va_S (inW ad 21) s.heap s.heap [] := va_S.rf
  have hl : lv_has ls 1 [(0, .ref (ad 0))] := hl
  refine lv_aload_n hE.1 hE.2.1 dX9_unsay_0 rfl (lv_at hl 0 rfl) ?_
  refine lv_iconst (v := 0) hE.1 hE.2.1 dX9_unsay_1 (by decide) ?_
  refine x_put hE hK hN hP hS 0 (by decide) (yG_9 rfl) rfl hin9 tyX9 tyX9_ok nmX9 0 (by decide) mw_1334 rfl rfl rfl (Nat.le_of_ble_eq_true rfl) (yG_9 rfl) dX9_unsay_2 (fun v1 H locs hv hP hS => ?_)
  obtain rfl := hv.trans (up_same (by decide))
  refine lv_aload_n hE.1 hE.2.1 dX9_unsay_5 rfl (lv_at hl 0 rfl) ?_
  refine x_vp (nn := 0) (As := []) (rest := []) hE (k_X9_isCourt l D K ad ) wPre_blind (wPre_now hK hN hP) (x_recv hK hP 0 (by decide) (yG_9 rfl) rfl) rfl mw_1718 mw_1720 mw_79 mw_123 mw_1721 (by decide +kernel) ⟨by decide, by decide⟩ hl.1 rfl (by decide) ⟨Nat.zero_le _, Nat.zero_le _⟩ dX9_unsay_6 (fun r hr => ?_)
  subst hr
  refine lv_if_ne (tgt := 15) hE.1 hE.2.1 dX9_unsay_9 (by decide) (fun h => absurd (by decide) h) (fun _ => ?_)
  refine lv_bipush (v := (-2)) hE.1 hE.2.1 dX9_unsay_12 (by decide) ?_
  exact x_wi hE hr hlo hP hS rfl rfl dX9_unsay_14

theorem dX9_anew_0 : decode cX9_anew 0 = .ok (.aload_n 0, 1) := by decide +kernel
theorem dX9_anew_1 : decode cX9_anew 1 = .ok (.iconst 0, 1) := by decide +kernel
theorem dX9_anew_2 : decode cX9_anew 2 = .ok (.putfield 81, 3) := by decide +kernel
theorem dX9_anew_5 : decode cX9_anew 5 = .ok (.aload_n 0, 1) := by decide +kernel
theorem dX9_anew_6 : decode cX9_anew 6 = .ok (.invokevirtual 301, 3) := by decide +kernel
theorem dX9_anew_9 : decode cX9_anew 9 = .ok (.ifCond .ne 6, 3) := by decide +kernel
theorem dX9_anew_12 : decode cX9_anew 12 = .ok (.bipush (-2), 2) := by decide +kernel
theorem dX9_anew_14 : decode cX9_anew 14 = .ok (.ireturn, 1) := by decide +kernel
set_option maxHeartbeats 4000000 in
set_option maxRecDepth 100000 in
theorem k_X9_anew (l : Launch) (D : va_G) (K : Nat → ClassId) (ad : Nat → Nat) : Met l yX9_anew (wM yX9_anew cX9_anew 2 (some .int)) (rmD 1) (va_Pc [.ref (ad 0)] (wPre D K ad (yG ad K) 21 yv0 ya0 yl0)) (va_Qi (fun r _ => r = (-2)) (wB D ad (yG ad K) 21) (inW ad 21)) 0 0 (inW ad 21) := by
  refine x_met (by decide) (Nat.le_of_ble_eq_true rfl) ?_
  intro p e s m below meth c ls hE hr hlo hnm hB hl
  have hE : CallFix p m c cX9_anew 2 s _ tbG "TaleCourtModel" := hE
  obtain ⟨hP, hK, hN⟩ := hB
  have hS : va_S (inW ad 21) s.heap s.heap [] := va_S.rf
  have hl : lv_has ls 2 [(0, .ref (ad 0))] := hl
  refine lv_aload_n hE.1 hE.2.1 dX9_anew_0 rfl (lv_at hl 0 rfl) ?_
  refine lv_iconst (v := 0) hE.1 hE.2.1 dX9_anew_1 (by decide) ?_
  refine x_put hE hK hN hP hS 0 (by decide) (yG_9 rfl) rfl hin9 tyX9 tyX9_ok nmX9 0 (by decide) mw_1334 rfl rfl rfl (Nat.le_of_ble_eq_true rfl) (yG_9 rfl) dX9_anew_2 (fun v1 H locs hv hP hS => ?_)
  obtain rfl := hv.trans (up_same (by decide))
  refine lv_aload_n hE.1 hE.2.1 dX9_anew_5 rfl (lv_at hl 0 rfl) ?_
  refine x_vp (nn := 0) (As := []) (rest := []) hE (k_X9_isCourt l D K ad ) wPre_blind (wPre_now hK hN hP) (x_recv hK hP 0 (by decide) (yG_9 rfl) rfl) rfl mw_1718 mw_1720 mw_79 mw_123 mw_1721 (by decide +kernel) ⟨by decide, by decide⟩ hl.1 rfl (by decide) ⟨Nat.zero_le _, Nat.zero_le _⟩ dX9_anew_6 (fun r hr => ?_)
  subst hr
  refine lv_if_ne (tgt := 15) hE.1 hE.2.1 dX9_anew_9 (by decide) (fun h => absurd (by decide) h) (fun _ => ?_)
  refine lv_bipush (v := (-2)) hE.1 hE.2.1 dX9_anew_12 (by decide) ?_
  exact x_wi hE hr hlo hP hS rfl rfl dX9_anew_14

theorem dX9_told_0 : decode cX9_told 0 = .ok (.aload_n 0, 1) := by decide +kernel
theorem dX9_told_1 : decode cX9_told 1 = .ok (.iconst 0, 1) := by decide +kernel
theorem dX9_told_2 : decode cX9_told 2 = .ok (.putfield 81, 3) := by decide +kernel
theorem dX9_told_5 : decode cX9_told 5 = .ok (.aload_n 0, 1) := by decide +kernel
theorem dX9_told_6 : decode cX9_told 6 = .ok (.invokevirtual 301, 3) := by decide +kernel
theorem dX9_told_9 : decode cX9_told 9 = .ok (.ifCond .ne 8, 3) := by decide +kernel
theorem dX9_told_12 : decode cX9_told 12 = .ok (.bipush (-2), 2) := by decide +kernel
theorem dX9_told_14 : decode cX9_told 14 = .ok (.goto 31, 3) := by decide +kernel
theorem dX9_told_45 : decode cX9_told 45 = .ok (.ireturn, 1) := by decide +kernel
set_option maxHeartbeats 4000000 in
set_option maxRecDepth 100000 in
theorem k_X9_told (l : Launch) (D : va_G) (K : Nat → ClassId) (ad : Nat → Nat) (p1 : Int32) : Met l yX9_told (wM yX9_told cX9_told 2 (some .int)) (rmD 1) (va_Pc [.ref (ad 0), .int p1] (wPre D K ad (yG ad K) 21 yv0 ya0 yl0)) (va_Qi (fun r _ => r = (-2)) (wB D ad (yG ad K) 21) (inW ad 21)) 0 0 (inW ad 21) := by
  refine x_met (by decide) (Nat.le_of_ble_eq_true rfl) ?_
  intro p e s m below meth c ls hE hr hlo hnm hB hl
  have hE : CallFix p m c cX9_told 2 s _ tbG "TaleCourtModel" := hE
  obtain ⟨hP, hK, hN⟩ := hB
  have hS : va_S (inW ad 21) s.heap s.heap [] := va_S.rf
  have hl : lv_has ls 2 [(0, .ref (ad 0)), (1, .int p1)] := hl
  refine lv_aload_n hE.1 hE.2.1 dX9_told_0 rfl (lv_at hl 0 rfl) ?_
  refine lv_iconst (v := 0) hE.1 hE.2.1 dX9_told_1 (by decide) ?_
  refine x_put hE hK hN hP hS 0 (by decide) (yG_9 rfl) rfl hin9 tyX9 tyX9_ok nmX9 0 (by decide) mw_1334 rfl rfl rfl (Nat.le_of_ble_eq_true rfl) (yG_9 rfl) dX9_told_2 (fun v1 H locs hv hP hS => ?_)
  obtain rfl := hv.trans (up_same (by decide))
  refine lv_aload_n hE.1 hE.2.1 dX9_told_5 rfl (lv_at hl 0 rfl) ?_
  refine x_vp (nn := 0) (As := []) (rest := []) hE (k_X9_isCourt l D K ad ) wPre_blind (wPre_now hK hN hP) (x_recv hK hP 0 (by decide) (yG_9 rfl) rfl) rfl mw_1718 mw_1720 mw_79 mw_123 mw_1721 (by decide +kernel) ⟨by decide, by decide⟩ hl.1 rfl (by decide) ⟨Nat.zero_le _, Nat.zero_le _⟩ dX9_told_6 (fun r hr => ?_)
  subst hr
  refine lv_if_ne (tgt := 17) hE.1 hE.2.1 dX9_told_9 (by decide) (fun h => absurd (by decide) h) (fun _ => ?_)
  refine lv_bipush (v := (-2)) hE.1 hE.2.1 dX9_told_12 (by decide) ?_
  refine lv_goto (tgt := 45) hE.1 hE.2.1 dX9_told_14 (by decide) ?_
  exact x_wi hE hr hlo hP hS rfl rfl dX9_told_45

theorem dX9_length_0 : decode cX9_length 0 = .ok (.aload_n 0, 1) := by decide +kernel
theorem dX9_length_1 : decode cX9_length 1 = .ok (.iconst 0, 1) := by decide +kernel
theorem dX9_length_2 : decode cX9_length 2 = .ok (.putfield 81, 3) := by decide +kernel
theorem dX9_length_5 : decode cX9_length 5 = .ok (.aload_n 0, 1) := by decide +kernel
theorem dX9_length_6 : decode cX9_length 6 = .ok (.invokevirtual 301, 3) := by decide +kernel
theorem dX9_length_9 : decode cX9_length 9 = .ok (.ifCond .eq 12, 3) := by decide +kernel
theorem dX9_length_21 : decode cX9_length 21 = .ok (.bipush (-2), 2) := by decide +kernel
theorem dX9_length_23 : decode cX9_length 23 = .ok (.ireturn, 1) := by decide +kernel
set_option maxHeartbeats 4000000 in
set_option maxRecDepth 100000 in
theorem k_X9_length (l : Launch) (D : va_G) (K : Nat → ClassId) (ad : Nat → Nat) : Met l yX9_length (wM yX9_length cX9_length 1 (some .int)) (rmD 1) (va_Pc [.ref (ad 0)] (wPre D K ad (yG ad K) 21 yv0 ya0 yl0)) (va_Qi (fun r _ => r = (-2)) (wB D ad (yG ad K) 21) (inW ad 21)) 0 0 (inW ad 21) := by
  refine x_met (by decide) (Nat.le_of_ble_eq_true rfl) ?_
  intro p e s m below meth c ls hE hr hlo hnm hB hl
  have hE : CallFix p m c cX9_length 1 s _ tbG "TaleCourtModel" := hE
  obtain ⟨hP, hK, hN⟩ := hB
  have hS : va_S (inW ad 21) s.heap s.heap [] := va_S.rf
  have hl : lv_has ls 1 [(0, .ref (ad 0))] := hl
  refine lv_aload_n hE.1 hE.2.1 dX9_length_0 rfl (lv_at hl 0 rfl) ?_
  refine lv_iconst (v := 0) hE.1 hE.2.1 dX9_length_1 (by decide) ?_
  refine x_put hE hK hN hP hS 0 (by decide) (yG_9 rfl) rfl hin9 tyX9 tyX9_ok nmX9 0 (by decide) mw_1334 rfl rfl rfl (Nat.le_of_ble_eq_true rfl) (yG_9 rfl) dX9_length_2 (fun v1 H locs hv hP hS => ?_)
  obtain rfl := hv.trans (up_same (by decide))
  refine lv_aload_n hE.1 hE.2.1 dX9_length_5 rfl (lv_at hl 0 rfl) ?_
  refine x_vp (nn := 0) (As := []) (rest := []) hE (k_X9_isCourt l D K ad ) wPre_blind (wPre_now hK hN hP) (x_recv hK hP 0 (by decide) (yG_9 rfl) rfl) rfl mw_1718 mw_1720 mw_79 mw_123 mw_1721 (by decide +kernel) ⟨by decide, by decide⟩ hl.1 rfl (by decide) ⟨Nat.zero_le _, Nat.zero_le _⟩ dX9_length_6 (fun r hr => ?_)
  subst hr
  refine lv_if_eq (tgt := 21) hE.1 hE.2.1 dX9_length_9 (by decide) (fun _ => ?_) (fun h => absurd (by decide) h)
  refine lv_bipush (v := (-2)) hE.1 hE.2.1 dX9_length_21 (by decide) ?_
  exact x_wi hE hr hlo hP hS rfl rfl dX9_length_23

theorem dX9_whose_0 : decode cX9_whose 0 = .ok (.aload_n 0, 1) := by decide +kernel
theorem dX9_whose_1 : decode cX9_whose 1 = .ok (.iconst 0, 1) := by decide +kernel
theorem dX9_whose_2 : decode cX9_whose 2 = .ok (.putfield 81, 3) := by decide +kernel
theorem dX9_whose_5 : decode cX9_whose 5 = .ok (.aload_n 0, 1) := by decide +kernel
theorem dX9_whose_6 : decode cX9_whose 6 = .ok (.invokevirtual 301, 3) := by decide +kernel
theorem dX9_whose_9 : decode cX9_whose 9 = .ok (.ifCond .eq 19, 3) := by decide +kernel
theorem dX9_whose_28 : decode cX9_whose 28 = .ok (.bipush (-2), 2) := by decide +kernel
theorem dX9_whose_30 : decode cX9_whose 30 = .ok (.ireturn, 1) := by decide +kernel
set_option maxHeartbeats 4000000 in
set_option maxRecDepth 100000 in
theorem k_X9_whose (l : Launch) (D : va_G) (K : Nat → ClassId) (ad : Nat → Nat) : Met l yX9_whose (wM yX9_whose cX9_whose 1 (some .int)) (rmD 1) (va_Pc [.ref (ad 0)] (wPre D K ad (yG ad K) 21 yv0 ya0 yl0)) (va_Qi (fun r _ => r = (-2)) (wB D ad (yG ad K) 21) (inW ad 21)) 0 0 (inW ad 21) := by
  refine x_met (by decide) (Nat.le_of_ble_eq_true rfl) ?_
  intro p e s m below meth c ls hE hr hlo hnm hB hl
  have hE : CallFix p m c cX9_whose 1 s _ tbG "TaleCourtModel" := hE
  obtain ⟨hP, hK, hN⟩ := hB
  have hS : va_S (inW ad 21) s.heap s.heap [] := va_S.rf
  have hl : lv_has ls 1 [(0, .ref (ad 0))] := hl
  refine lv_aload_n hE.1 hE.2.1 dX9_whose_0 rfl (lv_at hl 0 rfl) ?_
  refine lv_iconst (v := 0) hE.1 hE.2.1 dX9_whose_1 (by decide) ?_
  refine x_put hE hK hN hP hS 0 (by decide) (yG_9 rfl) rfl hin9 tyX9 tyX9_ok nmX9 0 (by decide) mw_1334 rfl rfl rfl (Nat.le_of_ble_eq_true rfl) (yG_9 rfl) dX9_whose_2 (fun v1 H locs hv hP hS => ?_)
  obtain rfl := hv.trans (up_same (by decide))
  refine lv_aload_n hE.1 hE.2.1 dX9_whose_5 rfl (lv_at hl 0 rfl) ?_
  refine x_vp (nn := 0) (As := []) (rest := []) hE (k_X9_isCourt l D K ad ) wPre_blind (wPre_now hK hN hP) (x_recv hK hP 0 (by decide) (yG_9 rfl) rfl) rfl mw_1718 mw_1720 mw_79 mw_123 mw_1721 (by decide +kernel) ⟨by decide, by decide⟩ hl.1 rfl (by decide) ⟨Nat.zero_le _, Nat.zero_le _⟩ dX9_whose_6 (fun r hr => ?_)
  subst hr
  refine lv_if_eq (tgt := 28) hE.1 hE.2.1 dX9_whose_9 (by decide) (fun _ => ?_) (fun h => absurd (by decide) h)
  refine lv_bipush (v := (-2)) hE.1 hE.2.1 dX9_whose_28 (by decide) ?_
  exact x_wi hE hr hlo hP hS rfl rfl dX9_whose_30

theorem dX9_may_0 : decode cX9_may 0 = .ok (.aload_n 0, 1) := by decide +kernel
theorem dX9_may_1 : decode cX9_may 1 = .ok (.iconst 0, 1) := by decide +kernel
theorem dX9_may_2 : decode cX9_may 2 = .ok (.putfield 81, 3) := by decide +kernel
theorem dX9_may_5 : decode cX9_may 5 = .ok (.aload_n 0, 1) := by decide +kernel
theorem dX9_may_6 : decode cX9_may 6 = .ok (.invokevirtual 301, 3) := by decide +kernel
theorem dX9_may_9 : decode cX9_may 9 = .ok (.ifCond .ne 6, 3) := by decide +kernel
theorem dX9_may_12 : decode cX9_may 12 = .ok (.bipush (-2), 2) := by decide +kernel
theorem dX9_may_14 : decode cX9_may 14 = .ok (.ireturn, 1) := by decide +kernel
set_option maxHeartbeats 4000000 in
set_option maxRecDepth 100000 in
theorem k_X9_may (l : Launch) (D : va_G) (K : Nat → ClassId) (ad : Nat → Nat) : Met l yX9_may (wM yX9_may cX9_may 1 (some .int)) (rmD 1) (va_Pc [.ref (ad 0)] (wPre D K ad (yG ad K) 21 yv0 ya0 yl0)) (va_Qi (fun r _ => r = (-2)) (wB D ad (yG ad K) 21) (inW ad 21)) 0 0 (inW ad 21) := by
  refine x_met (by decide) (Nat.le_of_ble_eq_true rfl) ?_
  intro p e s m below meth c ls hE hr hlo hnm hB hl
  have hE : CallFix p m c cX9_may 1 s _ tbG "TaleCourtModel" := hE
  obtain ⟨hP, hK, hN⟩ := hB
  have hS : va_S (inW ad 21) s.heap s.heap [] := va_S.rf
  have hl : lv_has ls 1 [(0, .ref (ad 0))] := hl
  refine lv_aload_n hE.1 hE.2.1 dX9_may_0 rfl (lv_at hl 0 rfl) ?_
  refine lv_iconst (v := 0) hE.1 hE.2.1 dX9_may_1 (by decide) ?_
  refine x_put hE hK hN hP hS 0 (by decide) (yG_9 rfl) rfl hin9 tyX9 tyX9_ok nmX9 0 (by decide) mw_1334 rfl rfl rfl (Nat.le_of_ble_eq_true rfl) (yG_9 rfl) dX9_may_2 (fun v1 H locs hv hP hS => ?_)
  obtain rfl := hv.trans (up_same (by decide))
  refine lv_aload_n hE.1 hE.2.1 dX9_may_5 rfl (lv_at hl 0 rfl) ?_
  refine x_vp (nn := 0) (As := []) (rest := []) hE (k_X9_isCourt l D K ad ) wPre_blind (wPre_now hK hN hP) (x_recv hK hP 0 (by decide) (yG_9 rfl) rfl) rfl mw_1718 mw_1720 mw_79 mw_123 mw_1721 (by decide +kernel) ⟨by decide, by decide⟩ hl.1 rfl (by decide) ⟨Nat.zero_le _, Nat.zero_le _⟩ dX9_may_6 (fun r hr => ?_)
  subst hr
  refine lv_if_ne (tgt := 15) hE.1 hE.2.1 dX9_may_9 (by decide) (fun h => absurd (by decide) h) (fun _ => ?_)
  refine lv_bipush (v := (-2)) hE.1 hE.2.1 dX9_may_12 (by decide) ?_
  exact x_wi hE hr hlo hP hS rfl rfl dX9_may_14

theorem dX9_why_0 : decode cX9_why 0 = .ok (.aload_n 0, 1) := by decide +kernel
theorem dX9_why_1 : decode cX9_why 1 = .ok (.iconst 0, 1) := by decide +kernel
theorem dX9_why_2 : decode cX9_why 2 = .ok (.putfield 81, 3) := by decide +kernel
theorem dX9_why_5 : decode cX9_why 5 = .ok (.aload_n 0, 1) := by decide +kernel
theorem dX9_why_6 : decode cX9_why 6 = .ok (.iload_n 1, 1) := by decide +kernel
theorem dX9_why_7 : decode cX9_why 7 = .ok (.i2l, 1) := by decide +kernel
theorem dX9_why_8 : decode cX9_why 8 = .ok (.invokevirtual 253, 3) := by decide +kernel
theorem dX9_why_11 : decode cX9_why 11 = .ok (.ifCond .ne 6, 3) := by decide +kernel
theorem dX9_why_14 : decode cX9_why 14 = .ok (.bipush (-2), 2) := by decide +kernel
theorem dX9_why_16 : decode cX9_why 16 = .ok (.ireturn, 1) := by decide +kernel
set_option maxHeartbeats 4000000 in
set_option maxRecDepth 100000 in
theorem k_X9_why (l : Launch) (D : va_G) (K : Nat → ClassId) (ad : Nat → Nat) (p1 : Int32) : Met l yX9_why (wM yX9_why cX9_why 2 (some .int)) (rmD 2) (va_Pc [.ref (ad 0), .int p1] (wPre D K ad (yG ad K) 21 yv0 ya0 yl0)) (va_Qi (fun r _ => r = (-2)) (wB D ad (yG ad K) 21) (inW ad 21)) 0 0 (inW ad 21) := by
  refine x_met (by decide) (Nat.le_of_ble_eq_true rfl) ?_
  intro p e s m below meth c ls hE hr hlo hnm hB hl
  have hE : CallFix p m c cX9_why 2 s _ tbG "TaleCourtModel" := hE
  obtain ⟨hP, hK, hN⟩ := hB
  have hS : va_S (inW ad 21) s.heap s.heap [] := va_S.rf
  have hl : lv_has ls 2 [(0, .ref (ad 0)), (1, .int p1)] := hl
  refine lv_aload_n hE.1 hE.2.1 dX9_why_0 rfl (lv_at hl 0 rfl) ?_
  refine lv_iconst (v := 0) hE.1 hE.2.1 dX9_why_1 (by decide) ?_
  refine x_put hE hK hN hP hS 0 (by decide) (yG_9 rfl) rfl hin9 tyX9 tyX9_ok nmX9 0 (by decide) mw_1334 rfl rfl rfl (Nat.le_of_ble_eq_true rfl) (yG_9 rfl) dX9_why_2 (fun v1 H locs hv hP hS => ?_)
  obtain rfl := hv.trans (up_same (by decide))
  refine lv_aload_n hE.1 hE.2.1 dX9_why_5 rfl (lv_at hl 0 rfl) ?_
  refine lv_iload_n hE.1 hE.2.1 dX9_why_6 rfl (lv_at hl 1 rfl) ?_
  refine lv_i2l (v := (p1.toInt64)) hE.1 hE.2.1 dX9_why_7 rfl ?_
  refine x_vp (nn := 1) (As := [.long (p1.toInt64)]) (rest := []) hE (k_X9_isMotif l D K ad (p1.toInt64)) wPre_blind (wPre_now hK hN hP) (x_recv hK hP 0 (by decide) (yG_9 rfl) rfl) rfl mw_1662 mw_1664 mw_74 mw_123 mw_1665 (by decide +kernel) ⟨by decide, by decide⟩ hl.1 rfl (by decide) ⟨Nat.zero_le _, Nat.zero_le _⟩ dX9_why_8 (fun r hr => ?_)
  subst hr
  refine lv_if_ne (tgt := 17) hE.1 hE.2.1 dX9_why_11 (by decide) (fun h => absurd (by decide) h) (fun _ => ?_)
  refine lv_bipush (v := (-2)) hE.1 hE.2.1 dX9_why_14 (by decide) ?_
  exact x_wi hE hr hlo hP hS rfl rfl dX9_why_16

theorem dX9_owed_0 : decode cX9_owed 0 = .ok (.aload_n 0, 1) := by decide +kernel
theorem dX9_owed_1 : decode cX9_owed 1 = .ok (.iconst 0, 1) := by decide +kernel
theorem dX9_owed_2 : decode cX9_owed 2 = .ok (.putfield 81, 3) := by decide +kernel
theorem dX9_owed_5 : decode cX9_owed 5 = .ok (.aload_n 0, 1) := by decide +kernel
theorem dX9_owed_6 : decode cX9_owed 6 = .ok (.invokevirtual 301, 3) := by decide +kernel
theorem dX9_owed_9 : decode cX9_owed 9 = .ok (.ifCond .ne 6, 3) := by decide +kernel
theorem dX9_owed_12 : decode cX9_owed 12 = .ok (.bipush (-2), 2) := by decide +kernel
theorem dX9_owed_14 : decode cX9_owed 14 = .ok (.ireturn, 1) := by decide +kernel
set_option maxHeartbeats 4000000 in
set_option maxRecDepth 100000 in
theorem k_X9_owed (l : Launch) (D : va_G) (K : Nat → ClassId) (ad : Nat → Nat) : Met l yX9_owed (wM yX9_owed cX9_owed 1 (some .int)) (rmD 1) (va_Pc [.ref (ad 0)] (wPre D K ad (yG ad K) 21 yv0 ya0 yl0)) (va_Qi (fun r _ => r = (-2)) (wB D ad (yG ad K) 21) (inW ad 21)) 0 0 (inW ad 21) := by
  refine x_met (by decide) (Nat.le_of_ble_eq_true rfl) ?_
  intro p e s m below meth c ls hE hr hlo hnm hB hl
  have hE : CallFix p m c cX9_owed 1 s _ tbG "TaleCourtModel" := hE
  obtain ⟨hP, hK, hN⟩ := hB
  have hS : va_S (inW ad 21) s.heap s.heap [] := va_S.rf
  have hl : lv_has ls 1 [(0, .ref (ad 0))] := hl
  refine lv_aload_n hE.1 hE.2.1 dX9_owed_0 rfl (lv_at hl 0 rfl) ?_
  refine lv_iconst (v := 0) hE.1 hE.2.1 dX9_owed_1 (by decide) ?_
  refine x_put hE hK hN hP hS 0 (by decide) (yG_9 rfl) rfl hin9 tyX9 tyX9_ok nmX9 0 (by decide) mw_1334 rfl rfl rfl (Nat.le_of_ble_eq_true rfl) (yG_9 rfl) dX9_owed_2 (fun v1 H locs hv hP hS => ?_)
  obtain rfl := hv.trans (up_same (by decide))
  refine lv_aload_n hE.1 hE.2.1 dX9_owed_5 rfl (lv_at hl 0 rfl) ?_
  refine x_vp (nn := 0) (As := []) (rest := []) hE (k_X9_isCourt l D K ad ) wPre_blind (wPre_now hK hN hP) (x_recv hK hP 0 (by decide) (yG_9 rfl) rfl) rfl mw_1718 mw_1720 mw_79 mw_123 mw_1721 (by decide +kernel) ⟨by decide, by decide⟩ hl.1 rfl (by decide) ⟨Nat.zero_le _, Nat.zero_le _⟩ dX9_owed_6 (fun r hr => ?_)
  subst hr
  refine lv_if_ne (tgt := 15) hE.1 hE.2.1 dX9_owed_9 (by decide) (fun h => absurd (by decide) h) (fun _ => ?_)
  refine lv_bipush (v := (-2)) hE.1 hE.2.1 dX9_owed_12 (by decide) ?_
  exact x_wi hE hr hlo hP hS rfl rfl dX9_owed_14

theorem dX9_due_0 : decode cX9_due 0 = .ok (.aload_n 0, 1) := by decide +kernel
theorem dX9_due_1 : decode cX9_due 1 = .ok (.iconst 0, 1) := by decide +kernel
theorem dX9_due_2 : decode cX9_due 2 = .ok (.putfield 81, 3) := by decide +kernel
theorem dX9_due_5 : decode cX9_due 5 = .ok (.aload_n 0, 1) := by decide +kernel
theorem dX9_due_6 : decode cX9_due 6 = .ok (.iload_n 1, 1) := by decide +kernel
theorem dX9_due_7 : decode cX9_due 7 = .ok (.i2l, 1) := by decide +kernel
theorem dX9_due_8 : decode cX9_due 8 = .ok (.invokevirtual 253, 3) := by decide +kernel
theorem dX9_due_11 : decode cX9_due 11 = .ok (.ifCond .ne 6, 3) := by decide +kernel
theorem dX9_due_14 : decode cX9_due 14 = .ok (.bipush (-2), 2) := by decide +kernel
theorem dX9_due_16 : decode cX9_due 16 = .ok (.ireturn, 1) := by decide +kernel
set_option maxHeartbeats 4000000 in
set_option maxRecDepth 100000 in
theorem k_X9_due (l : Launch) (D : va_G) (K : Nat → ClassId) (ad : Nat → Nat) (p1 : Int32) : Met l yX9_due (wM yX9_due cX9_due 5 (some .int)) (rmD 2) (va_Pc [.ref (ad 0), .int p1] (wPre D K ad (yG ad K) 21 yv0 ya0 yl0)) (va_Qi (fun r _ => r = (-2)) (wB D ad (yG ad K) 21) (inW ad 21)) 0 0 (inW ad 21) := by
  refine x_met (by decide) (Nat.le_of_ble_eq_true rfl) ?_
  intro p e s m below meth c ls hE hr hlo hnm hB hl
  have hE : CallFix p m c cX9_due 5 s _ tbG "TaleCourtModel" := hE
  obtain ⟨hP, hK, hN⟩ := hB
  have hS : va_S (inW ad 21) s.heap s.heap [] := va_S.rf
  have hl : lv_has ls 5 [(0, .ref (ad 0)), (1, .int p1)] := hl
  refine lv_aload_n hE.1 hE.2.1 dX9_due_0 rfl (lv_at hl 0 rfl) ?_
  refine lv_iconst (v := 0) hE.1 hE.2.1 dX9_due_1 (by decide) ?_
  refine x_put hE hK hN hP hS 0 (by decide) (yG_9 rfl) rfl hin9 tyX9 tyX9_ok nmX9 0 (by decide) mw_1334 rfl rfl rfl (Nat.le_of_ble_eq_true rfl) (yG_9 rfl) dX9_due_2 (fun v1 H locs hv hP hS => ?_)
  obtain rfl := hv.trans (up_same (by decide))
  refine lv_aload_n hE.1 hE.2.1 dX9_due_5 rfl (lv_at hl 0 rfl) ?_
  refine lv_iload_n hE.1 hE.2.1 dX9_due_6 rfl (lv_at hl 1 rfl) ?_
  refine lv_i2l (v := (p1.toInt64)) hE.1 hE.2.1 dX9_due_7 rfl ?_
  refine x_vp (nn := 1) (As := [.long (p1.toInt64)]) (rest := []) hE (k_X9_isMotif l D K ad (p1.toInt64)) wPre_blind (wPre_now hK hN hP) (x_recv hK hP 0 (by decide) (yG_9 rfl) rfl) rfl mw_1662 mw_1664 mw_74 mw_123 mw_1665 (by decide +kernel) ⟨by decide, by decide⟩ hl.1 rfl (by decide) ⟨Nat.zero_le _, Nat.zero_le _⟩ dX9_due_8 (fun r hr => ?_)
  subst hr
  refine lv_if_ne (tgt := 17) hE.1 hE.2.1 dX9_due_11 (by decide) (fun h => absurd (by decide) h) (fun _ => ?_)
  refine lv_bipush (v := (-2)) hE.1 hE.2.1 dX9_due_14 (by decide) ?_
  exact x_wi hE hr hlo hP hS rfl rfl dX9_due_16

theorem dX9_whole_0 : decode cX9_whole 0 = .ok (.aload_n 0, 1) := by decide +kernel
theorem dX9_whole_1 : decode cX9_whole 1 = .ok (.iconst 0, 1) := by decide +kernel
theorem dX9_whole_2 : decode cX9_whole 2 = .ok (.putfield 81, 3) := by decide +kernel
theorem dX9_whole_5 : decode cX9_whole 5 = .ok (.aload_n 0, 1) := by decide +kernel
theorem dX9_whole_6 : decode cX9_whole 6 = .ok (.invokevirtual 301, 3) := by decide +kernel
theorem dX9_whole_9 : decode cX9_whole 9 = .ok (.ifCond .ne 6, 3) := by decide +kernel
theorem dX9_whole_12 : decode cX9_whole 12 = .ok (.bipush (-2), 2) := by decide +kernel
theorem dX9_whole_14 : decode cX9_whole 14 = .ok (.ireturn, 1) := by decide +kernel
set_option maxHeartbeats 4000000 in
set_option maxRecDepth 100000 in
theorem k_X9_whole (l : Launch) (D : va_G) (K : Nat → ClassId) (ad : Nat → Nat) : Met l yX9_whole (wM yX9_whole cX9_whole 1 (some .int)) (rmD 1) (va_Pc [.ref (ad 0)] (wPre D K ad (yG ad K) 21 yv0 ya0 yl0)) (va_Qi (fun r _ => r = (-2)) (wB D ad (yG ad K) 21) (inW ad 21)) 0 0 (inW ad 21) := by
  refine x_met (by decide) (Nat.le_of_ble_eq_true rfl) ?_
  intro p e s m below meth c ls hE hr hlo hnm hB hl
  have hE : CallFix p m c cX9_whole 1 s _ tbG "TaleCourtModel" := hE
  obtain ⟨hP, hK, hN⟩ := hB
  have hS : va_S (inW ad 21) s.heap s.heap [] := va_S.rf
  have hl : lv_has ls 1 [(0, .ref (ad 0))] := hl
  refine lv_aload_n hE.1 hE.2.1 dX9_whole_0 rfl (lv_at hl 0 rfl) ?_
  refine lv_iconst (v := 0) hE.1 hE.2.1 dX9_whole_1 (by decide) ?_
  refine x_put hE hK hN hP hS 0 (by decide) (yG_9 rfl) rfl hin9 tyX9 tyX9_ok nmX9 0 (by decide) mw_1334 rfl rfl rfl (Nat.le_of_ble_eq_true rfl) (yG_9 rfl) dX9_whole_2 (fun v1 H locs hv hP hS => ?_)
  obtain rfl := hv.trans (up_same (by decide))
  refine lv_aload_n hE.1 hE.2.1 dX9_whole_5 rfl (lv_at hl 0 rfl) ?_
  refine x_vp (nn := 0) (As := []) (rest := []) hE (k_X9_isCourt l D K ad ) wPre_blind (wPre_now hK hN hP) (x_recv hK hP 0 (by decide) (yG_9 rfl) rfl) rfl mw_1718 mw_1720 mw_79 mw_123 mw_1721 (by decide +kernel) ⟨by decide, by decide⟩ hl.1 rfl (by decide) ⟨Nat.zero_le _, Nat.zero_le _⟩ dX9_whole_6 (fun r hr => ?_)
  subst hr
  refine lv_if_ne (tgt := 15) hE.1 hE.2.1 dX9_whole_9 (by decide) (fun h => absurd (by decide) h) (fun _ => ?_)
  refine lv_bipush (v := (-2)) hE.1 hE.2.1 dX9_whole_12 (by decide) ?_
  exact x_wi hE hr hlo hP hS rfl rfl dX9_whole_14

theorem dX9_points_0 : decode cX9_points 0 = .ok (.aload_n 0, 1) := by decide +kernel
theorem dX9_points_1 : decode cX9_points 1 = .ok (.iconst 0, 1) := by decide +kernel
theorem dX9_points_2 : decode cX9_points 2 = .ok (.putfield 81, 3) := by decide +kernel
theorem dX9_points_5 : decode cX9_points 5 = .ok (.aload_n 0, 1) := by decide +kernel
theorem dX9_points_6 : decode cX9_points 6 = .ok (.invokevirtual 301, 3) := by decide +kernel
theorem dX9_points_9 : decode cX9_points 9 = .ok (.ifCond .ne 6, 3) := by decide +kernel
theorem dX9_points_12 : decode cX9_points 12 = .ok (.bipush (-2), 2) := by decide +kernel
theorem dX9_points_14 : decode cX9_points 14 = .ok (.ireturn, 1) := by decide +kernel
set_option maxHeartbeats 4000000 in
set_option maxRecDepth 100000 in
theorem k_X9_points (l : Launch) (D : va_G) (K : Nat → ClassId) (ad : Nat → Nat) : Met l yX9_points (wM yX9_points cX9_points 1 (some .int)) (rmD 1) (va_Pc [.ref (ad 0)] (wPre D K ad (yG ad K) 21 yv0 ya0 yl0)) (va_Qi (fun r _ => r = (-2)) (wB D ad (yG ad K) 21) (inW ad 21)) 0 0 (inW ad 21) := by
  refine x_met (by decide) (Nat.le_of_ble_eq_true rfl) ?_
  intro p e s m below meth c ls hE hr hlo hnm hB hl
  have hE : CallFix p m c cX9_points 1 s _ tbG "TaleCourtModel" := hE
  obtain ⟨hP, hK, hN⟩ := hB
  have hS : va_S (inW ad 21) s.heap s.heap [] := va_S.rf
  have hl : lv_has ls 1 [(0, .ref (ad 0))] := hl
  refine lv_aload_n hE.1 hE.2.1 dX9_points_0 rfl (lv_at hl 0 rfl) ?_
  refine lv_iconst (v := 0) hE.1 hE.2.1 dX9_points_1 (by decide) ?_
  refine x_put hE hK hN hP hS 0 (by decide) (yG_9 rfl) rfl hin9 tyX9 tyX9_ok nmX9 0 (by decide) mw_1334 rfl rfl rfl (Nat.le_of_ble_eq_true rfl) (yG_9 rfl) dX9_points_2 (fun v1 H locs hv hP hS => ?_)
  obtain rfl := hv.trans (up_same (by decide))
  refine lv_aload_n hE.1 hE.2.1 dX9_points_5 rfl (lv_at hl 0 rfl) ?_
  refine x_vp (nn := 0) (As := []) (rest := []) hE (k_X9_isCourt l D K ad ) wPre_blind (wPre_now hK hN hP) (x_recv hK hP 0 (by decide) (yG_9 rfl) rfl) rfl mw_1718 mw_1720 mw_79 mw_123 mw_1721 (by decide +kernel) ⟨by decide, by decide⟩ hl.1 rfl (by decide) ⟨Nat.zero_le _, Nat.zero_le _⟩ dX9_points_6 (fun r hr => ?_)
  subst hr
  refine lv_if_ne (tgt := 15) hE.1 hE.2.1 dX9_points_9 (by decide) (fun h => absurd (by decide) h) (fun _ => ?_)
  refine lv_bipush (v := (-2)) hE.1 hE.2.1 dX9_points_12 (by decide) ?_
  exact x_wi hE hr hlo hP hS rfl rfl dX9_points_14

theorem dX9_share_0 : decode cX9_share 0 = .ok (.aload_n 0, 1) := by decide +kernel
theorem dX9_share_1 : decode cX9_share 1 = .ok (.iconst 0, 1) := by decide +kernel
theorem dX9_share_2 : decode cX9_share 2 = .ok (.putfield 81, 3) := by decide +kernel
theorem dX9_share_5 : decode cX9_share 5 = .ok (.aload_n 0, 1) := by decide +kernel
theorem dX9_share_6 : decode cX9_share 6 = .ok (.iload_n 1, 1) := by decide +kernel
theorem dX9_share_7 : decode cX9_share 7 = .ok (.invokevirtual 313, 3) := by decide +kernel
theorem dX9_share_10 : decode cX9_share 10 = .ok (.ifCond .ne 6, 3) := by decide +kernel
theorem dX9_share_13 : decode cX9_share 13 = .ok (.bipush (-2), 2) := by decide +kernel
theorem dX9_share_15 : decode cX9_share 15 = .ok (.ireturn, 1) := by decide +kernel
set_option maxHeartbeats 4000000 in
set_option maxRecDepth 100000 in
theorem k_X9_share (l : Launch) (D : va_G) (K : Nat → ClassId) (ad : Nat → Nat) (p1 : Int32) : Met l yX9_share (wM yX9_share cX9_share 4 (some .int)) (rmD 2) (va_Pc [.ref (ad 0), .int p1] (wPre D K ad (yG ad K) 21 yv0 ya0 yl0)) (va_Qi (fun r _ => r = (-2)) (wB D ad (yG ad K) 21) (inW ad 21)) 0 0 (inW ad 21) := by
  refine x_met (by decide) (Nat.le_of_ble_eq_true rfl) ?_
  intro p e s m below meth c ls hE hr hlo hnm hB hl
  have hE : CallFix p m c cX9_share 4 s _ tbG "TaleCourtModel" := hE
  obtain ⟨hP, hK, hN⟩ := hB
  have hS : va_S (inW ad 21) s.heap s.heap [] := va_S.rf
  have hl : lv_has ls 4 [(0, .ref (ad 0)), (1, .int p1)] := hl
  refine lv_aload_n hE.1 hE.2.1 dX9_share_0 rfl (lv_at hl 0 rfl) ?_
  refine lv_iconst (v := 0) hE.1 hE.2.1 dX9_share_1 (by decide) ?_
  refine x_put hE hK hN hP hS 0 (by decide) (yG_9 rfl) rfl hin9 tyX9 tyX9_ok nmX9 0 (by decide) mw_1334 rfl rfl rfl (Nat.le_of_ble_eq_true rfl) (yG_9 rfl) dX9_share_2 (fun v1 H locs hv hP hS => ?_)
  obtain rfl := hv.trans (up_same (by decide))
  refine lv_aload_n hE.1 hE.2.1 dX9_share_5 rfl (lv_at hl 0 rfl) ?_
  refine lv_iload_n hE.1 hE.2.1 dX9_share_6 rfl (lv_at hl 1 rfl) ?_
  refine x_vp (nn := 1) (As := [.int p1]) (rest := []) hE (k_X9_isTeller l D K ad p1) wPre_blind (wPre_now hK hN hP) (x_recv hK hP 0 (by decide) (yG_9 rfl) rfl) rfl mw_1786 mw_1788 mw_84 mw_123 mw_1789 (by decide +kernel) ⟨by decide, by decide⟩ hl.1 rfl (by decide) ⟨Nat.zero_le _, Nat.zero_le _⟩ dX9_share_7 (fun r hr => ?_)
  subst hr
  refine lv_if_ne (tgt := 16) hE.1 hE.2.1 dX9_share_10 (by decide) (fun h => absurd (by decide) h) (fun _ => ?_)
  refine lv_bipush (v := (-2)) hE.1 hE.2.1 dX9_share_13 (by decide) ?_
  exact x_wi hE hr hlo hP hS rfl rfl dX9_share_15

theorem dX9_left_0 : decode cX9_left 0 = .ok (.aload_n 0, 1) := by decide +kernel
theorem dX9_left_1 : decode cX9_left 1 = .ok (.iconst 0, 1) := by decide +kernel
theorem dX9_left_2 : decode cX9_left 2 = .ok (.putfield 81, 3) := by decide +kernel
theorem dX9_left_5 : decode cX9_left 5 = .ok (.aload_n 0, 1) := by decide +kernel
theorem dX9_left_6 : decode cX9_left 6 = .ok (.iload_n 1, 1) := by decide +kernel
theorem dX9_left_7 : decode cX9_left 7 = .ok (.invokevirtual 313, 3) := by decide +kernel
theorem dX9_left_10 : decode cX9_left 10 = .ok (.ifCond .ne 6, 3) := by decide +kernel
theorem dX9_left_13 : decode cX9_left 13 = .ok (.bipush (-2), 2) := by decide +kernel
theorem dX9_left_15 : decode cX9_left 15 = .ok (.ireturn, 1) := by decide +kernel
set_option maxHeartbeats 4000000 in
set_option maxRecDepth 100000 in
theorem k_X9_left (l : Launch) (D : va_G) (K : Nat → ClassId) (ad : Nat → Nat) (p1 : Int32) : Met l yX9_left (wM yX9_left cX9_left 2 (some .int)) (rmD 2) (va_Pc [.ref (ad 0), .int p1] (wPre D K ad (yG ad K) 21 yv0 ya0 yl0)) (va_Qi (fun r _ => r = (-2)) (wB D ad (yG ad K) 21) (inW ad 21)) 0 0 (inW ad 21) := by
  refine x_met (by decide) (Nat.le_of_ble_eq_true rfl) ?_
  intro p e s m below meth c ls hE hr hlo hnm hB hl
  have hE : CallFix p m c cX9_left 2 s _ tbG "TaleCourtModel" := hE
  obtain ⟨hP, hK, hN⟩ := hB
  have hS : va_S (inW ad 21) s.heap s.heap [] := va_S.rf
  have hl : lv_has ls 2 [(0, .ref (ad 0)), (1, .int p1)] := hl
  refine lv_aload_n hE.1 hE.2.1 dX9_left_0 rfl (lv_at hl 0 rfl) ?_
  refine lv_iconst (v := 0) hE.1 hE.2.1 dX9_left_1 (by decide) ?_
  refine x_put hE hK hN hP hS 0 (by decide) (yG_9 rfl) rfl hin9 tyX9 tyX9_ok nmX9 0 (by decide) mw_1334 rfl rfl rfl (Nat.le_of_ble_eq_true rfl) (yG_9 rfl) dX9_left_2 (fun v1 H locs hv hP hS => ?_)
  obtain rfl := hv.trans (up_same (by decide))
  refine lv_aload_n hE.1 hE.2.1 dX9_left_5 rfl (lv_at hl 0 rfl) ?_
  refine lv_iload_n hE.1 hE.2.1 dX9_left_6 rfl (lv_at hl 1 rfl) ?_
  refine x_vp (nn := 1) (As := [.int p1]) (rest := []) hE (k_X9_isTeller l D K ad p1) wPre_blind (wPre_now hK hN hP) (x_recv hK hP 0 (by decide) (yG_9 rfl) rfl) rfl mw_1786 mw_1788 mw_84 mw_123 mw_1789 (by decide +kernel) ⟨by decide, by decide⟩ hl.1 rfl (by decide) ⟨Nat.zero_le _, Nat.zero_le _⟩ dX9_left_7 (fun r hr => ?_)
  subst hr
  refine lv_if_ne (tgt := 16) hE.1 hE.2.1 dX9_left_10 (by decide) (fun h => absurd (by decide) h) (fun _ => ?_)
  refine lv_bipush (v := (-2)) hE.1 hE.2.1 dX9_left_13 (by decide) ?_
  exact x_wi hE hr hlo hP hS rfl rfl dX9_left_15

theorem dX9_longest_0 : decode cX9_longest 0 = .ok (.aload_n 0, 1) := by decide +kernel
theorem dX9_longest_1 : decode cX9_longest 1 = .ok (.iconst 0, 1) := by decide +kernel
theorem dX9_longest_2 : decode cX9_longest 2 = .ok (.putfield 81, 3) := by decide +kernel
theorem dX9_longest_5 : decode cX9_longest 5 = .ok (.aload_n 0, 1) := by decide +kernel
theorem dX9_longest_6 : decode cX9_longest 6 = .ok (.invokevirtual 301, 3) := by decide +kernel
theorem dX9_longest_9 : decode cX9_longest 9 = .ok (.ifCond .ne 6, 3) := by decide +kernel
theorem dX9_longest_12 : decode cX9_longest 12 = .ok (.bipush (-2), 2) := by decide +kernel
theorem dX9_longest_14 : decode cX9_longest 14 = .ok (.ireturn, 1) := by decide +kernel
set_option maxHeartbeats 4000000 in
set_option maxRecDepth 100000 in
theorem k_X9_longest (l : Launch) (D : va_G) (K : Nat → ClassId) (ad : Nat → Nat) : Met l yX9_longest (wM yX9_longest cX9_longest 1 (some .int)) (rmD 1) (va_Pc [.ref (ad 0)] (wPre D K ad (yG ad K) 21 yv0 ya0 yl0)) (va_Qi (fun r _ => r = (-2)) (wB D ad (yG ad K) 21) (inW ad 21)) 0 0 (inW ad 21) := by
  refine x_met (by decide) (Nat.le_of_ble_eq_true rfl) ?_
  intro p e s m below meth c ls hE hr hlo hnm hB hl
  have hE : CallFix p m c cX9_longest 1 s _ tbG "TaleCourtModel" := hE
  obtain ⟨hP, hK, hN⟩ := hB
  have hS : va_S (inW ad 21) s.heap s.heap [] := va_S.rf
  have hl : lv_has ls 1 [(0, .ref (ad 0))] := hl
  refine lv_aload_n hE.1 hE.2.1 dX9_longest_0 rfl (lv_at hl 0 rfl) ?_
  refine lv_iconst (v := 0) hE.1 hE.2.1 dX9_longest_1 (by decide) ?_
  refine x_put hE hK hN hP hS 0 (by decide) (yG_9 rfl) rfl hin9 tyX9 tyX9_ok nmX9 0 (by decide) mw_1334 rfl rfl rfl (Nat.le_of_ble_eq_true rfl) (yG_9 rfl) dX9_longest_2 (fun v1 H locs hv hP hS => ?_)
  obtain rfl := hv.trans (up_same (by decide))
  refine lv_aload_n hE.1 hE.2.1 dX9_longest_5 rfl (lv_at hl 0 rfl) ?_
  refine x_vp (nn := 0) (As := []) (rest := []) hE (k_X9_isCourt l D K ad ) wPre_blind (wPre_now hK hN hP) (x_recv hK hP 0 (by decide) (yG_9 rfl) rfl) rfl mw_1718 mw_1720 mw_79 mw_123 mw_1721 (by decide +kernel) ⟨by decide, by decide⟩ hl.1 rfl (by decide) ⟨Nat.zero_le _, Nat.zero_le _⟩ dX9_longest_6 (fun r hr => ?_)
  subst hr
  refine lv_if_ne (tgt := 15) hE.1 hE.2.1 dX9_longest_9 (by decide) (fun h => absurd (by decide) h) (fun _ => ?_)
  refine lv_bipush (v := (-2)) hE.1 hE.2.1 dX9_longest_12 (by decide) ?_
  exact x_wi hE hr hlo hP hS rfl rfl dX9_longest_14

theorem dX9_full_0 : decode cX9_full 0 = .ok (.aload_n 0, 1) := by decide +kernel
theorem dX9_full_1 : decode cX9_full 1 = .ok (.iconst 0, 1) := by decide +kernel
theorem dX9_full_2 : decode cX9_full 2 = .ok (.putfield 81, 3) := by decide +kernel
theorem dX9_full_5 : decode cX9_full 5 = .ok (.aload_n 0, 1) := by decide +kernel
theorem dX9_full_6 : decode cX9_full 6 = .ok (.invokevirtual 301, 3) := by decide +kernel
theorem dX9_full_9 : decode cX9_full 9 = .ok (.ifCond .ne 6, 3) := by decide +kernel
theorem dX9_full_12 : decode cX9_full 12 = .ok (.bipush (-2), 2) := by decide +kernel
theorem dX9_full_14 : decode cX9_full 14 = .ok (.ireturn, 1) := by decide +kernel
set_option maxHeartbeats 4000000 in
set_option maxRecDepth 100000 in
theorem k_X9_full (l : Launch) (D : va_G) (K : Nat → ClassId) (ad : Nat → Nat) : Met l yX9_full (wM yX9_full cX9_full 1 (some .int)) (rmD 1) (va_Pc [.ref (ad 0)] (wPre D K ad (yG ad K) 21 yv0 ya0 yl0)) (va_Qi (fun r _ => r = (-2)) (wB D ad (yG ad K) 21) (inW ad 21)) 0 0 (inW ad 21) := by
  refine x_met (by decide) (Nat.le_of_ble_eq_true rfl) ?_
  intro p e s m below meth c ls hE hr hlo hnm hB hl
  have hE : CallFix p m c cX9_full 1 s _ tbG "TaleCourtModel" := hE
  obtain ⟨hP, hK, hN⟩ := hB
  have hS : va_S (inW ad 21) s.heap s.heap [] := va_S.rf
  have hl : lv_has ls 1 [(0, .ref (ad 0))] := hl
  refine lv_aload_n hE.1 hE.2.1 dX9_full_0 rfl (lv_at hl 0 rfl) ?_
  refine lv_iconst (v := 0) hE.1 hE.2.1 dX9_full_1 (by decide) ?_
  refine x_put hE hK hN hP hS 0 (by decide) (yG_9 rfl) rfl hin9 tyX9 tyX9_ok nmX9 0 (by decide) mw_1334 rfl rfl rfl (Nat.le_of_ble_eq_true rfl) (yG_9 rfl) dX9_full_2 (fun v1 H locs hv hP hS => ?_)
  obtain rfl := hv.trans (up_same (by decide))
  refine lv_aload_n hE.1 hE.2.1 dX9_full_5 rfl (lv_at hl 0 rfl) ?_
  refine x_vp (nn := 0) (As := []) (rest := []) hE (k_X9_isCourt l D K ad ) wPre_blind (wPre_now hK hN hP) (x_recv hK hP 0 (by decide) (yG_9 rfl) rfl) rfl mw_1718 mw_1720 mw_79 mw_123 mw_1721 (by decide +kernel) ⟨by decide, by decide⟩ hl.1 rfl (by decide) ⟨Nat.zero_le _, Nat.zero_le _⟩ dX9_full_6 (fun r hr => ?_)
  subst hr
  refine lv_if_ne (tgt := 15) hE.1 hE.2.1 dX9_full_9 (by decide) (fun h => absurd (by decide) h) (fun _ => ?_)
  refine lv_bipush (v := (-2)) hE.1 hE.2.1 dX9_full_12 (by decide) ?_
  exact x_wi hE hr hlo hP hS rfl rfl dX9_full_14

theorem dX9_line__0 : decode cX9_line_ 0 = .ok (.aload_n 0, 1) := by decide +kernel
theorem dX9_line__1 : decode cX9_line_ 1 = .ok (.iconst 0, 1) := by decide +kernel
theorem dX9_line__2 : decode cX9_line_ 2 = .ok (.putfield 81, 3) := by decide +kernel
theorem dX9_line__5 : decode cX9_line_ 5 = .ok (.aload_n 0, 1) := by decide +kernel
theorem dX9_line__6 : decode cX9_line_ 6 = .ok (.invokevirtual 301, 3) := by decide +kernel
theorem dX9_line__9 : decode cX9_line_ 9 = .ok (.ifCond .ne 6, 3) := by decide +kernel
theorem dX9_line__12 : decode cX9_line_ 12 = .ok (.bipush (-2), 2) := by decide +kernel
theorem dX9_line__14 : decode cX9_line_ 14 = .ok (.ireturn, 1) := by decide +kernel
set_option maxHeartbeats 4000000 in
set_option maxRecDepth 100000 in
theorem k_X9_line (l : Launch) (D : va_G) (K : Nat → ClassId) (ad : Nat → Nat) (p1 : Int32) : Met l yX9_line_ (wM yX9_line_ cX9_line_ 2 (some .int)) (rmD 1) (va_Pc [.ref (ad 0), .int p1] (wPre D K ad (yG ad K) 21 yv0 ya0 yl0)) (va_Qi (fun r _ => r = (-2)) (wB D ad (yG ad K) 21) (inW ad 21)) 0 0 (inW ad 21) := by
  refine x_met (by decide) (Nat.le_of_ble_eq_true rfl) ?_
  intro p e s m below meth c ls hE hr hlo hnm hB hl
  have hE : CallFix p m c cX9_line_ 2 s _ tbG "TaleCourtModel" := hE
  obtain ⟨hP, hK, hN⟩ := hB
  have hS : va_S (inW ad 21) s.heap s.heap [] := va_S.rf
  have hl : lv_has ls 2 [(0, .ref (ad 0)), (1, .int p1)] := hl
  refine lv_aload_n hE.1 hE.2.1 dX9_line__0 rfl (lv_at hl 0 rfl) ?_
  refine lv_iconst (v := 0) hE.1 hE.2.1 dX9_line__1 (by decide) ?_
  refine x_put hE hK hN hP hS 0 (by decide) (yG_9 rfl) rfl hin9 tyX9 tyX9_ok nmX9 0 (by decide) mw_1334 rfl rfl rfl (Nat.le_of_ble_eq_true rfl) (yG_9 rfl) dX9_line__2 (fun v1 H locs hv hP hS => ?_)
  obtain rfl := hv.trans (up_same (by decide))
  refine lv_aload_n hE.1 hE.2.1 dX9_line__5 rfl (lv_at hl 0 rfl) ?_
  refine x_vp (nn := 0) (As := []) (rest := []) hE (k_X9_isCourt l D K ad ) wPre_blind (wPre_now hK hN hP) (x_recv hK hP 0 (by decide) (yG_9 rfl) rfl) rfl mw_1718 mw_1720 mw_79 mw_123 mw_1721 (by decide +kernel) ⟨by decide, by decide⟩ hl.1 rfl (by decide) ⟨Nat.zero_le _, Nat.zero_le _⟩ dX9_line__6 (fun r hr => ?_)
  subst hr
  refine lv_if_ne (tgt := 15) hE.1 hE.2.1 dX9_line__9 (by decide) (fun h => absurd (by decide) h) (fun _ => ?_)
  refine lv_bipush (v := (-2)) hE.1 hE.2.1 dX9_line__12 (by decide) ?_
  exact x_wi hE hr hlo hP hS rfl rfl dX9_line__14

theorem dX9_best_0 : decode cX9_best 0 = .ok (.aload_n 0, 1) := by decide +kernel
theorem dX9_best_1 : decode cX9_best 1 = .ok (.iconst 0, 1) := by decide +kernel
theorem dX9_best_2 : decode cX9_best 2 = .ok (.putfield 81, 3) := by decide +kernel
theorem dX9_best_5 : decode cX9_best 5 = .ok (.aload_n 0, 1) := by decide +kernel
theorem dX9_best_6 : decode cX9_best 6 = .ok (.invokevirtual 301, 3) := by decide +kernel
theorem dX9_best_9 : decode cX9_best 9 = .ok (.ifCond .ne 6, 3) := by decide +kernel
theorem dX9_best_12 : decode cX9_best 12 = .ok (.bipush (-2), 2) := by decide +kernel
theorem dX9_best_14 : decode cX9_best 14 = .ok (.ireturn, 1) := by decide +kernel
set_option maxHeartbeats 4000000 in
set_option maxRecDepth 100000 in
theorem k_X9_best (l : Launch) (D : va_G) (K : Nat → ClassId) (ad : Nat → Nat) : Met l yX9_best (wM yX9_best cX9_best 1 (some .int)) (rmD 1) (va_Pc [.ref (ad 0)] (wPre D K ad (yG ad K) 21 yv0 ya0 yl0)) (va_Qi (fun r _ => r = (-2)) (wB D ad (yG ad K) 21) (inW ad 21)) 0 0 (inW ad 21) := by
  refine x_met (by decide) (Nat.le_of_ble_eq_true rfl) ?_
  intro p e s m below meth c ls hE hr hlo hnm hB hl
  have hE : CallFix p m c cX9_best 1 s _ tbG "TaleCourtModel" := hE
  obtain ⟨hP, hK, hN⟩ := hB
  have hS : va_S (inW ad 21) s.heap s.heap [] := va_S.rf
  have hl : lv_has ls 1 [(0, .ref (ad 0))] := hl
  refine lv_aload_n hE.1 hE.2.1 dX9_best_0 rfl (lv_at hl 0 rfl) ?_
  refine lv_iconst (v := 0) hE.1 hE.2.1 dX9_best_1 (by decide) ?_
  refine x_put hE hK hN hP hS 0 (by decide) (yG_9 rfl) rfl hin9 tyX9 tyX9_ok nmX9 0 (by decide) mw_1334 rfl rfl rfl (Nat.le_of_ble_eq_true rfl) (yG_9 rfl) dX9_best_2 (fun v1 H locs hv hP hS => ?_)
  obtain rfl := hv.trans (up_same (by decide))
  refine lv_aload_n hE.1 hE.2.1 dX9_best_5 rfl (lv_at hl 0 rfl) ?_
  refine x_vp (nn := 0) (As := []) (rest := []) hE (k_X9_isCourt l D K ad ) wPre_blind (wPre_now hK hN hP) (x_recv hK hP 0 (by decide) (yG_9 rfl) rfl) rfl mw_1718 mw_1720 mw_79 mw_123 mw_1721 (by decide +kernel) ⟨by decide, by decide⟩ hl.1 rfl (by decide) ⟨Nat.zero_le _, Nat.zero_le _⟩ dX9_best_6 (fun r hr => ?_)
  subst hr
  refine lv_if_ne (tgt := 15) hE.1 hE.2.1 dX9_best_9 (by decide) (fun h => absurd (by decide) h) (fun _ => ?_)
  refine lv_bipush (v := (-2)) hE.1 hE.2.1 dX9_best_12 (by decide) ?_
  exact x_wi hE hr hlo hP hS rfl rfl dX9_best_14

theorem dX9_tale_0 : decode cX9_tale 0 = .ok (.aload_n 0, 1) := by decide +kernel
theorem dX9_tale_1 : decode cX9_tale 1 = .ok (.iconst 0, 1) := by decide +kernel
theorem dX9_tale_2 : decode cX9_tale 2 = .ok (.putfield 81, 3) := by decide +kernel
theorem dX9_tale_5 : decode cX9_tale 5 = .ok (.aload_n 0, 1) := by decide +kernel
theorem dX9_tale_6 : decode cX9_tale 6 = .ok (.invokevirtual 301, 3) := by decide +kernel
theorem dX9_tale_9 : decode cX9_tale 9 = .ok (.ifCond .ne 6, 3) := by decide +kernel
theorem dX9_tale_12 : decode cX9_tale 12 = .ok (.bipush (-2), 2) := by decide +kernel
theorem dX9_tale_14 : decode cX9_tale 14 = .ok (.ireturn, 1) := by decide +kernel
set_option maxHeartbeats 4000000 in
set_option maxRecDepth 100000 in
theorem k_X9_tale (l : Launch) (D : va_G) (K : Nat → ClassId) (ad : Nat → Nat) (p1 : Int32) : Met l yX9_tale (wM yX9_tale cX9_tale 2 (some .int)) (rmD 1) (va_Pc [.ref (ad 0), .int p1] (wPre D K ad (yG ad K) 21 yv0 ya0 yl0)) (va_Qi (fun r _ => r = (-2)) (wB D ad (yG ad K) 21) (inW ad 21)) 0 0 (inW ad 21) := by
  refine x_met (by decide) (Nat.le_of_ble_eq_true rfl) ?_
  intro p e s m below meth c ls hE hr hlo hnm hB hl
  have hE : CallFix p m c cX9_tale 2 s _ tbG "TaleCourtModel" := hE
  obtain ⟨hP, hK, hN⟩ := hB
  have hS : va_S (inW ad 21) s.heap s.heap [] := va_S.rf
  have hl : lv_has ls 2 [(0, .ref (ad 0)), (1, .int p1)] := hl
  refine lv_aload_n hE.1 hE.2.1 dX9_tale_0 rfl (lv_at hl 0 rfl) ?_
  refine lv_iconst (v := 0) hE.1 hE.2.1 dX9_tale_1 (by decide) ?_
  refine x_put hE hK hN hP hS 0 (by decide) (yG_9 rfl) rfl hin9 tyX9 tyX9_ok nmX9 0 (by decide) mw_1334 rfl rfl rfl (Nat.le_of_ble_eq_true rfl) (yG_9 rfl) dX9_tale_2 (fun v1 H locs hv hP hS => ?_)
  obtain rfl := hv.trans (up_same (by decide))
  refine lv_aload_n hE.1 hE.2.1 dX9_tale_5 rfl (lv_at hl 0 rfl) ?_
  refine x_vp (nn := 0) (As := []) (rest := []) hE (k_X9_isCourt l D K ad ) wPre_blind (wPre_now hK hN hP) (x_recv hK hP 0 (by decide) (yG_9 rfl) rfl) rfl mw_1718 mw_1720 mw_79 mw_123 mw_1721 (by decide +kernel) ⟨by decide, by decide⟩ hl.1 rfl (by decide) ⟨Nat.zero_le _, Nat.zero_le _⟩ dX9_tale_6 (fun r hr => ?_)
  subst hr
  refine lv_if_ne (tgt := 15) hE.1 hE.2.1 dX9_tale_9 (by decide) (fun h => absurd (by decide) h) (fun _ => ?_)
  refine lv_bipush (v := (-2)) hE.1 hE.2.1 dX9_tale_12 (by decide) ?_
  exact x_wi hE hr hlo hP hS rfl rfl dX9_tale_14

theorem dX9_roof_0 : decode cX9_roof 0 = .ok (.aload_n 0, 1) := by decide +kernel
theorem dX9_roof_1 : decode cX9_roof 1 = .ok (.iconst 0, 1) := by decide +kernel
theorem dX9_roof_2 : decode cX9_roof 2 = .ok (.putfield 81, 3) := by decide +kernel
theorem dX9_roof_5 : decode cX9_roof 5 = .ok (.aload_n 0, 1) := by decide +kernel
theorem dX9_roof_6 : decode cX9_roof 6 = .ok (.invokevirtual 301, 3) := by decide +kernel
theorem dX9_roof_9 : decode cX9_roof 9 = .ok (.ifCond .eq 7, 3) := by decide +kernel
theorem dX9_roof_16 : decode cX9_roof 16 = .ok (.bipush (-2), 2) := by decide +kernel
theorem dX9_roof_18 : decode cX9_roof 18 = .ok (.ireturn, 1) := by decide +kernel
set_option maxHeartbeats 4000000 in
set_option maxRecDepth 100000 in
theorem k_X9_roof (l : Launch) (D : va_G) (K : Nat → ClassId) (ad : Nat → Nat) (p1 : Int32) : Met l yX9_roof (wM yX9_roof cX9_roof 2 (some .int)) (rmD 1) (va_Pc [.ref (ad 0), .int p1] (wPre D K ad (yG ad K) 21 yv0 ya0 yl0)) (va_Qi (fun r _ => r = (-2)) (wB D ad (yG ad K) 21) (inW ad 21)) 0 0 (inW ad 21) := by
  refine x_met (by decide) (Nat.le_of_ble_eq_true rfl) ?_
  intro p e s m below meth c ls hE hr hlo hnm hB hl
  have hE : CallFix p m c cX9_roof 2 s _ tbG "TaleCourtModel" := hE
  obtain ⟨hP, hK, hN⟩ := hB
  have hS : va_S (inW ad 21) s.heap s.heap [] := va_S.rf
  have hl : lv_has ls 2 [(0, .ref (ad 0)), (1, .int p1)] := hl
  refine lv_aload_n hE.1 hE.2.1 dX9_roof_0 rfl (lv_at hl 0 rfl) ?_
  refine lv_iconst (v := 0) hE.1 hE.2.1 dX9_roof_1 (by decide) ?_
  refine x_put hE hK hN hP hS 0 (by decide) (yG_9 rfl) rfl hin9 tyX9 tyX9_ok nmX9 0 (by decide) mw_1334 rfl rfl rfl (Nat.le_of_ble_eq_true rfl) (yG_9 rfl) dX9_roof_2 (fun v1 H locs hv hP hS => ?_)
  obtain rfl := hv.trans (up_same (by decide))
  refine lv_aload_n hE.1 hE.2.1 dX9_roof_5 rfl (lv_at hl 0 rfl) ?_
  refine x_vp (nn := 0) (As := []) (rest := []) hE (k_X9_isCourt l D K ad ) wPre_blind (wPre_now hK hN hP) (x_recv hK hP 0 (by decide) (yG_9 rfl) rfl) rfl mw_1718 mw_1720 mw_79 mw_123 mw_1721 (by decide +kernel) ⟨by decide, by decide⟩ hl.1 rfl (by decide) ⟨Nat.zero_le _, Nat.zero_le _⟩ dX9_roof_6 (fun r hr => ?_)
  subst hr
  refine lv_if_eq (tgt := 16) hE.1 hE.2.1 dX9_roof_9 (by decide) (fun _ => ?_) (fun h => absurd (by decide) h)
  refine lv_bipush (v := (-2)) hE.1 hE.2.1 dX9_roof_16 (by decide) ?_
  exact x_wi hE hr hlo hP hS rfl rfl dX9_roof_18

theorem dX9_beam_0 : decode cX9_beam 0 = .ok (.aload_n 0, 1) := by decide +kernel
theorem dX9_beam_1 : decode cX9_beam 1 = .ok (.iconst 0, 1) := by decide +kernel
theorem dX9_beam_2 : decode cX9_beam 2 = .ok (.putfield 81, 3) := by decide +kernel
theorem dX9_beam_5 : decode cX9_beam 5 = .ok (.aload_n 0, 1) := by decide +kernel
theorem dX9_beam_6 : decode cX9_beam 6 = .ok (.invokevirtual 301, 3) := by decide +kernel
theorem dX9_beam_9 : decode cX9_beam 9 = .ok (.ifCond .eq 7, 3) := by decide +kernel
theorem dX9_beam_16 : decode cX9_beam 16 = .ok (.bipush (-2), 2) := by decide +kernel
theorem dX9_beam_18 : decode cX9_beam 18 = .ok (.ireturn, 1) := by decide +kernel
set_option maxHeartbeats 4000000 in
set_option maxRecDepth 100000 in
theorem k_X9_beam (l : Launch) (D : va_G) (K : Nat → ClassId) (ad : Nat → Nat) (p1 : Int32) (p2 : Int32) : Met l yX9_beam (wM yX9_beam cX9_beam 3 (some .int)) (rmD 1) (va_Pc [.ref (ad 0), .int p1, .int p2] (wPre D K ad (yG ad K) 21 yv0 ya0 yl0)) (va_Qi (fun r _ => r = (-2)) (wB D ad (yG ad K) 21) (inW ad 21)) 0 0 (inW ad 21) := by
  refine x_met (by decide) (Nat.le_of_ble_eq_true rfl) ?_
  intro p e s m below meth c ls hE hr hlo hnm hB hl
  have hE : CallFix p m c cX9_beam 3 s _ tbG "TaleCourtModel" := hE
  obtain ⟨hP, hK, hN⟩ := hB
  have hS : va_S (inW ad 21) s.heap s.heap [] := va_S.rf
  have hl : lv_has ls 3 [(0, .ref (ad 0)), (1, .int p1), (2, .int p2)] := hl
  refine lv_aload_n hE.1 hE.2.1 dX9_beam_0 rfl (lv_at hl 0 rfl) ?_
  refine lv_iconst (v := 0) hE.1 hE.2.1 dX9_beam_1 (by decide) ?_
  refine x_put hE hK hN hP hS 0 (by decide) (yG_9 rfl) rfl hin9 tyX9 tyX9_ok nmX9 0 (by decide) mw_1334 rfl rfl rfl (Nat.le_of_ble_eq_true rfl) (yG_9 rfl) dX9_beam_2 (fun v1 H locs hv hP hS => ?_)
  obtain rfl := hv.trans (up_same (by decide))
  refine lv_aload_n hE.1 hE.2.1 dX9_beam_5 rfl (lv_at hl 0 rfl) ?_
  refine x_vp (nn := 0) (As := []) (rest := []) hE (k_X9_isCourt l D K ad ) wPre_blind (wPre_now hK hN hP) (x_recv hK hP 0 (by decide) (yG_9 rfl) rfl) rfl mw_1718 mw_1720 mw_79 mw_123 mw_1721 (by decide +kernel) ⟨by decide, by decide⟩ hl.1 rfl (by decide) ⟨Nat.zero_le _, Nat.zero_le _⟩ dX9_beam_6 (fun r hr => ?_)
  subst hr
  refine lv_if_eq (tgt := 16) hE.1 hE.2.1 dX9_beam_9 (by decide) (fun _ => ?_) (fun h => absurd (by decide) h)
  refine lv_bipush (v := (-2)) hE.1 hE.2.1 dX9_beam_16 (by decide) ?_
  exact x_wi hE hr hlo hP hS rfl rfl dX9_beam_18

theorem dX9_rows_0 : decode cX9_rows 0 = .ok (.aload_n 0, 1) := by decide +kernel
theorem dX9_rows_1 : decode cX9_rows 1 = .ok (.iconst 0, 1) := by decide +kernel
theorem dX9_rows_2 : decode cX9_rows 2 = .ok (.putfield 81, 3) := by decide +kernel
theorem dX9_rows_5 : decode cX9_rows 5 = .ok (.aload_n 0, 1) := by decide +kernel
theorem dX9_rows_6 : decode cX9_rows 6 = .ok (.invokevirtual 301, 3) := by decide +kernel
theorem dX9_rows_9 : decode cX9_rows 9 = .ok (.ifCond .eq 15, 3) := by decide +kernel
theorem dX9_rows_24 : decode cX9_rows 24 = .ok (.bipush (-2), 2) := by decide +kernel
theorem dX9_rows_26 : decode cX9_rows 26 = .ok (.ireturn, 1) := by decide +kernel
set_option maxHeartbeats 4000000 in
set_option maxRecDepth 100000 in
theorem k_X9_rows (l : Launch) (D : va_G) (K : Nat → ClassId) (ad : Nat → Nat) (p1 : Int32) : Met l yX9_rows (wM yX9_rows cX9_rows 2 (some .int)) (rmD 1) (va_Pc [.ref (ad 0), .int p1] (wPre D K ad (yG ad K) 21 yv0 ya0 yl0)) (va_Qi (fun r _ => r = (-2)) (wB D ad (yG ad K) 21) (inW ad 21)) 0 0 (inW ad 21) := by
  refine x_met (by decide) (Nat.le_of_ble_eq_true rfl) ?_
  intro p e s m below meth c ls hE hr hlo hnm hB hl
  have hE : CallFix p m c cX9_rows 2 s _ tbG "TaleCourtModel" := hE
  obtain ⟨hP, hK, hN⟩ := hB
  have hS : va_S (inW ad 21) s.heap s.heap [] := va_S.rf
  have hl : lv_has ls 2 [(0, .ref (ad 0)), (1, .int p1)] := hl
  refine lv_aload_n hE.1 hE.2.1 dX9_rows_0 rfl (lv_at hl 0 rfl) ?_
  refine lv_iconst (v := 0) hE.1 hE.2.1 dX9_rows_1 (by decide) ?_
  refine x_put hE hK hN hP hS 0 (by decide) (yG_9 rfl) rfl hin9 tyX9 tyX9_ok nmX9 0 (by decide) mw_1334 rfl rfl rfl (Nat.le_of_ble_eq_true rfl) (yG_9 rfl) dX9_rows_2 (fun v1 H locs hv hP hS => ?_)
  obtain rfl := hv.trans (up_same (by decide))
  refine lv_aload_n hE.1 hE.2.1 dX9_rows_5 rfl (lv_at hl 0 rfl) ?_
  refine x_vp (nn := 0) (As := []) (rest := []) hE (k_X9_isCourt l D K ad ) wPre_blind (wPre_now hK hN hP) (x_recv hK hP 0 (by decide) (yG_9 rfl) rfl) rfl mw_1718 mw_1720 mw_79 mw_123 mw_1721 (by decide +kernel) ⟨by decide, by decide⟩ hl.1 rfl (by decide) ⟨Nat.zero_le _, Nat.zero_le _⟩ dX9_rows_6 (fun r hr => ?_)
  subst hr
  refine lv_if_eq (tgt := 24) hE.1 hE.2.1 dX9_rows_9 (by decide) (fun _ => ?_) (fun h => absurd (by decide) h)
  refine lv_bipush (v := (-2)) hE.1 hE.2.1 dX9_rows_24 (by decide) ?_
  exact x_wi hE hr hlo hP hS rfl rfl dX9_rows_26

theorem dX9_wholes_0 : decode cX9_wholes 0 = .ok (.aload_n 0, 1) := by decide +kernel
theorem dX9_wholes_1 : decode cX9_wholes 1 = .ok (.iconst 0, 1) := by decide +kernel
theorem dX9_wholes_2 : decode cX9_wholes 2 = .ok (.putfield 81, 3) := by decide +kernel
theorem dX9_wholes_5 : decode cX9_wholes 5 = .ok (.aload_n 0, 1) := by decide +kernel
theorem dX9_wholes_6 : decode cX9_wholes 6 = .ok (.invokevirtual 301, 3) := by decide +kernel
theorem dX9_wholes_9 : decode cX9_wholes 9 = .ok (.ifCond .eq 10, 3) := by decide +kernel
theorem dX9_wholes_19 : decode cX9_wholes 19 = .ok (.bipush (-2), 2) := by decide +kernel
theorem dX9_wholes_21 : decode cX9_wholes 21 = .ok (.ireturn, 1) := by decide +kernel
set_option maxHeartbeats 4000000 in
set_option maxRecDepth 100000 in
theorem k_X9_wholes (l : Launch) (D : va_G) (K : Nat → ClassId) (ad : Nat → Nat) : Met l yX9_wholes (wM yX9_wholes cX9_wholes 1 (some .int)) (rmD 1) (va_Pc [.ref (ad 0)] (wPre D K ad (yG ad K) 21 yv0 ya0 yl0)) (va_Qi (fun r _ => r = (-2)) (wB D ad (yG ad K) 21) (inW ad 21)) 0 0 (inW ad 21) := by
  refine x_met (by decide) (Nat.le_of_ble_eq_true rfl) ?_
  intro p e s m below meth c ls hE hr hlo hnm hB hl
  have hE : CallFix p m c cX9_wholes 1 s _ tbG "TaleCourtModel" := hE
  obtain ⟨hP, hK, hN⟩ := hB
  have hS : va_S (inW ad 21) s.heap s.heap [] := va_S.rf
  have hl : lv_has ls 1 [(0, .ref (ad 0))] := hl
  refine lv_aload_n hE.1 hE.2.1 dX9_wholes_0 rfl (lv_at hl 0 rfl) ?_
  refine lv_iconst (v := 0) hE.1 hE.2.1 dX9_wholes_1 (by decide) ?_
  refine x_put hE hK hN hP hS 0 (by decide) (yG_9 rfl) rfl hin9 tyX9 tyX9_ok nmX9 0 (by decide) mw_1334 rfl rfl rfl (Nat.le_of_ble_eq_true rfl) (yG_9 rfl) dX9_wholes_2 (fun v1 H locs hv hP hS => ?_)
  obtain rfl := hv.trans (up_same (by decide))
  refine lv_aload_n hE.1 hE.2.1 dX9_wholes_5 rfl (lv_at hl 0 rfl) ?_
  refine x_vp (nn := 0) (As := []) (rest := []) hE (k_X9_isCourt l D K ad ) wPre_blind (wPre_now hK hN hP) (x_recv hK hP 0 (by decide) (yG_9 rfl) rfl) rfl mw_1718 mw_1720 mw_79 mw_123 mw_1721 (by decide +kernel) ⟨by decide, by decide⟩ hl.1 rfl (by decide) ⟨Nat.zero_le _, Nat.zero_le _⟩ dX9_wholes_6 (fun r hr => ?_)
  subst hr
  refine lv_if_eq (tgt := 19) hE.1 hE.2.1 dX9_wholes_9 (by decide) (fun _ => ?_) (fun h => absurd (by decide) h)
  refine lv_bipush (v := (-2)) hE.1 hE.2.1 dX9_wholes_19 (by decide) ?_
  exact x_wi hE hr hlo hP hS rfl rfl dX9_wholes_21

theorem dX9_ends__0 : decode cX9_ends_ 0 = .ok (.aload_n 0, 1) := by decide +kernel
theorem dX9_ends__1 : decode cX9_ends_ 1 = .ok (.iconst 0, 1) := by decide +kernel
theorem dX9_ends__2 : decode cX9_ends_ 2 = .ok (.putfield 81, 3) := by decide +kernel
theorem dX9_ends__5 : decode cX9_ends_ 5 = .ok (.aload_n 0, 1) := by decide +kernel
theorem dX9_ends__6 : decode cX9_ends_ 6 = .ok (.iload_n 1, 1) := by decide +kernel
theorem dX9_ends__7 : decode cX9_ends_ 7 = .ok (.i2l, 1) := by decide +kernel
theorem dX9_ends__8 : decode cX9_ends_ 8 = .ok (.invokevirtual 253, 3) := by decide +kernel
theorem dX9_ends__11 : decode cX9_ends_ 11 = .ok (.ifCond .ne 6, 3) := by decide +kernel
theorem dX9_ends__14 : decode cX9_ends_ 14 = .ok (.bipush (-2), 2) := by decide +kernel
theorem dX9_ends__16 : decode cX9_ends_ 16 = .ok (.ireturn, 1) := by decide +kernel
set_option maxHeartbeats 4000000 in
set_option maxRecDepth 100000 in
theorem k_X9_ends (l : Launch) (D : va_G) (K : Nat → ClassId) (ad : Nat → Nat) (p1 : Int32) : Met l yX9_ends_ (wM yX9_ends_ cX9_ends_ 2 (some .int)) (rmD 2) (va_Pc [.ref (ad 0), .int p1] (wPre D K ad (yG ad K) 21 yv0 ya0 yl0)) (va_Qi (fun r _ => r = (-2)) (wB D ad (yG ad K) 21) (inW ad 21)) 0 0 (inW ad 21) := by
  refine x_met (by decide) (Nat.le_of_ble_eq_true rfl) ?_
  intro p e s m below meth c ls hE hr hlo hnm hB hl
  have hE : CallFix p m c cX9_ends_ 2 s _ tbG "TaleCourtModel" := hE
  obtain ⟨hP, hK, hN⟩ := hB
  have hS : va_S (inW ad 21) s.heap s.heap [] := va_S.rf
  have hl : lv_has ls 2 [(0, .ref (ad 0)), (1, .int p1)] := hl
  refine lv_aload_n hE.1 hE.2.1 dX9_ends__0 rfl (lv_at hl 0 rfl) ?_
  refine lv_iconst (v := 0) hE.1 hE.2.1 dX9_ends__1 (by decide) ?_
  refine x_put hE hK hN hP hS 0 (by decide) (yG_9 rfl) rfl hin9 tyX9 tyX9_ok nmX9 0 (by decide) mw_1334 rfl rfl rfl (Nat.le_of_ble_eq_true rfl) (yG_9 rfl) dX9_ends__2 (fun v1 H locs hv hP hS => ?_)
  obtain rfl := hv.trans (up_same (by decide))
  refine lv_aload_n hE.1 hE.2.1 dX9_ends__5 rfl (lv_at hl 0 rfl) ?_
  refine lv_iload_n hE.1 hE.2.1 dX9_ends__6 rfl (lv_at hl 1 rfl) ?_
  refine lv_i2l (v := (p1.toInt64)) hE.1 hE.2.1 dX9_ends__7 rfl ?_
  refine x_vp (nn := 1) (As := [.long (p1.toInt64)]) (rest := []) hE (k_X9_isMotif l D K ad (p1.toInt64)) wPre_blind (wPre_now hK hN hP) (x_recv hK hP 0 (by decide) (yG_9 rfl) rfl) rfl mw_1662 mw_1664 mw_74 mw_123 mw_1665 (by decide +kernel) ⟨by decide, by decide⟩ hl.1 rfl (by decide) ⟨Nat.zero_le _, Nat.zero_le _⟩ dX9_ends__8 (fun r hr => ?_)
  subst hr
  refine lv_if_ne (tgt := 17) hE.1 hE.2.1 dX9_ends__11 (by decide) (fun h => absurd (by decide) h) (fun _ => ?_)
  refine lv_bipush (v := (-2)) hE.1 hE.2.1 dX9_ends__14 (by decide) ?_
  exact x_wi hE hr hlo hP hS rfl rfl dX9_ends__16

theorem dX9_always_0 : decode cX9_always 0 = .ok (.aload_n 0, 1) := by decide +kernel
theorem dX9_always_1 : decode cX9_always 1 = .ok (.iconst 0, 1) := by decide +kernel
theorem dX9_always_2 : decode cX9_always 2 = .ok (.putfield 81, 3) := by decide +kernel
theorem dX9_always_5 : decode cX9_always 5 = .ok (.aload_n 0, 1) := by decide +kernel
theorem dX9_always_6 : decode cX9_always 6 = .ok (.invokevirtual 301, 3) := by decide +kernel
theorem dX9_always_9 : decode cX9_always 9 = .ok (.ifCond .eq 13, 3) := by decide +kernel
theorem dX9_always_22 : decode cX9_always 22 = .ok (.bipush (-2), 2) := by decide +kernel
theorem dX9_always_24 : decode cX9_always 24 = .ok (.ireturn, 1) := by decide +kernel
set_option maxHeartbeats 4000000 in
set_option maxRecDepth 100000 in
theorem k_X9_always (l : Launch) (D : va_G) (K : Nat → ClassId) (ad : Nat → Nat) (p1 : Int32) : Met l yX9_always (wM yX9_always cX9_always 2 (some .int)) (rmD 1) (va_Pc [.ref (ad 0), .int p1] (wPre D K ad (yG ad K) 21 yv0 ya0 yl0)) (va_Qi (fun r _ => r = (-2)) (wB D ad (yG ad K) 21) (inW ad 21)) 0 0 (inW ad 21) := by
  refine x_met (by decide) (Nat.le_of_ble_eq_true rfl) ?_
  intro p e s m below meth c ls hE hr hlo hnm hB hl
  have hE : CallFix p m c cX9_always 2 s _ tbG "TaleCourtModel" := hE
  obtain ⟨hP, hK, hN⟩ := hB
  have hS : va_S (inW ad 21) s.heap s.heap [] := va_S.rf
  have hl : lv_has ls 2 [(0, .ref (ad 0)), (1, .int p1)] := hl
  refine lv_aload_n hE.1 hE.2.1 dX9_always_0 rfl (lv_at hl 0 rfl) ?_
  refine lv_iconst (v := 0) hE.1 hE.2.1 dX9_always_1 (by decide) ?_
  refine x_put hE hK hN hP hS 0 (by decide) (yG_9 rfl) rfl hin9 tyX9 tyX9_ok nmX9 0 (by decide) mw_1334 rfl rfl rfl (Nat.le_of_ble_eq_true rfl) (yG_9 rfl) dX9_always_2 (fun v1 H locs hv hP hS => ?_)
  obtain rfl := hv.trans (up_same (by decide))
  refine lv_aload_n hE.1 hE.2.1 dX9_always_5 rfl (lv_at hl 0 rfl) ?_
  refine x_vp (nn := 0) (As := []) (rest := []) hE (k_X9_isCourt l D K ad ) wPre_blind (wPre_now hK hN hP) (x_recv hK hP 0 (by decide) (yG_9 rfl) rfl) rfl mw_1718 mw_1720 mw_79 mw_123 mw_1721 (by decide +kernel) ⟨by decide, by decide⟩ hl.1 rfl (by decide) ⟨Nat.zero_le _, Nat.zero_le _⟩ dX9_always_6 (fun r hr => ?_)
  subst hr
  refine lv_if_eq (tgt := 22) hE.1 hE.2.1 dX9_always_9 (by decide) (fun _ => ?_) (fun h => absurd (by decide) h)
  refine lv_bipush (v := (-2)) hE.1 hE.2.1 dX9_always_22 (by decide) ?_
  exact x_wi hE hr hlo hP hS rfl rfl dX9_always_24

theorem dX9_wins_0 : decode cX9_wins 0 = .ok (.aload_n 0, 1) := by decide +kernel
theorem dX9_wins_1 : decode cX9_wins 1 = .ok (.iconst 0, 1) := by decide +kernel
theorem dX9_wins_2 : decode cX9_wins 2 = .ok (.putfield 81, 3) := by decide +kernel
theorem dX9_wins_5 : decode cX9_wins 5 = .ok (.aload_n 0, 1) := by decide +kernel
theorem dX9_wins_6 : decode cX9_wins 6 = .ok (.invokevirtual 400, 3) := by decide +kernel
theorem dX9_wins_9 : decode cX9_wins 9 = .ok (.istore_n 1, 1) := by decide +kernel
theorem dX9_wins_10 : decode cX9_wins 10 = .ok (.iload_n 1, 1) := by decide +kernel
theorem dX9_wins_11 : decode cX9_wins 11 = .ok (.ifCond .eq 7, 3) := by decide +kernel
theorem dX9_wins_14 : decode cX9_wins 14 = .ok (.iload_n 1, 1) := by decide +kernel
theorem dX9_wins_15 : decode cX9_wins 15 = .ok (.goto 17, 3) := by decide +kernel
theorem dX9_wins_32 : decode cX9_wins 32 = .ok (.ireturn, 1) := by decide +kernel
set_option maxHeartbeats 4000000 in
set_option maxRecDepth 100000 in
theorem k_X9_wins (l : Launch) (D : va_G) (K : Nat → ClassId) (ad : Nat → Nat) : Met l yX9_wins (wM yX9_wins cX9_wins 2 (some .int)) (rmD 2) (va_Pc [.ref (ad 0)] (wPre D K ad (yG ad K) 21 yv0 ya0 yl0)) (va_Qi (fun r _ => r = (-2)) (wB D ad (yG ad K) 21) (inW ad 21)) 0 0 (inW ad 21) := by
  refine x_met (by decide) (Nat.le_of_ble_eq_true rfl) ?_
  intro p e s m below meth c ls hE hr hlo hnm hB hl
  have hE : CallFix p m c cX9_wins 2 s _ tbG "TaleCourtModel" := hE
  obtain ⟨hP, hK, hN⟩ := hB
  have hS : va_S (inW ad 21) s.heap s.heap [] := va_S.rf
  have hl : lv_has ls 2 [(0, .ref (ad 0))] := hl
  refine lv_aload_n hE.1 hE.2.1 dX9_wins_0 rfl (lv_at hl 0 rfl) ?_
  refine lv_iconst (v := 0) hE.1 hE.2.1 dX9_wins_1 (by decide) ?_
  refine x_put hE hK hN hP hS 0 (by decide) (yG_9 rfl) rfl hin9 tyX9 tyX9_ok nmX9 0 (by decide) mw_1334 rfl rfl rfl (Nat.le_of_ble_eq_true rfl) (yG_9 rfl) dX9_wins_2 (fun v1 H locs hv hP hS => ?_)
  obtain rfl := hv.trans (up_same (by decide))
  refine lv_aload_n hE.1 hE.2.1 dX9_wins_5 rfl (lv_at hl 0 rfl) ?_
  refine x_vp (nn := 0) (As := []) (rest := []) hE (k_X9_whyNoGame l D K ad ) wPre_blind (wPre_now hK hN hP) (x_recv hK hP 0 (by decide) (yG_9 rfl) rfl) rfl mw_1879 mw_1881 mw_94 mw_123 mw_1882 (by decide +kernel) ⟨by decide, by decide⟩ hl.1 rfl (by decide) ⟨Nat.zero_le _, Nat.zero_le _⟩ dX9_wins_6 (fun r hr => ?_)
  subst hr
  refine lv_istore_n (lv' := [(1, .int (-2)), (0, .ref (ad 0))]) hE.1 hE.2.1 dX9_wins_9 rfl hl (by decide) rfl (fun ls hl => ?_)
  refine lv_iload_n hE.1 hE.2.1 dX9_wins_10 rfl (lv_at hl 0 rfl) ?_
  refine lv_if_eq (tgt := 18) hE.1 hE.2.1 dX9_wins_11 (by decide) (fun h => absurd h (by decide)) (fun _ => ?_)
  refine lv_iload_n hE.1 hE.2.1 dX9_wins_14 rfl (lv_at hl 0 rfl) ?_
  refine lv_goto (tgt := 32) hE.1 hE.2.1 dX9_wins_15 (by decide) ?_
  exact x_wi hE hr hlo hP hS rfl rfl dX9_wins_32

theorem dX9_move_0 : decode cX9_move 0 = .ok (.aload_n 0, 1) := by decide +kernel
theorem dX9_move_1 : decode cX9_move 1 = .ok (.iconst 0, 1) := by decide +kernel
theorem dX9_move_2 : decode cX9_move 2 = .ok (.putfield 81, 3) := by decide +kernel
theorem dX9_move_5 : decode cX9_move 5 = .ok (.aload_n 0, 1) := by decide +kernel
theorem dX9_move_6 : decode cX9_move 6 = .ok (.invokevirtual 400, 3) := by decide +kernel
theorem dX9_move_9 : decode cX9_move 9 = .ok (.istore_n 1, 1) := by decide +kernel
theorem dX9_move_10 : decode cX9_move 10 = .ok (.iload_n 1, 1) := by decide +kernel
theorem dX9_move_11 : decode cX9_move 11 = .ok (.ifCond .eq 5, 3) := by decide +kernel
theorem dX9_move_14 : decode cX9_move 14 = .ok (.iload_n 1, 1) := by decide +kernel
theorem dX9_move_15 : decode cX9_move 15 = .ok (.ireturn, 1) := by decide +kernel
set_option maxHeartbeats 4000000 in
set_option maxRecDepth 100000 in
theorem k_X9_move (l : Launch) (D : va_G) (K : Nat → ClassId) (ad : Nat → Nat) : Met l yX9_move (wM yX9_move cX9_move 3 (some .int)) (rmD 2) (va_Pc [.ref (ad 0)] (wPre D K ad (yG ad K) 21 yv0 ya0 yl0)) (va_Qi (fun r _ => r = (-2)) (wB D ad (yG ad K) 21) (inW ad 21)) 0 0 (inW ad 21) := by
  refine x_met (by decide) (Nat.le_of_ble_eq_true rfl) ?_
  intro p e s m below meth c ls hE hr hlo hnm hB hl
  have hE : CallFix p m c cX9_move 3 s _ tbG "TaleCourtModel" := hE
  obtain ⟨hP, hK, hN⟩ := hB
  have hS : va_S (inW ad 21) s.heap s.heap [] := va_S.rf
  have hl : lv_has ls 3 [(0, .ref (ad 0))] := hl
  refine lv_aload_n hE.1 hE.2.1 dX9_move_0 rfl (lv_at hl 0 rfl) ?_
  refine lv_iconst (v := 0) hE.1 hE.2.1 dX9_move_1 (by decide) ?_
  refine x_put hE hK hN hP hS 0 (by decide) (yG_9 rfl) rfl hin9 tyX9 tyX9_ok nmX9 0 (by decide) mw_1334 rfl rfl rfl (Nat.le_of_ble_eq_true rfl) (yG_9 rfl) dX9_move_2 (fun v1 H locs hv hP hS => ?_)
  obtain rfl := hv.trans (up_same (by decide))
  refine lv_aload_n hE.1 hE.2.1 dX9_move_5 rfl (lv_at hl 0 rfl) ?_
  refine x_vp (nn := 0) (As := []) (rest := []) hE (k_X9_whyNoGame l D K ad ) wPre_blind (wPre_now hK hN hP) (x_recv hK hP 0 (by decide) (yG_9 rfl) rfl) rfl mw_1879 mw_1881 mw_94 mw_123 mw_1882 (by decide +kernel) ⟨by decide, by decide⟩ hl.1 rfl (by decide) ⟨Nat.zero_le _, Nat.zero_le _⟩ dX9_move_6 (fun r hr => ?_)
  subst hr
  refine lv_istore_n (lv' := [(1, .int (-2)), (0, .ref (ad 0))]) hE.1 hE.2.1 dX9_move_9 rfl hl (by decide) rfl (fun ls hl => ?_)
  refine lv_iload_n hE.1 hE.2.1 dX9_move_10 rfl (lv_at hl 0 rfl) ?_
  refine lv_if_eq (tgt := 16) hE.1 hE.2.1 dX9_move_11 (by decide) (fun h => absurd h (by decide)) (fun _ => ?_)
  refine lv_iload_n hE.1 hE.2.1 dX9_move_14 rfl (lv_at hl 0 rfl) ?_
  exact x_wi hE hr hlo hP hS rfl rfl dX9_move_15

theorem dX9_lasts_0 : decode cX9_lasts 0 = .ok (.aload_n 0, 1) := by decide +kernel
theorem dX9_lasts_1 : decode cX9_lasts 1 = .ok (.iconst 0, 1) := by decide +kernel
theorem dX9_lasts_2 : decode cX9_lasts 2 = .ok (.putfield 81, 3) := by decide +kernel
theorem dX9_lasts_5 : decode cX9_lasts 5 = .ok (.aload_n 0, 1) := by decide +kernel
theorem dX9_lasts_6 : decode cX9_lasts 6 = .ok (.invokevirtual 400, 3) := by decide +kernel
theorem dX9_lasts_9 : decode cX9_lasts 9 = .ok (.istore_n 1, 1) := by decide +kernel
theorem dX9_lasts_10 : decode cX9_lasts 10 = .ok (.iload_n 1, 1) := by decide +kernel
theorem dX9_lasts_11 : decode cX9_lasts 11 = .ok (.ifCond .eq 7, 3) := by decide +kernel
theorem dX9_lasts_14 : decode cX9_lasts 14 = .ok (.iload_n 1, 1) := by decide +kernel
theorem dX9_lasts_15 : decode cX9_lasts 15 = .ok (.goto 12, 3) := by decide +kernel
theorem dX9_lasts_27 : decode cX9_lasts 27 = .ok (.ireturn, 1) := by decide +kernel
set_option maxHeartbeats 4000000 in
set_option maxRecDepth 100000 in
theorem k_X9_lasts (l : Launch) (D : va_G) (K : Nat → ClassId) (ad : Nat → Nat) : Met l yX9_lasts (wM yX9_lasts cX9_lasts 2 (some .int)) (rmD 2) (va_Pc [.ref (ad 0)] (wPre D K ad (yG ad K) 21 yv0 ya0 yl0)) (va_Qi (fun r _ => r = (-2)) (wB D ad (yG ad K) 21) (inW ad 21)) 0 0 (inW ad 21) := by
  refine x_met (by decide) (Nat.le_of_ble_eq_true rfl) ?_
  intro p e s m below meth c ls hE hr hlo hnm hB hl
  have hE : CallFix p m c cX9_lasts 2 s _ tbG "TaleCourtModel" := hE
  obtain ⟨hP, hK, hN⟩ := hB
  have hS : va_S (inW ad 21) s.heap s.heap [] := va_S.rf
  have hl : lv_has ls 2 [(0, .ref (ad 0))] := hl
  refine lv_aload_n hE.1 hE.2.1 dX9_lasts_0 rfl (lv_at hl 0 rfl) ?_
  refine lv_iconst (v := 0) hE.1 hE.2.1 dX9_lasts_1 (by decide) ?_
  refine x_put hE hK hN hP hS 0 (by decide) (yG_9 rfl) rfl hin9 tyX9 tyX9_ok nmX9 0 (by decide) mw_1334 rfl rfl rfl (Nat.le_of_ble_eq_true rfl) (yG_9 rfl) dX9_lasts_2 (fun v1 H locs hv hP hS => ?_)
  obtain rfl := hv.trans (up_same (by decide))
  refine lv_aload_n hE.1 hE.2.1 dX9_lasts_5 rfl (lv_at hl 0 rfl) ?_
  refine x_vp (nn := 0) (As := []) (rest := []) hE (k_X9_whyNoGame l D K ad ) wPre_blind (wPre_now hK hN hP) (x_recv hK hP 0 (by decide) (yG_9 rfl) rfl) rfl mw_1879 mw_1881 mw_94 mw_123 mw_1882 (by decide +kernel) ⟨by decide, by decide⟩ hl.1 rfl (by decide) ⟨Nat.zero_le _, Nat.zero_le _⟩ dX9_lasts_6 (fun r hr => ?_)
  subst hr
  refine lv_istore_n (lv' := [(1, .int (-2)), (0, .ref (ad 0))]) hE.1 hE.2.1 dX9_lasts_9 rfl hl (by decide) rfl (fun ls hl => ?_)
  refine lv_iload_n hE.1 hE.2.1 dX9_lasts_10 rfl (lv_at hl 0 rfl) ?_
  refine lv_if_eq (tgt := 18) hE.1 hE.2.1 dX9_lasts_11 (by decide) (fun h => absurd h (by decide)) (fun _ => ?_)
  refine lv_iload_n hE.1 hE.2.1 dX9_lasts_14 rfl (lv_at hl 0 rfl) ?_
  refine lv_goto (tgt := 27) hE.1 hE.2.1 dX9_lasts_15 (by decide) ?_
  exact x_wi hE hr hlo hP hS rfl rfl dX9_lasts_27

theorem dX9_good_0 : decode cX9_good 0 = .ok (.aload_n 0, 1) := by decide +kernel
theorem dX9_good_1 : decode cX9_good 1 = .ok (.iconst 0, 1) := by decide +kernel
theorem dX9_good_2 : decode cX9_good 2 = .ok (.putfield 81, 3) := by decide +kernel
theorem dX9_good_5 : decode cX9_good 5 = .ok (.aload_n 0, 1) := by decide +kernel
theorem dX9_good_6 : decode cX9_good 6 = .ok (.invokevirtual 400, 3) := by decide +kernel
theorem dX9_good_9 : decode cX9_good 9 = .ok (.istore_n 1, 1) := by decide +kernel
theorem dX9_good_10 : decode cX9_good 10 = .ok (.iload_n 1, 1) := by decide +kernel
theorem dX9_good_11 : decode cX9_good 11 = .ok (.ifCond .eq 5, 3) := by decide +kernel
theorem dX9_good_14 : decode cX9_good 14 = .ok (.iload_n 1, 1) := by decide +kernel
theorem dX9_good_15 : decode cX9_good 15 = .ok (.ireturn, 1) := by decide +kernel
set_option maxHeartbeats 4000000 in
set_option maxRecDepth 100000 in
theorem k_X9_good (l : Launch) (D : va_G) (K : Nat → ClassId) (ad : Nat → Nat) : Met l yX9_good (wM yX9_good cX9_good 4 (some .int)) (rmD 2) (va_Pc [.ref (ad 0)] (wPre D K ad (yG ad K) 21 yv0 ya0 yl0)) (va_Qi (fun r _ => r = (-2)) (wB D ad (yG ad K) 21) (inW ad 21)) 0 0 (inW ad 21) := by
  refine x_met (by decide) (Nat.le_of_ble_eq_true rfl) ?_
  intro p e s m below meth c ls hE hr hlo hnm hB hl
  have hE : CallFix p m c cX9_good 4 s _ tbG "TaleCourtModel" := hE
  obtain ⟨hP, hK, hN⟩ := hB
  have hS : va_S (inW ad 21) s.heap s.heap [] := va_S.rf
  have hl : lv_has ls 4 [(0, .ref (ad 0))] := hl
  refine lv_aload_n hE.1 hE.2.1 dX9_good_0 rfl (lv_at hl 0 rfl) ?_
  refine lv_iconst (v := 0) hE.1 hE.2.1 dX9_good_1 (by decide) ?_
  refine x_put hE hK hN hP hS 0 (by decide) (yG_9 rfl) rfl hin9 tyX9 tyX9_ok nmX9 0 (by decide) mw_1334 rfl rfl rfl (Nat.le_of_ble_eq_true rfl) (yG_9 rfl) dX9_good_2 (fun v1 H locs hv hP hS => ?_)
  obtain rfl := hv.trans (up_same (by decide))
  refine lv_aload_n hE.1 hE.2.1 dX9_good_5 rfl (lv_at hl 0 rfl) ?_
  refine x_vp (nn := 0) (As := []) (rest := []) hE (k_X9_whyNoGame l D K ad ) wPre_blind (wPre_now hK hN hP) (x_recv hK hP 0 (by decide) (yG_9 rfl) rfl) rfl mw_1879 mw_1881 mw_94 mw_123 mw_1882 (by decide +kernel) ⟨by decide, by decide⟩ hl.1 rfl (by decide) ⟨Nat.zero_le _, Nat.zero_le _⟩ dX9_good_6 (fun r hr => ?_)
  subst hr
  refine lv_istore_n (lv' := [(1, .int (-2)), (0, .ref (ad 0))]) hE.1 hE.2.1 dX9_good_9 rfl hl (by decide) rfl (fun ls hl => ?_)
  refine lv_iload_n hE.1 hE.2.1 dX9_good_10 rfl (lv_at hl 0 rfl) ?_
  refine lv_if_eq (tgt := 16) hE.1 hE.2.1 dX9_good_11 (by decide) (fun h => absurd h (by decide)) (fun _ => ?_)
  refine lv_iload_n hE.1 hE.2.1 dX9_good_14 rfl (lv_at hl 0 rfl) ?_
  exact x_wi hE hr hlo hP hS rfl rfl dX9_good_15

theorem dX9_kept_0 : decode cX9_kept 0 = .ok (.aload_n 0, 1) := by decide +kernel
theorem dX9_kept_1 : decode cX9_kept 1 = .ok (.iconst 0, 1) := by decide +kernel
theorem dX9_kept_2 : decode cX9_kept 2 = .ok (.putfield 81, 3) := by decide +kernel
theorem dX9_kept_5 : decode cX9_kept 5 = .ok (.aload_n 0, 1) := by decide +kernel
theorem dX9_kept_6 : decode cX9_kept 6 = .ok (.iload_n 1, 1) := by decide +kernel
theorem dX9_kept_7 : decode cX9_kept 7 = .ok (.i2l, 1) := by decide +kernel
theorem dX9_kept_8 : decode cX9_kept 8 = .ok (.invokevirtual 253, 3) := by decide +kernel
theorem dX9_kept_11 : decode cX9_kept 11 = .ok (.ifCond .eq 16, 3) := by decide +kernel
theorem dX9_kept_27 : decode cX9_kept 27 = .ok (.bipush (-2), 2) := by decide +kernel
theorem dX9_kept_29 : decode cX9_kept 29 = .ok (.ireturn, 1) := by decide +kernel
set_option maxHeartbeats 4000000 in
set_option maxRecDepth 100000 in
theorem k_X9_kept (l : Launch) (D : va_G) (K : Nat → ClassId) (ad : Nat → Nat) (p1 : Int32) (p2 : Int32) : Met l yX9_kept (wM yX9_kept cX9_kept 6 (some .int)) (rmD 2) (va_Pc [.ref (ad 0), .int p1, .int p2] (wPre D K ad (yG ad K) 21 yv0 ya0 yl0)) (va_Qi (fun r _ => r = (-2)) (wB D ad (yG ad K) 21) (inW ad 21)) 0 0 (inW ad 21) := by
  refine x_met (by decide) (Nat.le_of_ble_eq_true rfl) ?_
  intro p e s m below meth c ls hE hr hlo hnm hB hl
  have hE : CallFix p m c cX9_kept 6 s _ tbG "TaleCourtModel" := hE
  obtain ⟨hP, hK, hN⟩ := hB
  have hS : va_S (inW ad 21) s.heap s.heap [] := va_S.rf
  have hl : lv_has ls 6 [(0, .ref (ad 0)), (1, .int p1), (2, .int p2)] := hl
  refine lv_aload_n hE.1 hE.2.1 dX9_kept_0 rfl (lv_at hl 0 rfl) ?_
  refine lv_iconst (v := 0) hE.1 hE.2.1 dX9_kept_1 (by decide) ?_
  refine x_put hE hK hN hP hS 0 (by decide) (yG_9 rfl) rfl hin9 tyX9 tyX9_ok nmX9 0 (by decide) mw_1334 rfl rfl rfl (Nat.le_of_ble_eq_true rfl) (yG_9 rfl) dX9_kept_2 (fun v1 H locs hv hP hS => ?_)
  obtain rfl := hv.trans (up_same (by decide))
  refine lv_aload_n hE.1 hE.2.1 dX9_kept_5 rfl (lv_at hl 0 rfl) ?_
  refine lv_iload_n hE.1 hE.2.1 dX9_kept_6 rfl (lv_at hl 1 rfl) ?_
  refine lv_i2l (v := (p1.toInt64)) hE.1 hE.2.1 dX9_kept_7 rfl ?_
  refine x_vp (nn := 1) (As := [.long (p1.toInt64)]) (rest := []) hE (k_X9_isMotif l D K ad (p1.toInt64)) wPre_blind (wPre_now hK hN hP) (x_recv hK hP 0 (by decide) (yG_9 rfl) rfl) rfl mw_1662 mw_1664 mw_74 mw_123 mw_1665 (by decide +kernel) ⟨by decide, by decide⟩ hl.1 rfl (by decide) ⟨Nat.zero_le _, Nat.zero_le _⟩ dX9_kept_8 (fun r hr => ?_)
  subst hr
  refine lv_if_eq (tgt := 27) hE.1 hE.2.1 dX9_kept_11 (by decide) (fun _ => ?_) (fun h => absurd (by decide) h)
  refine lv_bipush (v := (-2)) hE.1 hE.2.1 dX9_kept_27 (by decide) ?_
  exact x_wi hE hr hlo hP hS rfl rfl dX9_kept_29

theorem dX9_trade_0 : decode cX9_trade 0 = .ok (.aload_n 0, 1) := by decide +kernel
theorem dX9_trade_1 : decode cX9_trade 1 = .ok (.iconst 0, 1) := by decide +kernel
theorem dX9_trade_2 : decode cX9_trade 2 = .ok (.putfield 81, 3) := by decide +kernel
theorem dX9_trade_5 : decode cX9_trade 5 = .ok (.aload_n 0, 1) := by decide +kernel
theorem dX9_trade_6 : decode cX9_trade 6 = .ok (.invokevirtual 400, 3) := by decide +kernel
theorem dX9_trade_9 : decode cX9_trade 9 = .ok (.istore_n 1, 1) := by decide +kernel
theorem dX9_trade_10 : decode cX9_trade 10 = .ok (.iload_n 1, 1) := by decide +kernel
theorem dX9_trade_11 : decode cX9_trade 11 = .ok (.ifCond .eq 5, 3) := by decide +kernel
theorem dX9_trade_14 : decode cX9_trade 14 = .ok (.iload_n 1, 1) := by decide +kernel
theorem dX9_trade_15 : decode cX9_trade 15 = .ok (.ireturn, 1) := by decide +kernel
set_option maxHeartbeats 4000000 in
set_option maxRecDepth 100000 in
theorem k_X9_trade (l : Launch) (D : va_G) (K : Nat → ClassId) (ad : Nat → Nat) : Met l yX9_trade (wM yX9_trade cX9_trade 5 (some .int)) (rmD 2) (va_Pc [.ref (ad 0)] (wPre D K ad (yG ad K) 21 yv0 ya0 yl0)) (va_Qi (fun r _ => r = (-2)) (wB D ad (yG ad K) 21) (inW ad 21)) 0 0 (inW ad 21) := by
  refine x_met (by decide) (Nat.le_of_ble_eq_true rfl) ?_
  intro p e s m below meth c ls hE hr hlo hnm hB hl
  have hE : CallFix p m c cX9_trade 5 s _ tbG "TaleCourtModel" := hE
  obtain ⟨hP, hK, hN⟩ := hB
  have hS : va_S (inW ad 21) s.heap s.heap [] := va_S.rf
  have hl : lv_has ls 5 [(0, .ref (ad 0))] := hl
  refine lv_aload_n hE.1 hE.2.1 dX9_trade_0 rfl (lv_at hl 0 rfl) ?_
  refine lv_iconst (v := 0) hE.1 hE.2.1 dX9_trade_1 (by decide) ?_
  refine x_put hE hK hN hP hS 0 (by decide) (yG_9 rfl) rfl hin9 tyX9 tyX9_ok nmX9 0 (by decide) mw_1334 rfl rfl rfl (Nat.le_of_ble_eq_true rfl) (yG_9 rfl) dX9_trade_2 (fun v1 H locs hv hP hS => ?_)
  obtain rfl := hv.trans (up_same (by decide))
  refine lv_aload_n hE.1 hE.2.1 dX9_trade_5 rfl (lv_at hl 0 rfl) ?_
  refine x_vp (nn := 0) (As := []) (rest := []) hE (k_X9_whyNoGame l D K ad ) wPre_blind (wPre_now hK hN hP) (x_recv hK hP 0 (by decide) (yG_9 rfl) rfl) rfl mw_1879 mw_1881 mw_94 mw_123 mw_1882 (by decide +kernel) ⟨by decide, by decide⟩ hl.1 rfl (by decide) ⟨Nat.zero_le _, Nat.zero_le _⟩ dX9_trade_6 (fun r hr => ?_)
  subst hr
  refine lv_istore_n (lv' := [(1, .int (-2)), (0, .ref (ad 0))]) hE.1 hE.2.1 dX9_trade_9 rfl hl (by decide) rfl (fun ls hl => ?_)
  refine lv_iload_n hE.1 hE.2.1 dX9_trade_10 rfl (lv_at hl 0 rfl) ?_
  refine lv_if_eq (tgt := 16) hE.1 hE.2.1 dX9_trade_11 (by decide) (fun h => absurd h (by decide)) (fun _ => ?_)
  refine lv_iload_n hE.1 hE.2.1 dX9_trade_14 rfl (lv_at hl 0 rfl) ?_
  exact x_wi hE hr hlo hP hS rfl rfl dX9_trade_15

theorem dX9_keeps_0 : decode cX9_keeps 0 = .ok (.aload_n 0, 1) := by decide +kernel
theorem dX9_keeps_1 : decode cX9_keeps 1 = .ok (.iconst 0, 1) := by decide +kernel
theorem dX9_keeps_2 : decode cX9_keeps 2 = .ok (.putfield 81, 3) := by decide +kernel
theorem dX9_keeps_5 : decode cX9_keeps 5 = .ok (.aload_n 0, 1) := by decide +kernel
theorem dX9_keeps_6 : decode cX9_keeps 6 = .ok (.iload_n 1, 1) := by decide +kernel
theorem dX9_keeps_7 : decode cX9_keeps 7 = .ok (.i2l, 1) := by decide +kernel
theorem dX9_keeps_8 : decode cX9_keeps 8 = .ok (.invokevirtual 253, 3) := by decide +kernel
theorem dX9_keeps_11 : decode cX9_keeps 11 = .ok (.ifCond .eq 16, 3) := by decide +kernel
theorem dX9_keeps_27 : decode cX9_keeps 27 = .ok (.bipush (-2), 2) := by decide +kernel
theorem dX9_keeps_29 : decode cX9_keeps 29 = .ok (.ireturn, 1) := by decide +kernel
set_option maxHeartbeats 4000000 in
set_option maxRecDepth 100000 in
theorem k_X9_keeps (l : Launch) (D : va_G) (K : Nat → ClassId) (ad : Nat → Nat) (p1 : Int32) (p2 : Int32) : Met l yX9_keeps (wM yX9_keeps cX9_keeps 4 (some .int)) (rmD 2) (va_Pc [.ref (ad 0), .int p1, .int p2] (wPre D K ad (yG ad K) 21 yv0 ya0 yl0)) (va_Qi (fun r _ => r = (-2)) (wB D ad (yG ad K) 21) (inW ad 21)) 0 0 (inW ad 21) := by
  refine x_met (by decide) (Nat.le_of_ble_eq_true rfl) ?_
  intro p e s m below meth c ls hE hr hlo hnm hB hl
  have hE : CallFix p m c cX9_keeps 4 s _ tbG "TaleCourtModel" := hE
  obtain ⟨hP, hK, hN⟩ := hB
  have hS : va_S (inW ad 21) s.heap s.heap [] := va_S.rf
  have hl : lv_has ls 4 [(0, .ref (ad 0)), (1, .int p1), (2, .int p2)] := hl
  refine lv_aload_n hE.1 hE.2.1 dX9_keeps_0 rfl (lv_at hl 0 rfl) ?_
  refine lv_iconst (v := 0) hE.1 hE.2.1 dX9_keeps_1 (by decide) ?_
  refine x_put hE hK hN hP hS 0 (by decide) (yG_9 rfl) rfl hin9 tyX9 tyX9_ok nmX9 0 (by decide) mw_1334 rfl rfl rfl (Nat.le_of_ble_eq_true rfl) (yG_9 rfl) dX9_keeps_2 (fun v1 H locs hv hP hS => ?_)
  obtain rfl := hv.trans (up_same (by decide))
  refine lv_aload_n hE.1 hE.2.1 dX9_keeps_5 rfl (lv_at hl 0 rfl) ?_
  refine lv_iload_n hE.1 hE.2.1 dX9_keeps_6 rfl (lv_at hl 1 rfl) ?_
  refine lv_i2l (v := (p1.toInt64)) hE.1 hE.2.1 dX9_keeps_7 rfl ?_
  refine x_vp (nn := 1) (As := [.long (p1.toInt64)]) (rest := []) hE (k_X9_isMotif l D K ad (p1.toInt64)) wPre_blind (wPre_now hK hN hP) (x_recv hK hP 0 (by decide) (yG_9 rfl) rfl) rfl mw_1662 mw_1664 mw_74 mw_123 mw_1665 (by decide +kernel) ⟨by decide, by decide⟩ hl.1 rfl (by decide) ⟨Nat.zero_le _, Nat.zero_le _⟩ dX9_keeps_8 (fun r hr => ?_)
  subst hr
  refine lv_if_eq (tgt := 27) hE.1 hE.2.1 dX9_keeps_11 (by decide) (fun _ => ?_) (fun h => absurd (by decide) h)
  refine lv_bipush (v := (-2)) hE.1 hE.2.1 dX9_keeps_27 (by decide) ?_
  exact x_wi hE hr hlo hP hS rfl rfl dX9_keeps_29

theorem dX9_forbid_0 : decode cX9_forbid 0 = .ok (.aload_n 0, 1) := by decide +kernel
theorem dX9_forbid_1 : decode cX9_forbid 1 = .ok (.iconst 0, 1) := by decide +kernel
theorem dX9_forbid_2 : decode cX9_forbid 2 = .ok (.putfield 81, 3) := by decide +kernel
theorem dX9_forbid_5 : decode cX9_forbid 5 = .ok (.aload_n 0, 1) := by decide +kernel
theorem dX9_forbid_6 : decode cX9_forbid 6 = .ok (.iload_n 1, 1) := by decide +kernel
theorem dX9_forbid_7 : decode cX9_forbid 7 = .ok (.i2l, 1) := by decide +kernel
theorem dX9_forbid_8 : decode cX9_forbid 8 = .ok (.invokevirtual 253, 3) := by decide +kernel
theorem dX9_forbid_11 : decode cX9_forbid 11 = .ok (.ifCond .eq 13, 3) := by decide +kernel
theorem dX9_forbid_24 : decode cX9_forbid 24 = .ok (.bipush (-2), 2) := by decide +kernel
theorem dX9_forbid_26 : decode cX9_forbid 26 = .ok (.ireturn, 1) := by decide +kernel
set_option maxHeartbeats 4000000 in
set_option maxRecDepth 100000 in
theorem k_X9_forbid (l : Launch) (D : va_G) (K : Nat → ClassId) (ad : Nat → Nat) (p1 : Int32) (p2 : Int32) : Met l yX9_forbid (wM yX9_forbid cX9_forbid 4 (some .int)) (rmD 2) (va_Pc [.ref (ad 0), .int p1, .int p2] (wPre D K ad (yG ad K) 21 yv0 ya0 yl0)) (va_Qi (fun r _ => r = (-2)) (wB D ad (yG ad K) 21) (inW ad 21)) 0 0 (inW ad 21) := by
  refine x_met (by decide) (Nat.le_of_ble_eq_true rfl) ?_
  intro p e s m below meth c ls hE hr hlo hnm hB hl
  have hE : CallFix p m c cX9_forbid 4 s _ tbG "TaleCourtModel" := hE
  obtain ⟨hP, hK, hN⟩ := hB
  have hS : va_S (inW ad 21) s.heap s.heap [] := va_S.rf
  have hl : lv_has ls 4 [(0, .ref (ad 0)), (1, .int p1), (2, .int p2)] := hl
  refine lv_aload_n hE.1 hE.2.1 dX9_forbid_0 rfl (lv_at hl 0 rfl) ?_
  refine lv_iconst (v := 0) hE.1 hE.2.1 dX9_forbid_1 (by decide) ?_
  refine x_put hE hK hN hP hS 0 (by decide) (yG_9 rfl) rfl hin9 tyX9 tyX9_ok nmX9 0 (by decide) mw_1334 rfl rfl rfl (Nat.le_of_ble_eq_true rfl) (yG_9 rfl) dX9_forbid_2 (fun v1 H locs hv hP hS => ?_)
  obtain rfl := hv.trans (up_same (by decide))
  refine lv_aload_n hE.1 hE.2.1 dX9_forbid_5 rfl (lv_at hl 0 rfl) ?_
  refine lv_iload_n hE.1 hE.2.1 dX9_forbid_6 rfl (lv_at hl 1 rfl) ?_
  refine lv_i2l (v := (p1.toInt64)) hE.1 hE.2.1 dX9_forbid_7 rfl ?_
  refine x_vp (nn := 1) (As := [.long (p1.toInt64)]) (rest := []) hE (k_X9_isMotif l D K ad (p1.toInt64)) wPre_blind (wPre_now hK hN hP) (x_recv hK hP 0 (by decide) (yG_9 rfl) rfl) rfl mw_1662 mw_1664 mw_74 mw_123 mw_1665 (by decide +kernel) ⟨by decide, by decide⟩ hl.1 rfl (by decide) ⟨Nat.zero_le _, Nat.zero_le _⟩ dX9_forbid_8 (fun r hr => ?_)
  subst hr
  refine lv_if_eq (tgt := 24) hE.1 hE.2.1 dX9_forbid_11 (by decide) (fun _ => ?_) (fun h => absurd (by decide) h)
  refine lv_bipush (v := (-2)) hE.1 hE.2.1 dX9_forbid_24 (by decide) ?_
  exact x_wi hE hr hlo hP hS rfl rfl dX9_forbid_26

theorem dX9_around_0 : decode cX9_around 0 = .ok (.aload_n 0, 1) := by decide +kernel
theorem dX9_around_1 : decode cX9_around 1 = .ok (.iconst 0, 1) := by decide +kernel
theorem dX9_around_2 : decode cX9_around 2 = .ok (.putfield 81, 3) := by decide +kernel
theorem dX9_around_5 : decode cX9_around 5 = .ok (.aload_n 0, 1) := by decide +kernel
theorem dX9_around_6 : decode cX9_around 6 = .ok (.iload_n 1, 1) := by decide +kernel
theorem dX9_around_7 : decode cX9_around 7 = .ok (.i2l, 1) := by decide +kernel
theorem dX9_around_8 : decode cX9_around 8 = .ok (.invokevirtual 253, 3) := by decide +kernel
theorem dX9_around_11 : decode cX9_around 11 = .ok (.ifCond .ne 6, 3) := by decide +kernel
theorem dX9_around_14 : decode cX9_around 14 = .ok (.bipush (-2), 2) := by decide +kernel
theorem dX9_around_16 : decode cX9_around 16 = .ok (.ireturn, 1) := by decide +kernel
set_option maxHeartbeats 4000000 in
set_option maxRecDepth 100000 in
theorem k_X9_around (l : Launch) (D : va_G) (K : Nat → ClassId) (ad : Nat → Nat) (p1 : Int32) : Met l yX9_around (wM yX9_around cX9_around 2 (some .int)) (rmD 2) (va_Pc [.ref (ad 0), .int p1] (wPre D K ad (yG ad K) 21 yv0 ya0 yl0)) (va_Qi (fun r _ => r = (-2)) (wB D ad (yG ad K) 21) (inW ad 21)) 0 0 (inW ad 21) := by
  refine x_met (by decide) (Nat.le_of_ble_eq_true rfl) ?_
  intro p e s m below meth c ls hE hr hlo hnm hB hl
  have hE : CallFix p m c cX9_around 2 s _ tbG "TaleCourtModel" := hE
  obtain ⟨hP, hK, hN⟩ := hB
  have hS : va_S (inW ad 21) s.heap s.heap [] := va_S.rf
  have hl : lv_has ls 2 [(0, .ref (ad 0)), (1, .int p1)] := hl
  refine lv_aload_n hE.1 hE.2.1 dX9_around_0 rfl (lv_at hl 0 rfl) ?_
  refine lv_iconst (v := 0) hE.1 hE.2.1 dX9_around_1 (by decide) ?_
  refine x_put hE hK hN hP hS 0 (by decide) (yG_9 rfl) rfl hin9 tyX9 tyX9_ok nmX9 0 (by decide) mw_1334 rfl rfl rfl (Nat.le_of_ble_eq_true rfl) (yG_9 rfl) dX9_around_2 (fun v1 H locs hv hP hS => ?_)
  obtain rfl := hv.trans (up_same (by decide))
  refine lv_aload_n hE.1 hE.2.1 dX9_around_5 rfl (lv_at hl 0 rfl) ?_
  refine lv_iload_n hE.1 hE.2.1 dX9_around_6 rfl (lv_at hl 1 rfl) ?_
  refine lv_i2l (v := (p1.toInt64)) hE.1 hE.2.1 dX9_around_7 rfl ?_
  refine x_vp (nn := 1) (As := [.long (p1.toInt64)]) (rest := []) hE (k_X9_isMotif l D K ad (p1.toInt64)) wPre_blind (wPre_now hK hN hP) (x_recv hK hP 0 (by decide) (yG_9 rfl) rfl) rfl mw_1662 mw_1664 mw_74 mw_123 mw_1665 (by decide +kernel) ⟨by decide, by decide⟩ hl.1 rfl (by decide) ⟨Nat.zero_le _, Nat.zero_le _⟩ dX9_around_8 (fun r hr => ?_)
  subst hr
  refine lv_if_ne (tgt := 17) hE.1 hE.2.1 dX9_around_11 (by decide) (fun h => absurd (by decide) h) (fun _ => ?_)
  refine lv_bipush (v := (-2)) hE.1 hE.2.1 dX9_around_14 (by decide) ?_
  exact x_wi hE hr hlo hP hS rfl rfl dX9_around_16

theorem dX9_blunder_0 : decode cX9_blunder 0 = .ok (.aload_n 0, 1) := by decide +kernel
theorem dX9_blunder_1 : decode cX9_blunder 1 = .ok (.iconst 0, 1) := by decide +kernel
theorem dX9_blunder_2 : decode cX9_blunder 2 = .ok (.putfield 81, 3) := by decide +kernel
theorem dX9_blunder_5 : decode cX9_blunder 5 = .ok (.aload_n 0, 1) := by decide +kernel
theorem dX9_blunder_6 : decode cX9_blunder 6 = .ok (.invokevirtual 400, 3) := by decide +kernel
theorem dX9_blunder_9 : decode cX9_blunder 9 = .ok (.istore_n 1, 1) := by decide +kernel
theorem dX9_blunder_10 : decode cX9_blunder 10 = .ok (.iload_n 1, 1) := by decide +kernel
theorem dX9_blunder_11 : decode cX9_blunder 11 = .ok (.ifCond .eq 5, 3) := by decide +kernel
theorem dX9_blunder_14 : decode cX9_blunder 14 = .ok (.iload_n 1, 1) := by decide +kernel
theorem dX9_blunder_15 : decode cX9_blunder 15 = .ok (.ireturn, 1) := by decide +kernel
set_option maxHeartbeats 4000000 in
set_option maxRecDepth 100000 in
theorem k_X9_blunder (l : Launch) (D : va_G) (K : Nat → ClassId) (ad : Nat → Nat) : Met l yX9_blunder (wM yX9_blunder cX9_blunder 6 (some .int)) (rmD 2) (va_Pc [.ref (ad 0)] (wPre D K ad (yG ad K) 21 yv0 ya0 yl0)) (va_Qi (fun r _ => r = (-2)) (wB D ad (yG ad K) 21) (inW ad 21)) 0 0 (inW ad 21) := by
  refine x_met (by decide) (Nat.le_of_ble_eq_true rfl) ?_
  intro p e s m below meth c ls hE hr hlo hnm hB hl
  have hE : CallFix p m c cX9_blunder 6 s _ tbG "TaleCourtModel" := hE
  obtain ⟨hP, hK, hN⟩ := hB
  have hS : va_S (inW ad 21) s.heap s.heap [] := va_S.rf
  have hl : lv_has ls 6 [(0, .ref (ad 0))] := hl
  refine lv_aload_n hE.1 hE.2.1 dX9_blunder_0 rfl (lv_at hl 0 rfl) ?_
  refine lv_iconst (v := 0) hE.1 hE.2.1 dX9_blunder_1 (by decide) ?_
  refine x_put hE hK hN hP hS 0 (by decide) (yG_9 rfl) rfl hin9 tyX9 tyX9_ok nmX9 0 (by decide) mw_1334 rfl rfl rfl (Nat.le_of_ble_eq_true rfl) (yG_9 rfl) dX9_blunder_2 (fun v1 H locs hv hP hS => ?_)
  obtain rfl := hv.trans (up_same (by decide))
  refine lv_aload_n hE.1 hE.2.1 dX9_blunder_5 rfl (lv_at hl 0 rfl) ?_
  refine x_vp (nn := 0) (As := []) (rest := []) hE (k_X9_whyNoGame l D K ad ) wPre_blind (wPre_now hK hN hP) (x_recv hK hP 0 (by decide) (yG_9 rfl) rfl) rfl mw_1879 mw_1881 mw_94 mw_123 mw_1882 (by decide +kernel) ⟨by decide, by decide⟩ hl.1 rfl (by decide) ⟨Nat.zero_le _, Nat.zero_le _⟩ dX9_blunder_6 (fun r hr => ?_)
  subst hr
  refine lv_istore_n (lv' := [(1, .int (-2)), (0, .ref (ad 0))]) hE.1 hE.2.1 dX9_blunder_9 rfl hl (by decide) rfl (fun ls hl => ?_)
  refine lv_iload_n hE.1 hE.2.1 dX9_blunder_10 rfl (lv_at hl 0 rfl) ?_
  refine lv_if_eq (tgt := 16) hE.1 hE.2.1 dX9_blunder_11 (by decide) (fun h => absurd h (by decide)) (fun _ => ?_)
  refine lv_iload_n hE.1 hE.2.1 dX9_blunder_14 rfl (lv_at hl 0 rfl) ?_
  exact x_wi hE hr hlo hP hS rfl rfl dX9_blunder_15

theorem dX9_lack_0 : decode cX9_lack 0 = .ok (.aload_n 0, 1) := by decide +kernel
theorem dX9_lack_1 : decode cX9_lack 1 = .ok (.iconst 0, 1) := by decide +kernel
theorem dX9_lack_2 : decode cX9_lack 2 = .ok (.putfield 81, 3) := by decide +kernel
theorem dX9_lack_5 : decode cX9_lack 5 = .ok (.aload_n 0, 1) := by decide +kernel
theorem dX9_lack_6 : decode cX9_lack 6 = .ok (.iload_n 1, 1) := by decide +kernel
theorem dX9_lack_7 : decode cX9_lack 7 = .ok (.i2l, 1) := by decide +kernel
theorem dX9_lack_8 : decode cX9_lack 8 = .ok (.invokevirtual 253, 3) := by decide +kernel
theorem dX9_lack_11 : decode cX9_lack 11 = .ok (.ifCond .eq 16, 3) := by decide +kernel
theorem dX9_lack_27 : decode cX9_lack 27 = .ok (.bipush (-2), 2) := by decide +kernel
theorem dX9_lack_29 : decode cX9_lack 29 = .ok (.ireturn, 1) := by decide +kernel
set_option maxHeartbeats 4000000 in
set_option maxRecDepth 100000 in
theorem k_X9_lack (l : Launch) (D : va_G) (K : Nat → ClassId) (ad : Nat → Nat) (p1 : Int32) : Met l yX9_lack (wM yX9_lack cX9_lack 2 (some .int)) (rmD 2) (va_Pc [.ref (ad 0), .int p1] (wPre D K ad (yG ad K) 21 yv0 ya0 yl0)) (va_Qi (fun r _ => r = (-2)) (wB D ad (yG ad K) 21) (inW ad 21)) 0 0 (inW ad 21) := by
  refine x_met (by decide) (Nat.le_of_ble_eq_true rfl) ?_
  intro p e s m below meth c ls hE hr hlo hnm hB hl
  have hE : CallFix p m c cX9_lack 2 s _ tbG "TaleCourtModel" := hE
  obtain ⟨hP, hK, hN⟩ := hB
  have hS : va_S (inW ad 21) s.heap s.heap [] := va_S.rf
  have hl : lv_has ls 2 [(0, .ref (ad 0)), (1, .int p1)] := hl
  refine lv_aload_n hE.1 hE.2.1 dX9_lack_0 rfl (lv_at hl 0 rfl) ?_
  refine lv_iconst (v := 0) hE.1 hE.2.1 dX9_lack_1 (by decide) ?_
  refine x_put hE hK hN hP hS 0 (by decide) (yG_9 rfl) rfl hin9 tyX9 tyX9_ok nmX9 0 (by decide) mw_1334 rfl rfl rfl (Nat.le_of_ble_eq_true rfl) (yG_9 rfl) dX9_lack_2 (fun v1 H locs hv hP hS => ?_)
  obtain rfl := hv.trans (up_same (by decide))
  refine lv_aload_n hE.1 hE.2.1 dX9_lack_5 rfl (lv_at hl 0 rfl) ?_
  refine lv_iload_n hE.1 hE.2.1 dX9_lack_6 rfl (lv_at hl 1 rfl) ?_
  refine lv_i2l (v := (p1.toInt64)) hE.1 hE.2.1 dX9_lack_7 rfl ?_
  refine x_vp (nn := 1) (As := [.long (p1.toInt64)]) (rest := []) hE (k_X9_isMotif l D K ad (p1.toInt64)) wPre_blind (wPre_now hK hN hP) (x_recv hK hP 0 (by decide) (yG_9 rfl) rfl) rfl mw_1662 mw_1664 mw_74 mw_123 mw_1665 (by decide +kernel) ⟨by decide, by decide⟩ hl.1 rfl (by decide) ⟨Nat.zero_le _, Nat.zero_le _⟩ dX9_lack_8 (fun r hr => ?_)
  subst hr
  refine lv_if_eq (tgt := 27) hE.1 hE.2.1 dX9_lack_11 (by decide) (fun _ => ?_) (fun h => absurd (by decide) h)
  refine lv_bipush (v := (-2)) hE.1 hE.2.1 dX9_lack_27 (by decide) ?_
  exact x_wi hE hr hlo hP hS rfl rfl dX9_lack_29

theorem dX9_crux_0 : decode cX9_crux 0 = .ok (.aload_n 0, 1) := by decide +kernel
theorem dX9_crux_1 : decode cX9_crux 1 = .ok (.iconst 0, 1) := by decide +kernel
theorem dX9_crux_2 : decode cX9_crux 2 = .ok (.putfield 81, 3) := by decide +kernel
theorem dX9_crux_5 : decode cX9_crux 5 = .ok (.aload_n 0, 1) := by decide +kernel
theorem dX9_crux_6 : decode cX9_crux 6 = .ok (.invokevirtual 301, 3) := by decide +kernel
theorem dX9_crux_9 : decode cX9_crux 9 = .ok (.ifCond .ne 6, 3) := by decide +kernel
theorem dX9_crux_12 : decode cX9_crux 12 = .ok (.bipush (-2), 2) := by decide +kernel
theorem dX9_crux_14 : decode cX9_crux 14 = .ok (.ireturn, 1) := by decide +kernel
set_option maxHeartbeats 4000000 in
set_option maxRecDepth 100000 in
theorem k_X9_crux (l : Launch) (D : va_G) (K : Nat → ClassId) (ad : Nat → Nat) : Met l yX9_crux (wM yX9_crux cX9_crux 5 (some .int)) (rmD 1) (va_Pc [.ref (ad 0)] (wPre D K ad (yG ad K) 21 yv0 ya0 yl0)) (va_Qi (fun r _ => r = (-2)) (wB D ad (yG ad K) 21) (inW ad 21)) 0 0 (inW ad 21) := by
  refine x_met (by decide) (Nat.le_of_ble_eq_true rfl) ?_
  intro p e s m below meth c ls hE hr hlo hnm hB hl
  have hE : CallFix p m c cX9_crux 5 s _ tbG "TaleCourtModel" := hE
  obtain ⟨hP, hK, hN⟩ := hB
  have hS : va_S (inW ad 21) s.heap s.heap [] := va_S.rf
  have hl : lv_has ls 5 [(0, .ref (ad 0))] := hl
  refine lv_aload_n hE.1 hE.2.1 dX9_crux_0 rfl (lv_at hl 0 rfl) ?_
  refine lv_iconst (v := 0) hE.1 hE.2.1 dX9_crux_1 (by decide) ?_
  refine x_put hE hK hN hP hS 0 (by decide) (yG_9 rfl) rfl hin9 tyX9 tyX9_ok nmX9 0 (by decide) mw_1334 rfl rfl rfl (Nat.le_of_ble_eq_true rfl) (yG_9 rfl) dX9_crux_2 (fun v1 H locs hv hP hS => ?_)
  obtain rfl := hv.trans (up_same (by decide))
  refine lv_aload_n hE.1 hE.2.1 dX9_crux_5 rfl (lv_at hl 0 rfl) ?_
  refine x_vp (nn := 0) (As := []) (rest := []) hE (k_X9_isCourt l D K ad ) wPre_blind (wPre_now hK hN hP) (x_recv hK hP 0 (by decide) (yG_9 rfl) rfl) rfl mw_1718 mw_1720 mw_79 mw_123 mw_1721 (by decide +kernel) ⟨by decide, by decide⟩ hl.1 rfl (by decide) ⟨Nat.zero_le _, Nat.zero_le _⟩ dX9_crux_6 (fun r hr => ?_)
  subst hr
  refine lv_if_ne (tgt := 15) hE.1 hE.2.1 dX9_crux_9 (by decide) (fun h => absurd (by decide) h) (fun _ => ?_)
  refine lv_bipush (v := (-2)) hE.1 hE.2.1 dX9_crux_12 (by decide) ?_
  exact x_wi hE hr hlo hP hS rfl rfl dX9_crux_14

theorem dX9_cost_0 : decode cX9_cost 0 = .ok (.aload_n 0, 1) := by decide +kernel
theorem dX9_cost_1 : decode cX9_cost 1 = .ok (.iconst 0, 1) := by decide +kernel
theorem dX9_cost_2 : decode cX9_cost 2 = .ok (.putfield 81, 3) := by decide +kernel
theorem dX9_cost_5 : decode cX9_cost 5 = .ok (.aload_n 0, 1) := by decide +kernel
theorem dX9_cost_6 : decode cX9_cost 6 = .ok (.iload_n 1, 1) := by decide +kernel
theorem dX9_cost_7 : decode cX9_cost 7 = .ok (.i2l, 1) := by decide +kernel
theorem dX9_cost_8 : decode cX9_cost 8 = .ok (.invokevirtual 253, 3) := by decide +kernel
theorem dX9_cost_11 : decode cX9_cost 11 = .ok (.ifCond .ne 6, 3) := by decide +kernel
theorem dX9_cost_14 : decode cX9_cost 14 = .ok (.bipush (-2), 2) := by decide +kernel
theorem dX9_cost_16 : decode cX9_cost 16 = .ok (.ireturn, 1) := by decide +kernel
set_option maxHeartbeats 4000000 in
set_option maxRecDepth 100000 in
theorem k_X9_cost (l : Launch) (D : va_G) (K : Nat → ClassId) (ad : Nat → Nat) (p1 : Int32) : Met l yX9_cost (wM yX9_cost cX9_cost 3 (some .int)) (rmD 2) (va_Pc [.ref (ad 0), .int p1] (wPre D K ad (yG ad K) 21 yv0 ya0 yl0)) (va_Qi (fun r _ => r = (-2)) (wB D ad (yG ad K) 21) (inW ad 21)) 0 0 (inW ad 21) := by
  refine x_met (by decide) (Nat.le_of_ble_eq_true rfl) ?_
  intro p e s m below meth c ls hE hr hlo hnm hB hl
  have hE : CallFix p m c cX9_cost 3 s _ tbG "TaleCourtModel" := hE
  obtain ⟨hP, hK, hN⟩ := hB
  have hS : va_S (inW ad 21) s.heap s.heap [] := va_S.rf
  have hl : lv_has ls 3 [(0, .ref (ad 0)), (1, .int p1)] := hl
  refine lv_aload_n hE.1 hE.2.1 dX9_cost_0 rfl (lv_at hl 0 rfl) ?_
  refine lv_iconst (v := 0) hE.1 hE.2.1 dX9_cost_1 (by decide) ?_
  refine x_put hE hK hN hP hS 0 (by decide) (yG_9 rfl) rfl hin9 tyX9 tyX9_ok nmX9 0 (by decide) mw_1334 rfl rfl rfl (Nat.le_of_ble_eq_true rfl) (yG_9 rfl) dX9_cost_2 (fun v1 H locs hv hP hS => ?_)
  obtain rfl := hv.trans (up_same (by decide))
  refine lv_aload_n hE.1 hE.2.1 dX9_cost_5 rfl (lv_at hl 0 rfl) ?_
  refine lv_iload_n hE.1 hE.2.1 dX9_cost_6 rfl (lv_at hl 1 rfl) ?_
  refine lv_i2l (v := (p1.toInt64)) hE.1 hE.2.1 dX9_cost_7 rfl ?_
  refine x_vp (nn := 1) (As := [.long (p1.toInt64)]) (rest := []) hE (k_X9_isMotif l D K ad (p1.toInt64)) wPre_blind (wPre_now hK hN hP) (x_recv hK hP 0 (by decide) (yG_9 rfl) rfl) rfl mw_1662 mw_1664 mw_74 mw_123 mw_1665 (by decide +kernel) ⟨by decide, by decide⟩ hl.1 rfl (by decide) ⟨Nat.zero_le _, Nat.zero_le _⟩ dX9_cost_8 (fun r hr => ?_)
  subst hr
  refine lv_if_ne (tgt := 17) hE.1 hE.2.1 dX9_cost_11 (by decide) (fun h => absurd (by decide) h) (fun _ => ?_)
  refine lv_bipush (v := (-2)) hE.1 hE.2.1 dX9_cost_14 (by decide) ?_
  exact x_wi hE hr hlo hP hS rfl rfl dX9_cost_16

theorem dX9_judge_0 : decode cX9_judge 0 = .ok (.aload_n 0, 1) := by decide +kernel
theorem dX9_judge_1 : decode cX9_judge 1 = .ok (.iconst 0, 1) := by decide +kernel
theorem dX9_judge_2 : decode cX9_judge 2 = .ok (.putfield 81, 3) := by decide +kernel
theorem dX9_judge_5 : decode cX9_judge 5 = .ok (.aload_n 0, 1) := by decide +kernel
theorem dX9_judge_6 : decode cX9_judge 6 = .ok (.iload_n 1, 1) := by decide +kernel
theorem dX9_judge_7 : decode cX9_judge 7 = .ok (.invokevirtual 418, 3) := by decide +kernel
theorem dX9_judge_10 : decode cX9_judge 10 = .ok (.istore_n 2, 1) := by decide +kernel
theorem dX9_judge_11 : decode cX9_judge 11 = .ok (.iload_n 2, 1) := by decide +kernel
theorem dX9_judge_12 : decode cX9_judge 12 = .ok (.ifCond .eq 7, 3) := by decide +kernel
theorem dX9_judge_15 : decode cX9_judge 15 = .ok (.iload_n 2, 1) := by decide +kernel
theorem dX9_judge_16 : decode cX9_judge 16 = .ok (.goto 8, 3) := by decide +kernel
theorem dX9_judge_24 : decode cX9_judge 24 = .ok (.ireturn, 1) := by decide +kernel
set_option maxHeartbeats 4000000 in
set_option maxRecDepth 100000 in
theorem k_X9_judge (l : Launch) (D : va_G) (K : Nat → ClassId) (ad : Nat → Nat) (p1 : Int32) : Met l yX9_judge (wM yX9_judge cX9_judge 3 (some .int)) (rmD 3) (va_Pc [.ref (ad 0), .int p1] (wPre D K ad (yG ad K) 21 yv0 ya0 yl0)) (va_Qi (fun r _ => r = (-2)) (wB D ad (yG ad K) 21) (inW ad 21)) 0 0 (inW ad 21) := by
  refine x_met (by decide) (Nat.le_of_ble_eq_true rfl) ?_
  intro p e s m below meth c ls hE hr hlo hnm hB hl
  have hE : CallFix p m c cX9_judge 3 s _ tbG "TaleCourtModel" := hE
  obtain ⟨hP, hK, hN⟩ := hB
  have hS : va_S (inW ad 21) s.heap s.heap [] := va_S.rf
  have hl : lv_has ls 3 [(0, .ref (ad 0)), (1, .int p1)] := hl
  refine lv_aload_n hE.1 hE.2.1 dX9_judge_0 rfl (lv_at hl 0 rfl) ?_
  refine lv_iconst (v := 0) hE.1 hE.2.1 dX9_judge_1 (by decide) ?_
  refine x_put hE hK hN hP hS 0 (by decide) (yG_9 rfl) rfl hin9 tyX9 tyX9_ok nmX9 0 (by decide) mw_1334 rfl rfl rfl (Nat.le_of_ble_eq_true rfl) (yG_9 rfl) dX9_judge_2 (fun v1 H locs hv hP hS => ?_)
  obtain rfl := hv.trans (up_same (by decide))
  refine lv_aload_n hE.1 hE.2.1 dX9_judge_5 rfl (lv_at hl 0 rfl) ?_
  refine lv_iload_n hE.1 hE.2.1 dX9_judge_6 rfl (lv_at hl 1 rfl) ?_
  refine x_vp (nn := 1) (As := [.int p1]) (rest := []) hE (k_X9_whyNoRow l D K ad p1) wPre_blind (wPre_now hK hN hP) (x_recv hK hP 0 (by decide) (yG_9 rfl) rfl) rfl mw_1974 mw_1976 mw_104 mw_123 mw_1977 (by decide +kernel) ⟨by decide, by decide⟩ hl.1 rfl (by decide) ⟨Nat.zero_le _, Nat.zero_le _⟩ dX9_judge_7 (fun r hr => ?_)
  subst hr
  refine lv_istore_n (lv' := [(2, .int (-2)), (0, .ref (ad 0)), (1, .int p1)]) hE.1 hE.2.1 dX9_judge_10 rfl hl (by decide) rfl (fun ls hl => ?_)
  refine lv_iload_n hE.1 hE.2.1 dX9_judge_11 rfl (lv_at hl 0 rfl) ?_
  refine lv_if_eq (tgt := 19) hE.1 hE.2.1 dX9_judge_12 (by decide) (fun h => absurd h (by decide)) (fun _ => ?_)
  refine lv_iload_n hE.1 hE.2.1 dX9_judge_15 rfl (lv_at hl 0 rfl) ?_
  refine lv_goto (tgt := 24) hE.1 hE.2.1 dX9_judge_16 (by decide) ?_
  exact x_wi hE hr hlo hP hS rfl rfl dX9_judge_24

theorem dX9_verdict_0 : decode cX9_verdict 0 = .ok (.aload_n 0, 1) := by decide +kernel
theorem dX9_verdict_1 : decode cX9_verdict 1 = .ok (.iconst 0, 1) := by decide +kernel
theorem dX9_verdict_2 : decode cX9_verdict 2 = .ok (.putfield 81, 3) := by decide +kernel
theorem dX9_verdict_5 : decode cX9_verdict 5 = .ok (.aload_n 0, 1) := by decide +kernel
theorem dX9_verdict_6 : decode cX9_verdict 6 = .ok (.iload_n 1, 1) := by decide +kernel
theorem dX9_verdict_7 : decode cX9_verdict 7 = .ok (.invokevirtual 418, 3) := by decide +kernel
theorem dX9_verdict_10 : decode cX9_verdict 10 = .ok (.istore_n 2, 1) := by decide +kernel
theorem dX9_verdict_11 : decode cX9_verdict 11 = .ok (.iload_n 2, 1) := by decide +kernel
theorem dX9_verdict_12 : decode cX9_verdict 12 = .ok (.ifCond .eq 5, 3) := by decide +kernel
theorem dX9_verdict_15 : decode cX9_verdict 15 = .ok (.iload_n 2, 1) := by decide +kernel
theorem dX9_verdict_16 : decode cX9_verdict 16 = .ok (.ireturn, 1) := by decide +kernel
set_option maxHeartbeats 4000000 in
set_option maxRecDepth 100000 in
theorem k_X9_verdict (l : Launch) (D : va_G) (K : Nat → ClassId) (ad : Nat → Nat) (p1 : Int32) : Met l yX9_verdict (wM yX9_verdict cX9_verdict 3 (some .int)) (rmD 3) (va_Pc [.ref (ad 0), .int p1] (wPre D K ad (yG ad K) 21 yv0 ya0 yl0)) (va_Qi (fun r _ => r = (-2)) (wB D ad (yG ad K) 21) (inW ad 21)) 0 0 (inW ad 21) := by
  refine x_met (by decide) (Nat.le_of_ble_eq_true rfl) ?_
  intro p e s m below meth c ls hE hr hlo hnm hB hl
  have hE : CallFix p m c cX9_verdict 3 s _ tbG "TaleCourtModel" := hE
  obtain ⟨hP, hK, hN⟩ := hB
  have hS : va_S (inW ad 21) s.heap s.heap [] := va_S.rf
  have hl : lv_has ls 3 [(0, .ref (ad 0)), (1, .int p1)] := hl
  refine lv_aload_n hE.1 hE.2.1 dX9_verdict_0 rfl (lv_at hl 0 rfl) ?_
  refine lv_iconst (v := 0) hE.1 hE.2.1 dX9_verdict_1 (by decide) ?_
  refine x_put hE hK hN hP hS 0 (by decide) (yG_9 rfl) rfl hin9 tyX9 tyX9_ok nmX9 0 (by decide) mw_1334 rfl rfl rfl (Nat.le_of_ble_eq_true rfl) (yG_9 rfl) dX9_verdict_2 (fun v1 H locs hv hP hS => ?_)
  obtain rfl := hv.trans (up_same (by decide))
  refine lv_aload_n hE.1 hE.2.1 dX9_verdict_5 rfl (lv_at hl 0 rfl) ?_
  refine lv_iload_n hE.1 hE.2.1 dX9_verdict_6 rfl (lv_at hl 1 rfl) ?_
  refine x_vp (nn := 1) (As := [.int p1]) (rest := []) hE (k_X9_whyNoRow l D K ad p1) wPre_blind (wPre_now hK hN hP) (x_recv hK hP 0 (by decide) (yG_9 rfl) rfl) rfl mw_1974 mw_1976 mw_104 mw_123 mw_1977 (by decide +kernel) ⟨by decide, by decide⟩ hl.1 rfl (by decide) ⟨Nat.zero_le _, Nat.zero_le _⟩ dX9_verdict_7 (fun r hr => ?_)
  subst hr
  refine lv_istore_n (lv' := [(2, .int (-2)), (0, .ref (ad 0)), (1, .int p1)]) hE.1 hE.2.1 dX9_verdict_10 rfl hl (by decide) rfl (fun ls hl => ?_)
  refine lv_iload_n hE.1 hE.2.1 dX9_verdict_11 rfl (lv_at hl 0 rfl) ?_
  refine lv_if_eq (tgt := 17) hE.1 hE.2.1 dX9_verdict_12 (by decide) (fun h => absurd h (by decide)) (fun _ => ?_)
  refine lv_iload_n hE.1 hE.2.1 dX9_verdict_15 rfl (lv_at hl 0 rfl) ?_
  exact x_wi hE hr hlo hP hS rfl rfl dX9_verdict_16

theorem dX9_lies_0 : decode cX9_lies 0 = .ok (.aload_n 0, 1) := by decide +kernel
theorem dX9_lies_1 : decode cX9_lies 1 = .ok (.iconst 0, 1) := by decide +kernel
theorem dX9_lies_2 : decode cX9_lies 2 = .ok (.putfield 81, 3) := by decide +kernel
theorem dX9_lies_5 : decode cX9_lies 5 = .ok (.aload_n 0, 1) := by decide +kernel
theorem dX9_lies_6 : decode cX9_lies 6 = .ok (.iload_n 1, 1) := by decide +kernel
theorem dX9_lies_7 : decode cX9_lies 7 = .ok (.iconst 2, 1) := by decide +kernel
theorem dX9_lies_8 : decode cX9_lies 8 = .ok (.invokevirtual 427, 3) := by decide +kernel
theorem dX9_lies_11 : decode cX9_lies 11 = .ok (.istore_n 2, 1) := by decide +kernel
theorem dX9_lies_12 : decode cX9_lies 12 = .ok (.iload_n 2, 1) := by decide +kernel
theorem dX9_lies_13 : decode cX9_lies 13 = .ok (.ifCond .eq 5, 3) := by decide +kernel
theorem dX9_lies_16 : decode cX9_lies 16 = .ok (.iload_n 2, 1) := by decide +kernel
theorem dX9_lies_17 : decode cX9_lies 17 = .ok (.ireturn, 1) := by decide +kernel
set_option maxHeartbeats 4000000 in
set_option maxRecDepth 100000 in
theorem k_X9_lies (l : Launch) (D : va_G) (K : Nat → ClassId) (ad : Nat → Nat) (p1 : Int32) : Met l yX9_lies (wM yX9_lies cX9_lies 3 (some .int)) (rmD 4) (va_Pc [.ref (ad 0), .int p1] (wPre D K ad (yG ad K) 21 yv0 ya0 yl0)) (va_Qi (fun r _ => r = (-2)) (wB D ad (yG ad K) 21) (inW ad 21)) 0 0 (inW ad 21) := by
  refine x_met (by decide) (Nat.le_of_ble_eq_true rfl) ?_
  intro p e s m below meth c ls hE hr hlo hnm hB hl
  have hE : CallFix p m c cX9_lies 3 s _ tbG "TaleCourtModel" := hE
  obtain ⟨hP, hK, hN⟩ := hB
  have hS : va_S (inW ad 21) s.heap s.heap [] := va_S.rf
  have hl : lv_has ls 3 [(0, .ref (ad 0)), (1, .int p1)] := hl
  refine lv_aload_n hE.1 hE.2.1 dX9_lies_0 rfl (lv_at hl 0 rfl) ?_
  refine lv_iconst (v := 0) hE.1 hE.2.1 dX9_lies_1 (by decide) ?_
  refine x_put hE hK hN hP hS 0 (by decide) (yG_9 rfl) rfl hin9 tyX9 tyX9_ok nmX9 0 (by decide) mw_1334 rfl rfl rfl (Nat.le_of_ble_eq_true rfl) (yG_9 rfl) dX9_lies_2 (fun v1 H locs hv hP hS => ?_)
  obtain rfl := hv.trans (up_same (by decide))
  refine lv_aload_n hE.1 hE.2.1 dX9_lies_5 rfl (lv_at hl 0 rfl) ?_
  refine lv_iload_n hE.1 hE.2.1 dX9_lies_6 rfl (lv_at hl 1 rfl) ?_
  refine lv_iconst (v := 2) hE.1 hE.2.1 dX9_lies_7 (by decide) ?_
  refine x_vp (nn := 2) (As := [.int p1, .int 2]) (rest := []) hE (k_X9_whyNotTold l D K ad p1 2) wPre_blind (wPre_now hK hN hP) (x_recv hK hP 0 (by decide) (yG_9 rfl) rfl) rfl mw_1990 mw_1992 mw_106 mw_123 mw_1993 (by decide +kernel) ⟨by decide, by decide⟩ hl.1 rfl (by decide) ⟨Nat.zero_le _, Nat.zero_le _⟩ dX9_lies_8 (fun r hr => ?_)
  subst hr
  refine lv_istore_n (lv' := [(2, .int (-2)), (0, .ref (ad 0)), (1, .int p1)]) hE.1 hE.2.1 dX9_lies_11 rfl hl (by decide) rfl (fun ls hl => ?_)
  refine lv_iload_n hE.1 hE.2.1 dX9_lies_12 rfl (lv_at hl 0 rfl) ?_
  refine lv_if_eq (tgt := 18) hE.1 hE.2.1 dX9_lies_13 (by decide) (fun h => absurd h (by decide)) (fun _ => ?_)
  refine lv_iload_n hE.1 hE.2.1 dX9_lies_16 rfl (lv_at hl 0 rfl) ?_
  exact x_wi hE hr hlo hP hS rfl rfl dX9_lies_17

theorem dX9_orders_0 : decode cX9_orders 0 = .ok (.aload_n 0, 1) := by decide +kernel
theorem dX9_orders_1 : decode cX9_orders 1 = .ok (.iconst 0, 1) := by decide +kernel
theorem dX9_orders_2 : decode cX9_orders 2 = .ok (.putfield 81, 3) := by decide +kernel
theorem dX9_orders_5 : decode cX9_orders 5 = .ok (.aload_n 0, 1) := by decide +kernel
theorem dX9_orders_6 : decode cX9_orders 6 = .ok (.iload_n 1, 1) := by decide +kernel
theorem dX9_orders_7 : decode cX9_orders 7 = .ok (.iconst 2, 1) := by decide +kernel
theorem dX9_orders_8 : decode cX9_orders 8 = .ok (.invokevirtual 427, 3) := by decide +kernel
theorem dX9_orders_11 : decode cX9_orders 11 = .ok (.istore_n 2, 1) := by decide +kernel
theorem dX9_orders_12 : decode cX9_orders 12 = .ok (.iload_n 2, 1) := by decide +kernel
theorem dX9_orders_13 : decode cX9_orders 13 = .ok (.ifCond .eq 5, 3) := by decide +kernel
theorem dX9_orders_16 : decode cX9_orders 16 = .ok (.iload_n 2, 1) := by decide +kernel
theorem dX9_orders_17 : decode cX9_orders 17 = .ok (.ireturn, 1) := by decide +kernel
set_option maxHeartbeats 4000000 in
set_option maxRecDepth 100000 in
theorem k_X9_orders (l : Launch) (D : va_G) (K : Nat → ClassId) (ad : Nat → Nat) (p1 : Int32) : Met l yX9_orders (wM yX9_orders cX9_orders 3 (some .int)) (rmD 4) (va_Pc [.ref (ad 0), .int p1] (wPre D K ad (yG ad K) 21 yv0 ya0 yl0)) (va_Qi (fun r _ => r = (-2)) (wB D ad (yG ad K) 21) (inW ad 21)) 0 0 (inW ad 21) := by
  refine x_met (by decide) (Nat.le_of_ble_eq_true rfl) ?_
  intro p e s m below meth c ls hE hr hlo hnm hB hl
  have hE : CallFix p m c cX9_orders 3 s _ tbG "TaleCourtModel" := hE
  obtain ⟨hP, hK, hN⟩ := hB
  have hS : va_S (inW ad 21) s.heap s.heap [] := va_S.rf
  have hl : lv_has ls 3 [(0, .ref (ad 0)), (1, .int p1)] := hl
  refine lv_aload_n hE.1 hE.2.1 dX9_orders_0 rfl (lv_at hl 0 rfl) ?_
  refine lv_iconst (v := 0) hE.1 hE.2.1 dX9_orders_1 (by decide) ?_
  refine x_put hE hK hN hP hS 0 (by decide) (yG_9 rfl) rfl hin9 tyX9 tyX9_ok nmX9 0 (by decide) mw_1334 rfl rfl rfl (Nat.le_of_ble_eq_true rfl) (yG_9 rfl) dX9_orders_2 (fun v1 H locs hv hP hS => ?_)
  obtain rfl := hv.trans (up_same (by decide))
  refine lv_aload_n hE.1 hE.2.1 dX9_orders_5 rfl (lv_at hl 0 rfl) ?_
  refine lv_iload_n hE.1 hE.2.1 dX9_orders_6 rfl (lv_at hl 1 rfl) ?_
  refine lv_iconst (v := 2) hE.1 hE.2.1 dX9_orders_7 (by decide) ?_
  refine x_vp (nn := 2) (As := [.int p1, .int 2]) (rest := []) hE (k_X9_whyNotTold l D K ad p1 2) wPre_blind (wPre_now hK hN hP) (x_recv hK hP 0 (by decide) (yG_9 rfl) rfl) rfl mw_1990 mw_1992 mw_106 mw_123 mw_1993 (by decide +kernel) ⟨by decide, by decide⟩ hl.1 rfl (by decide) ⟨Nat.zero_le _, Nat.zero_le _⟩ dX9_orders_8 (fun r hr => ?_)
  subst hr
  refine lv_istore_n (lv' := [(2, .int (-2)), (0, .ref (ad 0)), (1, .int p1)]) hE.1 hE.2.1 dX9_orders_11 rfl hl (by decide) rfl (fun ls hl => ?_)
  refine lv_iload_n hE.1 hE.2.1 dX9_orders_12 rfl (lv_at hl 0 rfl) ?_
  refine lv_if_eq (tgt := 18) hE.1 hE.2.1 dX9_orders_13 (by decide) (fun h => absurd h (by decide)) (fun _ => ?_)
  refine lv_iload_n hE.1 hE.2.1 dX9_orders_16 rfl (lv_at hl 0 rfl) ?_
  exact x_wi hE hr hlo hP hS rfl rfl dX9_orders_17

theorem dX9_fits_0 : decode cX9_fits 0 = .ok (.aload_n 0, 1) := by decide +kernel
theorem dX9_fits_1 : decode cX9_fits 1 = .ok (.iconst 0, 1) := by decide +kernel
theorem dX9_fits_2 : decode cX9_fits 2 = .ok (.putfield 81, 3) := by decide +kernel
theorem dX9_fits_5 : decode cX9_fits 5 = .ok (.aload_n 0, 1) := by decide +kernel
theorem dX9_fits_6 : decode cX9_fits 6 = .ok (.iload_n 1, 1) := by decide +kernel
theorem dX9_fits_7 : decode cX9_fits 7 = .ok (.iconst 2, 1) := by decide +kernel
theorem dX9_fits_8 : decode cX9_fits 8 = .ok (.invokevirtual 427, 3) := by decide +kernel
theorem dX9_fits_11 : decode cX9_fits 11 = .ok (.istore_n 2, 1) := by decide +kernel
theorem dX9_fits_12 : decode cX9_fits 12 = .ok (.iload_n 2, 1) := by decide +kernel
theorem dX9_fits_13 : decode cX9_fits 13 = .ok (.ifCond .eq 5, 3) := by decide +kernel
theorem dX9_fits_16 : decode cX9_fits 16 = .ok (.iload_n 2, 1) := by decide +kernel
theorem dX9_fits_17 : decode cX9_fits 17 = .ok (.ireturn, 1) := by decide +kernel
set_option maxHeartbeats 4000000 in
set_option maxRecDepth 100000 in
theorem k_X9_fits (l : Launch) (D : va_G) (K : Nat → ClassId) (ad : Nat → Nat) (p1 : Int32) : Met l yX9_fits (wM yX9_fits cX9_fits 3 (some .int)) (rmD 4) (va_Pc [.ref (ad 0), .int p1] (wPre D K ad (yG ad K) 21 yv0 ya0 yl0)) (va_Qi (fun r _ => r = (-2)) (wB D ad (yG ad K) 21) (inW ad 21)) 0 0 (inW ad 21) := by
  refine x_met (by decide) (Nat.le_of_ble_eq_true rfl) ?_
  intro p e s m below meth c ls hE hr hlo hnm hB hl
  have hE : CallFix p m c cX9_fits 3 s _ tbG "TaleCourtModel" := hE
  obtain ⟨hP, hK, hN⟩ := hB
  have hS : va_S (inW ad 21) s.heap s.heap [] := va_S.rf
  have hl : lv_has ls 3 [(0, .ref (ad 0)), (1, .int p1)] := hl
  refine lv_aload_n hE.1 hE.2.1 dX9_fits_0 rfl (lv_at hl 0 rfl) ?_
  refine lv_iconst (v := 0) hE.1 hE.2.1 dX9_fits_1 (by decide) ?_
  refine x_put hE hK hN hP hS 0 (by decide) (yG_9 rfl) rfl hin9 tyX9 tyX9_ok nmX9 0 (by decide) mw_1334 rfl rfl rfl (Nat.le_of_ble_eq_true rfl) (yG_9 rfl) dX9_fits_2 (fun v1 H locs hv hP hS => ?_)
  obtain rfl := hv.trans (up_same (by decide))
  refine lv_aload_n hE.1 hE.2.1 dX9_fits_5 rfl (lv_at hl 0 rfl) ?_
  refine lv_iload_n hE.1 hE.2.1 dX9_fits_6 rfl (lv_at hl 1 rfl) ?_
  refine lv_iconst (v := 2) hE.1 hE.2.1 dX9_fits_7 (by decide) ?_
  refine x_vp (nn := 2) (As := [.int p1, .int 2]) (rest := []) hE (k_X9_whyNotTold l D K ad p1 2) wPre_blind (wPre_now hK hN hP) (x_recv hK hP 0 (by decide) (yG_9 rfl) rfl) rfl mw_1990 mw_1992 mw_106 mw_123 mw_1993 (by decide +kernel) ⟨by decide, by decide⟩ hl.1 rfl (by decide) ⟨Nat.zero_le _, Nat.zero_le _⟩ dX9_fits_8 (fun r hr => ?_)
  subst hr
  refine lv_istore_n (lv' := [(2, .int (-2)), (0, .ref (ad 0)), (1, .int p1)]) hE.1 hE.2.1 dX9_fits_11 rfl hl (by decide) rfl (fun ls hl => ?_)
  refine lv_iload_n hE.1 hE.2.1 dX9_fits_12 rfl (lv_at hl 0 rfl) ?_
  refine lv_if_eq (tgt := 18) hE.1 hE.2.1 dX9_fits_13 (by decide) (fun h => absurd h (by decide)) (fun _ => ?_)
  refine lv_iload_n hE.1 hE.2.1 dX9_fits_16 rfl (lv_at hl 0 rfl) ?_
  exact x_wi hE hr hlo hP hS rfl rfl dX9_fits_17

theorem dX9_liars_0 : decode cX9_liars 0 = .ok (.aload_n 0, 1) := by decide +kernel
theorem dX9_liars_1 : decode cX9_liars 1 = .ok (.iconst 0, 1) := by decide +kernel
theorem dX9_liars_2 : decode cX9_liars 2 = .ok (.putfield 81, 3) := by decide +kernel
theorem dX9_liars_5 : decode cX9_liars 5 = .ok (.aload_n 0, 1) := by decide +kernel
theorem dX9_liars_6 : decode cX9_liars 6 = .ok (.iload_n 1, 1) := by decide +kernel
theorem dX9_liars_7 : decode cX9_liars 7 = .ok (.iconst 3, 1) := by decide +kernel
theorem dX9_liars_8 : decode cX9_liars 8 = .ok (.invokevirtual 427, 3) := by decide +kernel
theorem dX9_liars_11 : decode cX9_liars 11 = .ok (.istore_n 2, 1) := by decide +kernel
theorem dX9_liars_12 : decode cX9_liars 12 = .ok (.iload_n 2, 1) := by decide +kernel
theorem dX9_liars_13 : decode cX9_liars 13 = .ok (.ifCond .eq 7, 3) := by decide +kernel
theorem dX9_liars_16 : decode cX9_liars 16 = .ok (.iload_n 2, 1) := by decide +kernel
theorem dX9_liars_17 : decode cX9_liars 17 = .ok (.goto 11, 3) := by decide +kernel
theorem dX9_liars_28 : decode cX9_liars 28 = .ok (.ireturn, 1) := by decide +kernel
set_option maxHeartbeats 4000000 in
set_option maxRecDepth 100000 in
theorem k_X9_liars (l : Launch) (D : va_G) (K : Nat → ClassId) (ad : Nat → Nat) (p1 : Int32) : Met l yX9_liars (wM yX9_liars cX9_liars 3 (some .int)) (rmD 4) (va_Pc [.ref (ad 0), .int p1] (wPre D K ad (yG ad K) 21 yv0 ya0 yl0)) (va_Qi (fun r _ => r = (-2)) (wB D ad (yG ad K) 21) (inW ad 21)) 0 0 (inW ad 21) := by
  refine x_met (by decide) (Nat.le_of_ble_eq_true rfl) ?_
  intro p e s m below meth c ls hE hr hlo hnm hB hl
  have hE : CallFix p m c cX9_liars 3 s _ tbG "TaleCourtModel" := hE
  obtain ⟨hP, hK, hN⟩ := hB
  have hS : va_S (inW ad 21) s.heap s.heap [] := va_S.rf
  have hl : lv_has ls 3 [(0, .ref (ad 0)), (1, .int p1)] := hl
  refine lv_aload_n hE.1 hE.2.1 dX9_liars_0 rfl (lv_at hl 0 rfl) ?_
  refine lv_iconst (v := 0) hE.1 hE.2.1 dX9_liars_1 (by decide) ?_
  refine x_put hE hK hN hP hS 0 (by decide) (yG_9 rfl) rfl hin9 tyX9 tyX9_ok nmX9 0 (by decide) mw_1334 rfl rfl rfl (Nat.le_of_ble_eq_true rfl) (yG_9 rfl) dX9_liars_2 (fun v1 H locs hv hP hS => ?_)
  obtain rfl := hv.trans (up_same (by decide))
  refine lv_aload_n hE.1 hE.2.1 dX9_liars_5 rfl (lv_at hl 0 rfl) ?_
  refine lv_iload_n hE.1 hE.2.1 dX9_liars_6 rfl (lv_at hl 1 rfl) ?_
  refine lv_iconst (v := 3) hE.1 hE.2.1 dX9_liars_7 (by decide) ?_
  refine x_vp (nn := 2) (As := [.int p1, .int 3]) (rest := []) hE (k_X9_whyNotTold l D K ad p1 3) wPre_blind (wPre_now hK hN hP) (x_recv hK hP 0 (by decide) (yG_9 rfl) rfl) rfl mw_1990 mw_1992 mw_106 mw_123 mw_1993 (by decide +kernel) ⟨by decide, by decide⟩ hl.1 rfl (by decide) ⟨Nat.zero_le _, Nat.zero_le _⟩ dX9_liars_8 (fun r hr => ?_)
  subst hr
  refine lv_istore_n (lv' := [(2, .int (-2)), (0, .ref (ad 0)), (1, .int p1)]) hE.1 hE.2.1 dX9_liars_11 rfl hl (by decide) rfl (fun ls hl => ?_)
  refine lv_iload_n hE.1 hE.2.1 dX9_liars_12 rfl (lv_at hl 0 rfl) ?_
  refine lv_if_eq (tgt := 20) hE.1 hE.2.1 dX9_liars_13 (by decide) (fun h => absurd h (by decide)) (fun _ => ?_)
  refine lv_iload_n hE.1 hE.2.1 dX9_liars_16 rfl (lv_at hl 0 rfl) ?_
  refine lv_goto (tgt := 28) hE.1 hE.2.1 dX9_liars_17 (by decide) ?_
  exact x_wi hE hr hlo hP hS rfl rfl dX9_liars_28

theorem dX9_who_0 : decode cX9_who 0 = .ok (.aload_n 0, 1) := by decide +kernel
theorem dX9_who_1 : decode cX9_who 1 = .ok (.iconst 0, 1) := by decide +kernel
theorem dX9_who_2 : decode cX9_who 2 = .ok (.putfield 81, 3) := by decide +kernel
theorem dX9_who_5 : decode cX9_who 5 = .ok (.aload_n 0, 1) := by decide +kernel
theorem dX9_who_6 : decode cX9_who 6 = .ok (.iload_n 1, 1) := by decide +kernel
theorem dX9_who_7 : decode cX9_who 7 = .ok (.iconst 3, 1) := by decide +kernel
theorem dX9_who_8 : decode cX9_who 8 = .ok (.invokevirtual 427, 3) := by decide +kernel
theorem dX9_who_11 : decode cX9_who 11 = .ok (.istore_n 2, 1) := by decide +kernel
theorem dX9_who_12 : decode cX9_who 12 = .ok (.iload_n 2, 1) := by decide +kernel
theorem dX9_who_13 : decode cX9_who 13 = .ok (.ifCond .eq 7, 3) := by decide +kernel
theorem dX9_who_16 : decode cX9_who 16 = .ok (.iload_n 2, 1) := by decide +kernel
theorem dX9_who_17 : decode cX9_who 17 = .ok (.goto 8, 3) := by decide +kernel
theorem dX9_who_25 : decode cX9_who 25 = .ok (.ireturn, 1) := by decide +kernel
set_option maxHeartbeats 4000000 in
set_option maxRecDepth 100000 in
theorem k_X9_who (l : Launch) (D : va_G) (K : Nat → ClassId) (ad : Nat → Nat) (p1 : Int32) : Met l yX9_who (wM yX9_who cX9_who 3 (some .int)) (rmD 4) (va_Pc [.ref (ad 0), .int p1] (wPre D K ad (yG ad K) 21 yv0 ya0 yl0)) (va_Qi (fun r _ => r = (-2)) (wB D ad (yG ad K) 21) (inW ad 21)) 0 0 (inW ad 21) := by
  refine x_met (by decide) (Nat.le_of_ble_eq_true rfl) ?_
  intro p e s m below meth c ls hE hr hlo hnm hB hl
  have hE : CallFix p m c cX9_who 3 s _ tbG "TaleCourtModel" := hE
  obtain ⟨hP, hK, hN⟩ := hB
  have hS : va_S (inW ad 21) s.heap s.heap [] := va_S.rf
  have hl : lv_has ls 3 [(0, .ref (ad 0)), (1, .int p1)] := hl
  refine lv_aload_n hE.1 hE.2.1 dX9_who_0 rfl (lv_at hl 0 rfl) ?_
  refine lv_iconst (v := 0) hE.1 hE.2.1 dX9_who_1 (by decide) ?_
  refine x_put hE hK hN hP hS 0 (by decide) (yG_9 rfl) rfl hin9 tyX9 tyX9_ok nmX9 0 (by decide) mw_1334 rfl rfl rfl (Nat.le_of_ble_eq_true rfl) (yG_9 rfl) dX9_who_2 (fun v1 H locs hv hP hS => ?_)
  obtain rfl := hv.trans (up_same (by decide))
  refine lv_aload_n hE.1 hE.2.1 dX9_who_5 rfl (lv_at hl 0 rfl) ?_
  refine lv_iload_n hE.1 hE.2.1 dX9_who_6 rfl (lv_at hl 1 rfl) ?_
  refine lv_iconst (v := 3) hE.1 hE.2.1 dX9_who_7 (by decide) ?_
  refine x_vp (nn := 2) (As := [.int p1, .int 3]) (rest := []) hE (k_X9_whyNotTold l D K ad p1 3) wPre_blind (wPre_now hK hN hP) (x_recv hK hP 0 (by decide) (yG_9 rfl) rfl) rfl mw_1990 mw_1992 mw_106 mw_123 mw_1993 (by decide +kernel) ⟨by decide, by decide⟩ hl.1 rfl (by decide) ⟨Nat.zero_le _, Nat.zero_le _⟩ dX9_who_8 (fun r hr => ?_)
  subst hr
  refine lv_istore_n (lv' := [(2, .int (-2)), (0, .ref (ad 0)), (1, .int p1)]) hE.1 hE.2.1 dX9_who_11 rfl hl (by decide) rfl (fun ls hl => ?_)
  refine lv_iload_n hE.1 hE.2.1 dX9_who_12 rfl (lv_at hl 0 rfl) ?_
  refine lv_if_eq (tgt := 20) hE.1 hE.2.1 dX9_who_13 (by decide) (fun h => absurd h (by decide)) (fun _ => ?_)
  refine lv_iload_n hE.1 hE.2.1 dX9_who_16 rfl (lv_at hl 0 rfl) ?_
  refine lv_goto (tgt := 25) hE.1 hE.2.1 dX9_who_17 (by decide) ?_
  exact x_wi hE hr hlo hP hS rfl rfl dX9_who_25

theorem dX9_votes_0 : decode cX9_votes 0 = .ok (.aload_n 0, 1) := by decide +kernel
theorem dX9_votes_1 : decode cX9_votes 1 = .ok (.iconst 0, 1) := by decide +kernel
theorem dX9_votes_2 : decode cX9_votes 2 = .ok (.putfield 81, 3) := by decide +kernel
theorem dX9_votes_5 : decode cX9_votes 5 = .ok (.iload_n 1, 1) := by decide +kernel
theorem dX9_votes_6 : decode cX9_votes 6 = .ok (.invokestatic 90, 3) := by decide +kernel
theorem dX9_votes_9 : decode cX9_votes 9 = .ok (.ifCond .eq 17, 3) := by decide +kernel
theorem dX9_votes_12 : decode cX9_votes 12 = .ok (.iload_n 2, 1) := by decide +kernel
theorem dX9_votes_13 : decode cX9_votes 13 = .ok (.invokestatic 90, 3) := by decide +kernel
theorem dX9_votes_16 : decode cX9_votes 16 = .ok (.ifCond .eq 10, 3) := by decide +kernel
theorem dX9_votes_19 : decode cX9_votes 19 = .ok (.aload_n 0, 1) := by decide +kernel
theorem dX9_votes_20 : decode cX9_votes 20 = .ok (.invokevirtual 301, 3) := by decide +kernel
theorem dX9_votes_23 : decode cX9_votes 23 = .ok (.ifCond .ne 6, 3) := by decide +kernel
theorem dX9_votes_26 : decode cX9_votes 26 = .ok (.bipush (-2), 2) := by decide +kernel
theorem dX9_votes_28 : decode cX9_votes 28 = .ok (.ireturn, 1) := by decide +kernel
set_option maxHeartbeats 4000000 in
set_option maxRecDepth 100000 in
theorem k_X9_votes (l : Launch) (D : va_G) (K : Nat → ClassId) (ad : Nat → Nat) (p1 : Int32) (p2 : Int32) : Met l yX9_votes (wM yX9_votes cX9_votes 5 (some .int)) (rmD 2) (va_Pc [.ref (ad 0), .int p1, .int p2] (wPre D K ad (yG ad K) 21 yv0 ya0 yl0)) (va_Qi (fun r _ => r = (-2)) (wB D ad (yG ad K) 21) (inW ad 21)) 0 0 (inW ad 21) := by
  refine x_met (by decide) (Nat.le_of_ble_eq_true rfl) ?_
  intro p e s m below meth c ls hE hr hlo hnm hB hl
  have hE : CallFix p m c cX9_votes 5 s _ tbG "TaleCourtModel" := hE
  obtain ⟨hP, hK, hN⟩ := hB
  have hS : va_S (inW ad 21) s.heap s.heap [] := va_S.rf
  have hl : lv_has ls 5 [(0, .ref (ad 0)), (1, .int p1), (2, .int p2)] := hl
  refine lv_aload_n hE.1 hE.2.1 dX9_votes_0 rfl (lv_at hl 0 rfl) ?_
  refine lv_iconst (v := 0) hE.1 hE.2.1 dX9_votes_1 (by decide) ?_
  refine x_put hE hK hN hP hS 0 (by decide) (yG_9 rfl) rfl hin9 tyX9 tyX9_ok nmX9 0 (by decide) mw_1334 rfl rfl rfl (Nat.le_of_ble_eq_true rfl) (yG_9 rfl) dX9_votes_2 (fun v1 H locs hv hP hS => ?_)
  obtain rfl := hv.trans (up_same (by decide))
  refine lv_iload_n hE.1 hE.2.1 dX9_votes_5 rfl (lv_at hl 1 rfl) ?_
  refine x_sp (nn := 1) (As := [.int p1]) (rest := []) hE (k_X9_isSlot l p1) tt_blind (fun _ _ _ => trivial) rfl mw_1490 mw_1491 mw_123 mw_1492 (by decide +kernel) ⟨by decide, by decide⟩ hl.1 rfl (by decide) ⟨Nat.zero_le _, Nat.zero_le _⟩ dX9_votes_6 (fun r hr => ?_)
  subst hr
  refine lv_if_eq (tgt := 26) hE.1 hE.2.1 dX9_votes_9 (by decide) (fun c_1 => ?_) (fun c_1 => ?_)
  · skip
    refine lv_bipush (v := (-2)) hE.1 hE.2.1 dX9_votes_26 (by decide) ?_
    exact x_wi hE hr hlo hP hS rfl rfl dX9_votes_28
  · skip
    refine lv_iload_n hE.1 hE.2.1 dX9_votes_12 rfl (lv_at hl 2 rfl) ?_
    refine x_sp (nn := 1) (As := [.int p2]) (rest := []) hE (k_X9_isSlot l p2) tt_blind (fun _ _ _ => trivial) rfl mw_1490 mw_1491 mw_123 mw_1492 (by decide +kernel) ⟨by decide, by decide⟩ hl.1 rfl (by decide) ⟨Nat.zero_le _, Nat.zero_le _⟩ dX9_votes_13 (fun r hr => ?_)
    subst hr
    refine lv_if_eq (tgt := 26) hE.1 hE.2.1 dX9_votes_16 (by decide) (fun c_2 => ?_) (fun c_2 => ?_)
    · skip
      refine lv_bipush (v := (-2)) hE.1 hE.2.1 dX9_votes_26 (by decide) ?_
      exact x_wi hE hr hlo hP hS rfl rfl dX9_votes_28
    · skip
      refine lv_aload_n hE.1 hE.2.1 dX9_votes_19 rfl (lv_at hl 0 rfl) ?_
      refine x_vp (nn := 0) (As := []) (rest := []) hE (k_X9_isCourt l D K ad ) wPre_blind (wPre_now hK hN hP) (x_recv hK hP 0 (by decide) (yG_9 rfl) rfl) rfl mw_1718 mw_1720 mw_79 mw_123 mw_1721 (by decide +kernel) ⟨by decide, by decide⟩ hl.1 rfl (by decide) ⟨Nat.zero_le _, Nat.zero_le _⟩ dX9_votes_20 (fun r hr => ?_)
      subst hr
      refine lv_if_ne (tgt := 29) hE.1 hE.2.1 dX9_votes_23 (by decide) (fun h => absurd (by decide) h) (fun _ => ?_)
      refine lv_bipush (v := (-2)) hE.1 hE.2.1 dX9_votes_26 (by decide) ?_
      exact x_wi hE hr hlo hP hS rfl rfl dX9_votes_28

theorem dX9_drawn_0 : decode cX9_drawn 0 = .ok (.aload_n 0, 1) := by decide +kernel
theorem dX9_drawn_1 : decode cX9_drawn 1 = .ok (.iconst 0, 1) := by decide +kernel
theorem dX9_drawn_2 : decode cX9_drawn 2 = .ok (.putfield 81, 3) := by decide +kernel
theorem dX9_drawn_5 : decode cX9_drawn 5 = .ok (.aload_n 0, 1) := by decide +kernel
theorem dX9_drawn_6 : decode cX9_drawn 6 = .ok (.iload_n 1, 1) := by decide +kernel
theorem dX9_drawn_7 : decode cX9_drawn 7 = .ok (.invokevirtual 458, 3) := by decide +kernel
theorem dX9_drawn_10 : decode cX9_drawn 10 = .ok (.ifCond .eq 15, 3) := by decide +kernel
theorem dX9_drawn_25 : decode cX9_drawn 25 = .ok (.bipush (-2), 2) := by decide +kernel
theorem dX9_drawn_27 : decode cX9_drawn 27 = .ok (.ireturn, 1) := by decide +kernel
set_option maxHeartbeats 4000000 in
set_option maxRecDepth 100000 in
theorem k_X9_drawn (l : Launch) (D : va_G) (K : Nat → ClassId) (ad : Nat → Nat) (p1 : Int32) (p2 : Int32) : Met l yX9_drawn (wM yX9_drawn cX9_drawn 3 (some .int)) (rmD 2) (va_Pc [.ref (ad 0), .int p1, .int p2] (wPre D K ad (yG ad K) 21 yv0 ya0 yl0)) (va_Qi (fun r _ => r = (-2)) (wB D ad (yG ad K) 21) (inW ad 21)) 0 0 (inW ad 21) := by
  refine x_met (by decide) (Nat.le_of_ble_eq_true rfl) ?_
  intro p e s m below meth c ls hE hr hlo hnm hB hl
  have hE : CallFix p m c cX9_drawn 3 s _ tbG "TaleCourtModel" := hE
  obtain ⟨hP, hK, hN⟩ := hB
  have hS : va_S (inW ad 21) s.heap s.heap [] := va_S.rf
  have hl : lv_has ls 3 [(0, .ref (ad 0)), (1, .int p1), (2, .int p2)] := hl
  refine lv_aload_n hE.1 hE.2.1 dX9_drawn_0 rfl (lv_at hl 0 rfl) ?_
  refine lv_iconst (v := 0) hE.1 hE.2.1 dX9_drawn_1 (by decide) ?_
  refine x_put hE hK hN hP hS 0 (by decide) (yG_9 rfl) rfl hin9 tyX9 tyX9_ok nmX9 0 (by decide) mw_1334 rfl rfl rfl (Nat.le_of_ble_eq_true rfl) (yG_9 rfl) dX9_drawn_2 (fun v1 H locs hv hP hS => ?_)
  obtain rfl := hv.trans (up_same (by decide))
  refine lv_aload_n hE.1 hE.2.1 dX9_drawn_5 rfl (lv_at hl 0 rfl) ?_
  refine lv_iload_n hE.1 hE.2.1 dX9_drawn_6 rfl (lv_at hl 1 rfl) ?_
  refine x_vp (nn := 1) (As := [.int p1]) (rest := []) hE (k_X9_isSeed l D K ad p1) wPre_blind (wPre_now hK hN hP) (x_recv hK hP 0 (by decide) (yG_9 rfl) rfl) rfl mw_2041 mw_2043 mw_111 mw_123 mw_2044 (by decide +kernel) ⟨by decide, by decide⟩ hl.1 rfl (by decide) ⟨Nat.zero_le _, Nat.zero_le _⟩ dX9_drawn_7 (fun r hr => ?_)
  subst hr
  refine lv_if_eq (tgt := 25) hE.1 hE.2.1 dX9_drawn_10 (by decide) (fun _ => ?_) (fun h => absurd (by decide) h)
  refine lv_bipush (v := (-2)) hE.1 hE.2.1 dX9_drawn_25 (by decide) ?_
  exact x_wi hE hr hlo hP hS rfl rfl dX9_drawn_27

theorem dX9_lot_0 : decode cX9_lot 0 = .ok (.aload_n 0, 1) := by decide +kernel
theorem dX9_lot_1 : decode cX9_lot 1 = .ok (.iconst 0, 1) := by decide +kernel
theorem dX9_lot_2 : decode cX9_lot 2 = .ok (.putfield 81, 3) := by decide +kernel
theorem dX9_lot_5 : decode cX9_lot 5 = .ok (.aload_n 0, 1) := by decide +kernel
theorem dX9_lot_6 : decode cX9_lot 6 = .ok (.iload_n 1, 1) := by decide +kernel
theorem dX9_lot_7 : decode cX9_lot 7 = .ok (.invokevirtual 458, 3) := by decide +kernel
theorem dX9_lot_10 : decode cX9_lot 10 = .ok (.ifCond .ne 6, 3) := by decide +kernel
theorem dX9_lot_13 : decode cX9_lot 13 = .ok (.bipush (-2), 2) := by decide +kernel
theorem dX9_lot_15 : decode cX9_lot 15 = .ok (.ireturn, 1) := by decide +kernel
set_option maxHeartbeats 4000000 in
set_option maxRecDepth 100000 in
theorem k_X9_lot (l : Launch) (D : va_G) (K : Nat → ClassId) (ad : Nat → Nat) (p1 : Int32) (p2 : Int32) : Met l yX9_lot (wM yX9_lot cX9_lot 3 (some .int)) (rmD 2) (va_Pc [.ref (ad 0), .int p1, .int p2] (wPre D K ad (yG ad K) 21 yv0 ya0 yl0)) (va_Qi (fun r _ => r = (-2)) (wB D ad (yG ad K) 21) (inW ad 21)) 0 0 (inW ad 21) := by
  refine x_met (by decide) (Nat.le_of_ble_eq_true rfl) ?_
  intro p e s m below meth c ls hE hr hlo hnm hB hl
  have hE : CallFix p m c cX9_lot 3 s _ tbG "TaleCourtModel" := hE
  obtain ⟨hP, hK, hN⟩ := hB
  have hS : va_S (inW ad 21) s.heap s.heap [] := va_S.rf
  have hl : lv_has ls 3 [(0, .ref (ad 0)), (1, .int p1), (2, .int p2)] := hl
  refine lv_aload_n hE.1 hE.2.1 dX9_lot_0 rfl (lv_at hl 0 rfl) ?_
  refine lv_iconst (v := 0) hE.1 hE.2.1 dX9_lot_1 (by decide) ?_
  refine x_put hE hK hN hP hS 0 (by decide) (yG_9 rfl) rfl hin9 tyX9 tyX9_ok nmX9 0 (by decide) mw_1334 rfl rfl rfl (Nat.le_of_ble_eq_true rfl) (yG_9 rfl) dX9_lot_2 (fun v1 H locs hv hP hS => ?_)
  obtain rfl := hv.trans (up_same (by decide))
  refine lv_aload_n hE.1 hE.2.1 dX9_lot_5 rfl (lv_at hl 0 rfl) ?_
  refine lv_iload_n hE.1 hE.2.1 dX9_lot_6 rfl (lv_at hl 1 rfl) ?_
  refine x_vp (nn := 1) (As := [.int p1]) (rest := []) hE (k_X9_isSeed l D K ad p1) wPre_blind (wPre_now hK hN hP) (x_recv hK hP 0 (by decide) (yG_9 rfl) rfl) rfl mw_2041 mw_2043 mw_111 mw_123 mw_2044 (by decide +kernel) ⟨by decide, by decide⟩ hl.1 rfl (by decide) ⟨Nat.zero_le _, Nat.zero_le _⟩ dX9_lot_7 (fun r hr => ?_)
  subst hr
  refine lv_if_ne (tgt := 16) hE.1 hE.2.1 dX9_lot_10 (by decide) (fun h => absurd (by decide) h) (fun _ => ?_)
  refine lv_bipush (v := (-2)) hE.1 hE.2.1 dX9_lot_13 (by decide) ?_
  exact x_wi hE hr hlo hP hS rfl rfl dX9_lot_15

theorem dX9_nights_0 : decode cX9_nights 0 = .ok (.aload_n 0, 1) := by decide +kernel
theorem dX9_nights_1 : decode cX9_nights 1 = .ok (.iconst 0, 1) := by decide +kernel
theorem dX9_nights_2 : decode cX9_nights 2 = .ok (.putfield 81, 3) := by decide +kernel
theorem dX9_nights_5 : decode cX9_nights 5 = .ok (.aload_n 0, 1) := by decide +kernel
theorem dX9_nights_6 : decode cX9_nights 6 = .ok (.iload_n 1, 1) := by decide +kernel
theorem dX9_nights_7 : decode cX9_nights 7 = .ok (.invokevirtual 458, 3) := by decide +kernel
theorem dX9_nights_10 : decode cX9_nights 10 = .ok (.ifCond .eq 15, 3) := by decide +kernel
theorem dX9_nights_25 : decode cX9_nights 25 = .ok (.bipush (-2), 2) := by decide +kernel
theorem dX9_nights_27 : decode cX9_nights 27 = .ok (.ireturn, 1) := by decide +kernel
set_option maxHeartbeats 4000000 in
set_option maxRecDepth 100000 in
theorem k_X9_nights (l : Launch) (D : va_G) (K : Nat → ClassId) (ad : Nat → Nat) (p1 : Int32) (p2 : Int32) : Met l yX9_nights (wM yX9_nights cX9_nights 5 (some .int)) (rmD 2) (va_Pc [.ref (ad 0), .int p1, .int p2] (wPre D K ad (yG ad K) 21 yv0 ya0 yl0)) (va_Qi (fun r _ => r = (-2)) (wB D ad (yG ad K) 21) (inW ad 21)) 0 0 (inW ad 21) := by
  refine x_met (by decide) (Nat.le_of_ble_eq_true rfl) ?_
  intro p e s m below meth c ls hE hr hlo hnm hB hl
  have hE : CallFix p m c cX9_nights 5 s _ tbG "TaleCourtModel" := hE
  obtain ⟨hP, hK, hN⟩ := hB
  have hS : va_S (inW ad 21) s.heap s.heap [] := va_S.rf
  have hl : lv_has ls 5 [(0, .ref (ad 0)), (1, .int p1), (2, .int p2)] := hl
  refine lv_aload_n hE.1 hE.2.1 dX9_nights_0 rfl (lv_at hl 0 rfl) ?_
  refine lv_iconst (v := 0) hE.1 hE.2.1 dX9_nights_1 (by decide) ?_
  refine x_put hE hK hN hP hS 0 (by decide) (yG_9 rfl) rfl hin9 tyX9 tyX9_ok nmX9 0 (by decide) mw_1334 rfl rfl rfl (Nat.le_of_ble_eq_true rfl) (yG_9 rfl) dX9_nights_2 (fun v1 H locs hv hP hS => ?_)
  obtain rfl := hv.trans (up_same (by decide))
  refine lv_aload_n hE.1 hE.2.1 dX9_nights_5 rfl (lv_at hl 0 rfl) ?_
  refine lv_iload_n hE.1 hE.2.1 dX9_nights_6 rfl (lv_at hl 1 rfl) ?_
  refine x_vp (nn := 1) (As := [.int p1]) (rest := []) hE (k_X9_isSeed l D K ad p1) wPre_blind (wPre_now hK hN hP) (x_recv hK hP 0 (by decide) (yG_9 rfl) rfl) rfl mw_2041 mw_2043 mw_111 mw_123 mw_2044 (by decide +kernel) ⟨by decide, by decide⟩ hl.1 rfl (by decide) ⟨Nat.zero_le _, Nat.zero_le _⟩ dX9_nights_7 (fun r hr => ?_)
  subst hr
  refine lv_if_eq (tgt := 25) hE.1 hE.2.1 dX9_nights_10 (by decide) (fun _ => ?_) (fun h => absurd (by decide) h)
  refine lv_bipush (v := (-2)) hE.1 hE.2.1 dX9_nights_25 (by decide) ?_
  exact x_wi hE hr hlo hP hS rfl rfl dX9_nights_27

theorem dX9_taste_0 : decode cX9_taste 0 = .ok (.aload_n 0, 1) := by decide +kernel
theorem dX9_taste_1 : decode cX9_taste 1 = .ok (.iconst 0, 1) := by decide +kernel
theorem dX9_taste_2 : decode cX9_taste 2 = .ok (.putfield 81, 3) := by decide +kernel
theorem dX9_taste_5 : decode cX9_taste 5 = .ok (.iload_n 1, 1) := by decide +kernel
theorem dX9_taste_6 : decode cX9_taste 6 = .ok (.i2l, 1) := by decide +kernel
theorem dX9_taste_7 : decode cX9_taste 7 = .ok (.lconst 0, 1) := by decide +kernel
theorem dX9_taste_8 : decode cX9_taste 8 = .ok (.aload_n 0, 1) := by decide +kernel
theorem dX9_taste_9 : decode cX9_taste 9 = .ok (.getfield 34, 3) := by decide +kernel
theorem dX9_taste_12 : decode cX9_taste 12 = .ok (.iconst 3, 1) := by decide +kernel
theorem dX9_taste_13 : decode cX9_taste 13 = .ok (.iaload, 1) := by decide +kernel
theorem dX9_taste_14 : decode cX9_taste 14 = .ok (.iconst 1, 1) := by decide +kernel
theorem dX9_taste_15 : decode cX9_taste 15 = .ok (.isub, 1) := by decide +kernel
theorem dX9_taste_16 : decode cX9_taste 16 = .ok (.i2l, 1) := by decide +kernel
theorem dX9_taste_17 : decode cX9_taste 17 = .ok (.invokestatic 86, 3) := by decide +kernel
theorem dX9_taste_20 : decode cX9_taste 20 = .ok (.ifCond .eq 10, 3) := by decide +kernel
theorem dX9_taste_30 : decode cX9_taste 30 = .ok (.sipush (-1000), 3) := by decide +kernel
theorem dX9_taste_33 : decode cX9_taste 33 = .ok (.ireturn, 1) := by decide +kernel
set_option maxHeartbeats 4000000 in
set_option maxRecDepth 100000 in
theorem k_X9_taste (l : Launch) (D : va_G) (K : Nat → ClassId) (ad : Nat → Nat) (p1 : Int32) (p2 : Int32) : Met l yX9_taste (wM yX9_taste cX9_taste 3 (some .int)) (rmD 1) (va_Pc [.ref (ad 0), .int p1, .int p2] (wPre D K ad (yG ad K) 21 yv0 ya0 yl0)) (va_Qi (fun r _ => r = (-1000)) (wB D ad (yG ad K) 21) (inW ad 21)) 0 0 (inW ad 21) := by
  refine x_met (by decide) (Nat.le_of_ble_eq_true rfl) ?_
  intro p e s m below meth c ls hE hr hlo hnm hB hl
  have hE : CallFix p m c cX9_taste 3 s _ tbG "TaleCourtModel" := hE
  obtain ⟨hP, hK, hN⟩ := hB
  have hS : va_S (inW ad 21) s.heap s.heap [] := va_S.rf
  have hl : lv_has ls 3 [(0, .ref (ad 0)), (1, .int p1), (2, .int p2)] := hl
  refine lv_aload_n hE.1 hE.2.1 dX9_taste_0 rfl (lv_at hl 0 rfl) ?_
  refine lv_iconst (v := 0) hE.1 hE.2.1 dX9_taste_1 (by decide) ?_
  refine x_put hE hK hN hP hS 0 (by decide) (yG_9 rfl) rfl hin9 tyX9 tyX9_ok nmX9 0 (by decide) mw_1334 rfl rfl rfl (Nat.le_of_ble_eq_true rfl) (yG_9 rfl) dX9_taste_2 (fun v1 H locs hv hP hS => ?_)
  obtain rfl := hv.trans (up_same (by decide))
  refine lv_iload_n hE.1 hE.2.1 dX9_taste_5 rfl (lv_at hl 1 rfl) ?_
  refine lv_i2l (v := (p1.toInt64)) hE.1 hE.2.1 dX9_taste_6 rfl ?_
  refine lv_lconst (v := 0) hE.1 hE.2.1 dX9_taste_7 (by decide) ?_
  refine lv_aload_n hE.1 hE.2.1 dX9_taste_8 rfl (lv_at hl 0 rfl) ?_
  refine x_get (x := .ref (ad 7)) hE hK hP 0 (by decide) (yG_9 rfl) rfl hin9 17 (by decide) mw_1351 rfl dX9_taste_9 ?_
  refine lv_iconst (v := 3) hE.1 hE.2.1 dX9_taste_12 (by decide) ?_
  refine x_iald (j := 3) hE hK hP 7 (by decide) (yG_10 rfl) (by unfold vp_in; decide) dX9_taste_13 ?_
  refine x_top (y := 0) (by decide) ?_
  refine lv_iconst (v := 1) hE.1 hE.2.1 dX9_taste_14 (by decide) ?_
  refine lv_isub hE.1 hE.2.1 dX9_taste_15 ?_
  refine x_top (y := (-1)) (by decide) ?_
  refine lv_i2l (v := (-1)) hE.1 hE.2.1 dX9_taste_16 (by decide) ?_
  refine x_sp (nn := 3) (As := [.long (p1.toInt64), .long 0, .long (-1)]) (rest := []) hE (k_X9_in l (p1.toInt64) 0 (-1)) tt_blind (fun _ _ _ => trivial) rfl mw_1494 mw_1495 mw_123 mw_1496 (by decide +kernel) ⟨by decide, by decide⟩ hl.1 rfl (by decide) ⟨Nat.zero_le _, Nat.zero_le _⟩ dX9_taste_17 (fun r hr => ?_)
  subst hr
  refine x_top (y := 0) (inL_none _) ?_
  refine lv_if_eq (tgt := 30) hE.1 hE.2.1 dX9_taste_20 (by decide) (fun _ => ?_) (fun h => absurd (by decide) h)
  refine lv_sipush (v := (-1000)) hE.1 hE.2.1 dX9_taste_30 (by decide) ?_
  exact x_wi hE hr hlo hP hS rfl rfl dX9_taste_33
