theorem dX8_motif_0 : decode cX8_motif 0 = .ok (.aload_n 0, 1) := by decide +kernel
theorem dX8_motif_1 : decode cX8_motif 1 = .ok (.getfield 19, 3) := by decide +kernel
theorem dX8_motif_4 : decode cX8_motif 4 = .ok (.iload_n 1, 1) := by decide +kernel
theorem dX8_motif_5 : decode cX8_motif 5 = .ok (.invokevirtual 102, 3) := by decide +kernel
theorem dX8_motif_8 : decode cX8_motif 8 = .ok (.ifCond .ne 6, 3) := by decide +kernel
theorem dX8_motif_11 : decode cX8_motif 11 = .ok (.bipush (-2), 2) := by decide +kernel
theorem dX8_motif_13 : decode cX8_motif 13 = .ok (.ireturn, 1) := by decide +kernel
set_option maxHeartbeats 4000000 in
set_option maxRecDepth 100000 in
theorem k_X8_motif (l : Launch) (D : va_G) (K : Nat → ClassId) (ad : Nat → Nat) (mm : Option Nat) (p1 : Int32) (p2 : Int32) : Met l yX8_motif (wM yX8_motif cX8_motif 3 (some .int)) (rmD 1) (va_Pc [.ref (ad 0), .int p1, .int p2] (wPre D K ad (xG ad K mm) 132 xv0 xa0 xl0)) (vp_Si (fun r => r = (-2))) 0 0 (fun _ => False) := by
  refine x_met (by decide) (Nat.le_of_ble_eq_true rfl) ?_
  intro p e s m below meth c ls hE hr hlo hnm hB hl
  have hE : CallFix p m c cX8_motif 3 s _ tbG "TaleCourt" := hE
  obtain ⟨hP, hK, hN⟩ := hB
  have hS : va_S (inW ad 132) s.heap s.heap [] := va_S.rf
  have hl : lv_has ls 3 [(0, .ref (ad 0)), (1, .int p1), (2, .int p2)] := hl
  refine lv_aload_n hE.1 hE.2.1 dX8_motif_0 rfl (lv_at hl 0 rfl) ?_
  refine x_get (x := .ref (ad 3)) hE hK hP 0 (by decide) (xG_8 rfl) rfl hin8 1 (by decide) mw_481 rfl dX8_motif_1 ?_
  refine lv_iload_n hE.1 hE.2.1 dX8_motif_4 rfl (lv_at hl 1 rfl) ?_
  refine x_vp (nn := 1) (As := [.int p1]) (rest := []) hE (k_X1_hasMotif l D K ad mm p1) wPre_blind (wPre_now hK hN hP) (x_recv hK hP 3 (by decide) (xG_1 rfl) rfl) rfl mw_694 mw_695 mw_696 mw_116 mw_697 (by decide +kernel) ⟨by decide, by decide⟩ hl.1 rfl (by decide) ⟨Nat.zero_le _, Nat.zero_le _⟩ dX8_motif_5 (fun r hr => ?_)
  subst hr
  refine lv_if_ne (tgt := 14) hE.1 hE.2.1 dX8_motif_8 (by decide) (fun h => absurd (by decide) h) (fun _ => ?_)
  refine lv_bipush (v := (-2)) hE.1 hE.2.1 dX8_motif_11 (by decide) ?_
  exact x_ri hE hr hlo rfl rfl dX8_motif_13

theorem dX8_joins_0 : decode cX8_joins 0 = .ok (.aload_n 0, 1) := by decide +kernel
theorem dX8_joins_1 : decode cX8_joins 1 = .ok (.getfield 19, 3) := by decide +kernel
theorem dX8_joins_4 : decode cX8_joins 4 = .ok (.iload_n 1, 1) := by decide +kernel
theorem dX8_joins_5 : decode cX8_joins 5 = .ok (.invokevirtual 102, 3) := by decide +kernel
theorem dX8_joins_8 : decode cX8_joins 8 = .ok (.ifCond .eq 14, 3) := by decide +kernel
theorem dX8_joins_22 : decode cX8_joins 22 = .ok (.bipush (-2), 2) := by decide +kernel
theorem dX8_joins_24 : decode cX8_joins 24 = .ok (.ireturn, 1) := by decide +kernel
set_option maxHeartbeats 4000000 in
set_option maxRecDepth 100000 in
theorem k_X8_joins (l : Launch) (D : va_G) (K : Nat → ClassId) (ad : Nat → Nat) (mm : Option Nat) (p1 : Int32) (p2 : Int32) : Met l yX8_joins (wM yX8_joins cX8_joins 3 (some .int)) (rmD 1) (va_Pc [.ref (ad 0), .int p1, .int p2] (wPre D K ad (xG ad K mm) 132 xv0 xa0 xl0)) (vp_Si (fun r => r = (-2))) 0 0 (fun _ => False) := by
  refine x_met (by decide) (Nat.le_of_ble_eq_true rfl) ?_
  intro p e s m below meth c ls hE hr hlo hnm hB hl
  have hE : CallFix p m c cX8_joins 3 s _ tbG "TaleCourt" := hE
  obtain ⟨hP, hK, hN⟩ := hB
  have hS : va_S (inW ad 132) s.heap s.heap [] := va_S.rf
  have hl : lv_has ls 3 [(0, .ref (ad 0)), (1, .int p1), (2, .int p2)] := hl
  refine lv_aload_n hE.1 hE.2.1 dX8_joins_0 rfl (lv_at hl 0 rfl) ?_
  refine x_get (x := .ref (ad 3)) hE hK hP 0 (by decide) (xG_8 rfl) rfl hin8 1 (by decide) mw_481 rfl dX8_joins_1 ?_
  refine lv_iload_n hE.1 hE.2.1 dX8_joins_4 rfl (lv_at hl 1 rfl) ?_
  refine x_vp (nn := 1) (As := [.int p1]) (rest := []) hE (k_X1_hasMotif l D K ad mm p1) wPre_blind (wPre_now hK hN hP) (x_recv hK hP 3 (by decide) (xG_1 rfl) rfl) rfl mw_694 mw_695 mw_696 mw_116 mw_697 (by decide +kernel) ⟨by decide, by decide⟩ hl.1 rfl (by decide) ⟨Nat.zero_le _, Nat.zero_le _⟩ dX8_joins_5 (fun r hr => ?_)
  subst hr
  refine lv_if_eq (tgt := 22) hE.1 hE.2.1 dX8_joins_8 (by decide) (fun _ => ?_) (fun h => absurd (by decide) h)
  refine lv_bipush (v := (-2)) hE.1 hE.2.1 dX8_joins_22 (by decide) ?_
  exact x_ri hE hr hlo rfl rfl dX8_joins_24

theorem dX8_clash_0 : decode cX8_clash 0 = .ok (.aload_n 0, 1) := by decide +kernel
theorem dX8_clash_1 : decode cX8_clash 1 = .ok (.getfield 19, 3) := by decide +kernel
theorem dX8_clash_4 : decode cX8_clash 4 = .ok (.iload_n 1, 1) := by decide +kernel
theorem dX8_clash_5 : decode cX8_clash 5 = .ok (.invokevirtual 102, 3) := by decide +kernel
theorem dX8_clash_8 : decode cX8_clash 8 = .ok (.ifCond .eq 14, 3) := by decide +kernel
theorem dX8_clash_22 : decode cX8_clash 22 = .ok (.bipush (-2), 2) := by decide +kernel
theorem dX8_clash_24 : decode cX8_clash 24 = .ok (.ireturn, 1) := by decide +kernel
set_option maxHeartbeats 4000000 in
set_option maxRecDepth 100000 in
theorem k_X8_clash (l : Launch) (D : va_G) (K : Nat → ClassId) (ad : Nat → Nat) (mm : Option Nat) (p1 : Int32) (p2 : Int32) : Met l yX8_clash (wM yX8_clash cX8_clash 3 (some .int)) (rmD 1) (va_Pc [.ref (ad 0), .int p1, .int p2] (wPre D K ad (xG ad K mm) 132 xv0 xa0 xl0)) (vp_Si (fun r => r = (-2))) 0 0 (fun _ => False) := by
  refine x_met (by decide) (Nat.le_of_ble_eq_true rfl) ?_
  intro p e s m below meth c ls hE hr hlo hnm hB hl
  have hE : CallFix p m c cX8_clash 3 s _ tbG "TaleCourt" := hE
  obtain ⟨hP, hK, hN⟩ := hB
  have hS : va_S (inW ad 132) s.heap s.heap [] := va_S.rf
  have hl : lv_has ls 3 [(0, .ref (ad 0)), (1, .int p1), (2, .int p2)] := hl
  refine lv_aload_n hE.1 hE.2.1 dX8_clash_0 rfl (lv_at hl 0 rfl) ?_
  refine x_get (x := .ref (ad 3)) hE hK hP 0 (by decide) (xG_8 rfl) rfl hin8 1 (by decide) mw_481 rfl dX8_clash_1 ?_
  refine lv_iload_n hE.1 hE.2.1 dX8_clash_4 rfl (lv_at hl 1 rfl) ?_
  refine x_vp (nn := 1) (As := [.int p1]) (rest := []) hE (k_X1_hasMotif l D K ad mm p1) wPre_blind (wPre_now hK hN hP) (x_recv hK hP 3 (by decide) (xG_1 rfl) rfl) rfl mw_694 mw_695 mw_696 mw_116 mw_697 (by decide +kernel) ⟨by decide, by decide⟩ hl.1 rfl (by decide) ⟨Nat.zero_le _, Nat.zero_le _⟩ dX8_clash_5 (fun r hr => ?_)
  subst hr
  refine lv_if_eq (tgt := 22) hE.1 hE.2.1 dX8_clash_8 (by decide) (fun _ => ?_) (fun h => absurd (by decide) h)
  refine lv_bipush (v := (-2)) hE.1 hE.2.1 dX8_clash_22 (by decide) ?_
  exact x_ri hE hr hlo rfl rfl dX8_clash_24

theorem dX8_behind_0 : decode cX8_behind 0 = .ok (.aload_n 0, 1) := by decide +kernel
theorem dX8_behind_1 : decode cX8_behind 1 = .ok (.getfield 19, 3) := by decide +kernel
theorem dX8_behind_4 : decode cX8_behind 4 = .ok (.iload_n 1, 1) := by decide +kernel
theorem dX8_behind_5 : decode cX8_behind 5 = .ok (.invokevirtual 102, 3) := by decide +kernel
theorem dX8_behind_8 : decode cX8_behind 8 = .ok (.ifCond .eq 15, 3) := by decide +kernel
theorem dX8_behind_23 : decode cX8_behind 23 = .ok (.bipush (-2), 2) := by decide +kernel
theorem dX8_behind_25 : decode cX8_behind 25 = .ok (.ireturn, 1) := by decide +kernel
set_option maxHeartbeats 4000000 in
set_option maxRecDepth 100000 in
theorem k_X8_behind (l : Launch) (D : va_G) (K : Nat → ClassId) (ad : Nat → Nat) (mm : Option Nat) (p1 : Int32) : Met l yX8_behind (wM yX8_behind cX8_behind 2 (some .int)) (rmD 1) (va_Pc [.ref (ad 0), .int p1] (wPre D K ad (xG ad K mm) 132 xv0 xa0 xl0)) (vp_Si (fun r => r = (-2))) 0 0 (fun _ => False) := by
  refine x_met (by decide) (Nat.le_of_ble_eq_true rfl) ?_
  intro p e s m below meth c ls hE hr hlo hnm hB hl
  have hE : CallFix p m c cX8_behind 2 s _ tbG "TaleCourt" := hE
  obtain ⟨hP, hK, hN⟩ := hB
  have hS : va_S (inW ad 132) s.heap s.heap [] := va_S.rf
  have hl : lv_has ls 2 [(0, .ref (ad 0)), (1, .int p1)] := hl
  refine lv_aload_n hE.1 hE.2.1 dX8_behind_0 rfl (lv_at hl 0 rfl) ?_
  refine x_get (x := .ref (ad 3)) hE hK hP 0 (by decide) (xG_8 rfl) rfl hin8 1 (by decide) mw_481 rfl dX8_behind_1 ?_
  refine lv_iload_n hE.1 hE.2.1 dX8_behind_4 rfl (lv_at hl 1 rfl) ?_
  refine x_vp (nn := 1) (As := [.int p1]) (rest := []) hE (k_X1_hasMotif l D K ad mm p1) wPre_blind (wPre_now hK hN hP) (x_recv hK hP 3 (by decide) (xG_1 rfl) rfl) rfl mw_694 mw_695 mw_696 mw_116 mw_697 (by decide +kernel) ⟨by decide, by decide⟩ hl.1 rfl (by decide) ⟨Nat.zero_le _, Nat.zero_le _⟩ dX8_behind_5 (fun r hr => ?_)
  subst hr
  refine lv_if_eq (tgt := 23) hE.1 hE.2.1 dX8_behind_8 (by decide) (fun _ => ?_) (fun h => absurd (by decide) h)
  refine lv_bipush (v := (-2)) hE.1 hE.2.1 dX8_behind_23 (by decide) ?_
  exact x_ri hE hr hlo rfl rfl dX8_behind_25

theorem dX8_ahead_0 : decode cX8_ahead 0 = .ok (.aload_n 0, 1) := by decide +kernel
theorem dX8_ahead_1 : decode cX8_ahead 1 = .ok (.getfield 19, 3) := by decide +kernel
theorem dX8_ahead_4 : decode cX8_ahead 4 = .ok (.iload_n 1, 1) := by decide +kernel
theorem dX8_ahead_5 : decode cX8_ahead 5 = .ok (.invokevirtual 102, 3) := by decide +kernel
theorem dX8_ahead_8 : decode cX8_ahead 8 = .ok (.ifCond .eq 14, 3) := by decide +kernel
theorem dX8_ahead_22 : decode cX8_ahead 22 = .ok (.bipush (-2), 2) := by decide +kernel
theorem dX8_ahead_24 : decode cX8_ahead 24 = .ok (.ireturn, 1) := by decide +kernel
set_option maxHeartbeats 4000000 in
set_option maxRecDepth 100000 in
theorem k_X8_ahead (l : Launch) (D : va_G) (K : Nat → ClassId) (ad : Nat → Nat) (mm : Option Nat) (p1 : Int32) : Met l yX8_ahead (wM yX8_ahead cX8_ahead 2 (some .int)) (rmD 1) (va_Pc [.ref (ad 0), .int p1] (wPre D K ad (xG ad K mm) 132 xv0 xa0 xl0)) (vp_Si (fun r => r = (-2))) 0 0 (fun _ => False) := by
  refine x_met (by decide) (Nat.le_of_ble_eq_true rfl) ?_
  intro p e s m below meth c ls hE hr hlo hnm hB hl
  have hE : CallFix p m c cX8_ahead 2 s _ tbG "TaleCourt" := hE
  obtain ⟨hP, hK, hN⟩ := hB
  have hS : va_S (inW ad 132) s.heap s.heap [] := va_S.rf
  have hl : lv_has ls 2 [(0, .ref (ad 0)), (1, .int p1)] := hl
  refine lv_aload_n hE.1 hE.2.1 dX8_ahead_0 rfl (lv_at hl 0 rfl) ?_
  refine x_get (x := .ref (ad 3)) hE hK hP 0 (by decide) (xG_8 rfl) rfl hin8 1 (by decide) mw_481 rfl dX8_ahead_1 ?_
  refine lv_iload_n hE.1 hE.2.1 dX8_ahead_4 rfl (lv_at hl 1 rfl) ?_
  refine x_vp (nn := 1) (As := [.int p1]) (rest := []) hE (k_X1_hasMotif l D K ad mm p1) wPre_blind (wPre_now hK hN hP) (x_recv hK hP 3 (by decide) (xG_1 rfl) rfl) rfl mw_694 mw_695 mw_696 mw_116 mw_697 (by decide +kernel) ⟨by decide, by decide⟩ hl.1 rfl (by decide) ⟨Nat.zero_le _, Nat.zero_le _⟩ dX8_ahead_5 (fun r hr => ?_)
  subst hr
  refine lv_if_eq (tgt := 22) hE.1 hE.2.1 dX8_ahead_8 (by decide) (fun _ => ?_) (fun h => absurd (by decide) h)
  refine lv_bipush (v := (-2)) hE.1 hE.2.1 dX8_ahead_22 (by decide) ?_
  exact x_ri hE hr hlo rfl rfl dX8_ahead_24

theorem dX8_comes_0 : decode cX8_comes 0 = .ok (.aload_n 0, 1) := by decide +kernel
theorem dX8_comes_1 : decode cX8_comes 1 = .ok (.getfield 19, 3) := by decide +kernel
theorem dX8_comes_4 : decode cX8_comes 4 = .ok (.iload_n 1, 1) := by decide +kernel
theorem dX8_comes_5 : decode cX8_comes 5 = .ok (.invokevirtual 102, 3) := by decide +kernel
theorem dX8_comes_8 : decode cX8_comes 8 = .ok (.ifCond .eq 14, 3) := by decide +kernel
theorem dX8_comes_22 : decode cX8_comes 22 = .ok (.bipush (-2), 2) := by decide +kernel
theorem dX8_comes_24 : decode cX8_comes 24 = .ok (.ireturn, 1) := by decide +kernel
set_option maxHeartbeats 4000000 in
set_option maxRecDepth 100000 in
theorem k_X8_comes (l : Launch) (D : va_G) (K : Nat → ClassId) (ad : Nat → Nat) (mm : Option Nat) (p1 : Int32) : Met l yX8_comes (wM yX8_comes cX8_comes 2 (some .int)) (rmD 1) (va_Pc [.ref (ad 0), .int p1] (wPre D K ad (xG ad K mm) 132 xv0 xa0 xl0)) (vp_Si (fun r => r = (-2))) 0 0 (fun _ => False) := by
  refine x_met (by decide) (Nat.le_of_ble_eq_true rfl) ?_
  intro p e s m below meth c ls hE hr hlo hnm hB hl
  have hE : CallFix p m c cX8_comes 2 s _ tbG "TaleCourt" := hE
  obtain ⟨hP, hK, hN⟩ := hB
  have hS : va_S (inW ad 132) s.heap s.heap [] := va_S.rf
  have hl : lv_has ls 2 [(0, .ref (ad 0)), (1, .int p1)] := hl
  refine lv_aload_n hE.1 hE.2.1 dX8_comes_0 rfl (lv_at hl 0 rfl) ?_
  refine x_get (x := .ref (ad 3)) hE hK hP 0 (by decide) (xG_8 rfl) rfl hin8 1 (by decide) mw_481 rfl dX8_comes_1 ?_
  refine lv_iload_n hE.1 hE.2.1 dX8_comes_4 rfl (lv_at hl 1 rfl) ?_
  refine x_vp (nn := 1) (As := [.int p1]) (rest := []) hE (k_X1_hasMotif l D K ad mm p1) wPre_blind (wPre_now hK hN hP) (x_recv hK hP 3 (by decide) (xG_1 rfl) rfl) rfl mw_694 mw_695 mw_696 mw_116 mw_697 (by decide +kernel) ⟨by decide, by decide⟩ hl.1 rfl (by decide) ⟨Nat.zero_le _, Nat.zero_le _⟩ dX8_comes_5 (fun r hr => ?_)
  subst hr
  refine lv_if_eq (tgt := 22) hE.1 hE.2.1 dX8_comes_8 (by decide) (fun _ => ?_) (fun h => absurd (by decide) h)
  refine lv_bipush (v := (-2)) hE.1 hE.2.1 dX8_comes_22 (by decide) ?_
  exact x_ri hE hr hlo rfl rfl dX8_comes_24

theorem dX8_chain_0 : decode cX8_chain 0 = .ok (.aload_n 0, 1) := by decide +kernel
theorem dX8_chain_1 : decode cX8_chain 1 = .ok (.getfield 19, 3) := by decide +kernel
theorem dX8_chain_4 : decode cX8_chain 4 = .ok (.iload_n 1, 1) := by decide +kernel
theorem dX8_chain_5 : decode cX8_chain 5 = .ok (.invokevirtual 102, 3) := by decide +kernel
theorem dX8_chain_8 : decode cX8_chain 8 = .ok (.ifCond .eq 14, 3) := by decide +kernel
theorem dX8_chain_22 : decode cX8_chain 22 = .ok (.bipush (-2), 2) := by decide +kernel
theorem dX8_chain_24 : decode cX8_chain 24 = .ok (.ireturn, 1) := by decide +kernel
set_option maxHeartbeats 4000000 in
set_option maxRecDepth 100000 in
theorem k_X8_chain (l : Launch) (D : va_G) (K : Nat → ClassId) (ad : Nat → Nat) (mm : Option Nat) (p1 : Int32) (p2 : Int32) : Met l yX8_chain (wM yX8_chain cX8_chain 3 (some .int)) (rmD 1) (va_Pc [.ref (ad 0), .int p1, .int p2] (wPre D K ad (xG ad K mm) 132 xv0 xa0 xl0)) (vp_Si (fun r => r = (-2))) 0 0 (fun _ => False) := by
  refine x_met (by decide) (Nat.le_of_ble_eq_true rfl) ?_
  intro p e s m below meth c ls hE hr hlo hnm hB hl
  have hE : CallFix p m c cX8_chain 3 s _ tbG "TaleCourt" := hE
  obtain ⟨hP, hK, hN⟩ := hB
  have hS : va_S (inW ad 132) s.heap s.heap [] := va_S.rf
  have hl : lv_has ls 3 [(0, .ref (ad 0)), (1, .int p1), (2, .int p2)] := hl
  refine lv_aload_n hE.1 hE.2.1 dX8_chain_0 rfl (lv_at hl 0 rfl) ?_
  refine x_get (x := .ref (ad 3)) hE hK hP 0 (by decide) (xG_8 rfl) rfl hin8 1 (by decide) mw_481 rfl dX8_chain_1 ?_
  refine lv_iload_n hE.1 hE.2.1 dX8_chain_4 rfl (lv_at hl 1 rfl) ?_
  refine x_vp (nn := 1) (As := [.int p1]) (rest := []) hE (k_X1_hasMotif l D K ad mm p1) wPre_blind (wPre_now hK hN hP) (x_recv hK hP 3 (by decide) (xG_1 rfl) rfl) rfl mw_694 mw_695 mw_696 mw_116 mw_697 (by decide +kernel) ⟨by decide, by decide⟩ hl.1 rfl (by decide) ⟨Nat.zero_le _, Nat.zero_le _⟩ dX8_chain_5 (fun r hr => ?_)
  subst hr
  refine lv_if_eq (tgt := 22) hE.1 hE.2.1 dX8_chain_8 (by decide) (fun _ => ?_) (fun h => absurd (by decide) h)
  refine lv_bipush (v := (-2)) hE.1 hE.2.1 dX8_chain_22 (by decide) ?_
  exact x_ri hE hr hlo rfl rfl dX8_chain_24

theorem dX8_say_0 : decode cX8_say 0 = .ok (.aload_n 0, 1) := by decide +kernel
theorem dX8_say_1 : decode cX8_say 1 = .ok (.getfield 19, 3) := by decide +kernel
theorem dX8_say_4 : decode cX8_say 4 = .ok (.iload_n 1, 1) := by decide +kernel
theorem dX8_say_5 : decode cX8_say 5 = .ok (.invokevirtual 102, 3) := by decide +kernel
theorem dX8_say_8 : decode cX8_say 8 = .ok (.ifCond .ne 6, 3) := by decide +kernel
theorem dX8_say_11 : decode cX8_say 11 = .ok (.bipush (-2), 2) := by decide +kernel
theorem dX8_say_13 : decode cX8_say 13 = .ok (.ireturn, 1) := by decide +kernel
set_option maxHeartbeats 4000000 in
set_option maxRecDepth 100000 in
theorem k_X8_say (l : Launch) (D : va_G) (K : Nat → ClassId) (ad : Nat → Nat) (mm : Option Nat) (p1 : Int32) : Met l yX8_say (wM yX8_say cX8_say 2 (some .int)) (rmD 1) (va_Pc [.ref (ad 0), .int p1] (wPre D K ad (xG ad K mm) 132 xv0 xa0 xl0)) (vp_Si (fun r => r = (-2))) 0 0 (fun _ => False) := by
  refine x_met (by decide) (Nat.le_of_ble_eq_true rfl) ?_
  intro p e s m below meth c ls hE hr hlo hnm hB hl
  have hE : CallFix p m c cX8_say 2 s _ tbG "TaleCourt" := hE
  obtain ⟨hP, hK, hN⟩ := hB
  have hS : va_S (inW ad 132) s.heap s.heap [] := va_S.rf
  have hl : lv_has ls 2 [(0, .ref (ad 0)), (1, .int p1)] := hl
  refine lv_aload_n hE.1 hE.2.1 dX8_say_0 rfl (lv_at hl 0 rfl) ?_
  refine x_get (x := .ref (ad 3)) hE hK hP 0 (by decide) (xG_8 rfl) rfl hin8 1 (by decide) mw_481 rfl dX8_say_1 ?_
  refine lv_iload_n hE.1 hE.2.1 dX8_say_4 rfl (lv_at hl 1 rfl) ?_
  refine x_vp (nn := 1) (As := [.int p1]) (rest := []) hE (k_X1_hasMotif l D K ad mm p1) wPre_blind (wPre_now hK hN hP) (x_recv hK hP 3 (by decide) (xG_1 rfl) rfl) rfl mw_694 mw_695 mw_696 mw_116 mw_697 (by decide +kernel) ⟨by decide, by decide⟩ hl.1 rfl (by decide) ⟨Nat.zero_le _, Nat.zero_le _⟩ dX8_say_5 (fun r hr => ?_)
  subst hr
  refine lv_if_ne (tgt := 14) hE.1 hE.2.1 dX8_say_8 (by decide) (fun h => absurd (by decide) h) (fun _ => ?_)
  refine lv_bipush (v := (-2)) hE.1 hE.2.1 dX8_say_11 (by decide) ?_
  exact x_ri hE hr hlo rfl rfl dX8_say_13

theorem dX8_hush_0 : decode cX8_hush 0 = .ok (.aload_n 0, 1) := by decide +kernel
theorem dX8_hush_1 : decode cX8_hush 1 = .ok (.getfield 19, 3) := by decide +kernel
theorem dX8_hush_4 : decode cX8_hush 4 = .ok (.invokevirtual 157, 3) := by decide +kernel
theorem dX8_hush_7 : decode cX8_hush 7 = .ok (.ifCond .ne 6, 3) := by decide +kernel
theorem dX8_hush_10 : decode cX8_hush 10 = .ok (.bipush (-2), 2) := by decide +kernel
theorem dX8_hush_12 : decode cX8_hush 12 = .ok (.ireturn, 1) := by decide +kernel
set_option maxHeartbeats 4000000 in
set_option maxRecDepth 100000 in
theorem k_X8_hush (l : Launch) (D : va_G) (K : Nat → ClassId) (ad : Nat → Nat) (mm : Option Nat) : Met l yX8_hush (wM yX8_hush cX8_hush 1 (some .int)) (rmD 1) (va_Pc [.ref (ad 0)] (wPre D K ad (xG ad K mm) 132 xv0 xa0 xl0)) (vp_Si (fun r => r = (-2))) 0 0 (fun _ => False) := by
  refine x_met (by decide) (Nat.le_of_ble_eq_true rfl) ?_
  intro p e s m below meth c ls hE hr hlo hnm hB hl
  have hE : CallFix p m c cX8_hush 1 s _ tbG "TaleCourt" := hE
  obtain ⟨hP, hK, hN⟩ := hB
  have hS : va_S (inW ad 132) s.heap s.heap [] := va_S.rf
  have hl : lv_has ls 1 [(0, .ref (ad 0))] := hl
  refine lv_aload_n hE.1 hE.2.1 dX8_hush_0 rfl (lv_at hl 0 rfl) ?_
  refine x_get (x := .ref (ad 3)) hE hK hP 0 (by decide) (xG_8 rfl) rfl hin8 1 (by decide) mw_481 rfl dX8_hush_1 ?_
  refine x_vp (nn := 0) (As := []) (rest := []) hE (k_X1_stands l D K ad mm ) wPre_blind (wPre_now hK hN hP) (x_recv hK hP 3 (by decide) (xG_1 rfl) rfl) rfl mw_788 mw_789 mw_790 mw_116 mw_791 (by decide +kernel) ⟨by decide, by decide⟩ hl.1 rfl (by decide) ⟨Nat.zero_le _, Nat.zero_le _⟩ dX8_hush_4 (fun r hr => ?_)
  subst hr
  refine lv_if_ne (tgt := 13) hE.1 hE.2.1 dX8_hush_7 (by decide) (fun h => absurd (by decide) h) (fun _ => ?_)
  refine lv_bipush (v := (-2)) hE.1 hE.2.1 dX8_hush_10 (by decide) ?_
  exact x_ri hE hr hlo rfl rfl dX8_hush_12

theorem dX8_unsay_0 : decode cX8_unsay 0 = .ok (.aload_n 0, 1) := by decide +kernel
theorem dX8_unsay_1 : decode cX8_unsay 1 = .ok (.getfield 19, 3) := by decide +kernel
theorem dX8_unsay_4 : decode cX8_unsay 4 = .ok (.invokevirtual 157, 3) := by decide +kernel
theorem dX8_unsay_7 : decode cX8_unsay 7 = .ok (.ifCond .ne 6, 3) := by decide +kernel
theorem dX8_unsay_10 : decode cX8_unsay 10 = .ok (.bipush (-2), 2) := by decide +kernel
theorem dX8_unsay_12 : decode cX8_unsay 12 = .ok (.ireturn, 1) := by decide +kernel
set_option maxHeartbeats 4000000 in
set_option maxRecDepth 100000 in
theorem k_X8_unsay (l : Launch) (D : va_G) (K : Nat → ClassId) (ad : Nat → Nat) (mm : Option Nat) : Met l yX8_unsay (wM yX8_unsay cX8_unsay 1 (some .int)) (rmD 1) (va_Pc [.ref (ad 0)] (wPre D K ad (xG ad K mm) 132 xv0 xa0 xl0)) (vp_Si (fun r => r = (-2))) 0 0 (fun _ => False) := by
  refine x_met (by decide) (Nat.le_of_ble_eq_true rfl) ?_
  intro p e s m below meth c ls hE hr hlo hnm hB hl
  have hE : CallFix p m c cX8_unsay 1 s _ tbG "TaleCourt" := hE
  obtain ⟨hP, hK, hN⟩ := hB
  have hS : va_S (inW ad 132) s.heap s.heap [] := va_S.rf
  have hl : lv_has ls 1 [(0, .ref (ad 0))] := hl
  refine lv_aload_n hE.1 hE.2.1 dX8_unsay_0 rfl (lv_at hl 0 rfl) ?_
  refine x_get (x := .ref (ad 3)) hE hK hP 0 (by decide) (xG_8 rfl) rfl hin8 1 (by decide) mw_481 rfl dX8_unsay_1 ?_
  refine x_vp (nn := 0) (As := []) (rest := []) hE (k_X1_stands l D K ad mm ) wPre_blind (wPre_now hK hN hP) (x_recv hK hP 3 (by decide) (xG_1 rfl) rfl) rfl mw_788 mw_789 mw_790 mw_116 mw_791 (by decide +kernel) ⟨by decide, by decide⟩ hl.1 rfl (by decide) ⟨Nat.zero_le _, Nat.zero_le _⟩ dX8_unsay_4 (fun r hr => ?_)
  subst hr
  refine lv_if_ne (tgt := 13) hE.1 hE.2.1 dX8_unsay_7 (by decide) (fun h => absurd (by decide) h) (fun _ => ?_)
  refine lv_bipush (v := (-2)) hE.1 hE.2.1 dX8_unsay_10 (by decide) ?_
  exact x_ri hE hr hlo rfl rfl dX8_unsay_12

theorem dX8_anew_0 : decode cX8_anew 0 = .ok (.aload_n 0, 1) := by decide +kernel
theorem dX8_anew_1 : decode cX8_anew 1 = .ok (.getfield 19, 3) := by decide +kernel
theorem dX8_anew_4 : decode cX8_anew 4 = .ok (.invokevirtual 157, 3) := by decide +kernel
theorem dX8_anew_7 : decode cX8_anew 7 = .ok (.ifCond .ne 6, 3) := by decide +kernel
theorem dX8_anew_10 : decode cX8_anew 10 = .ok (.bipush (-2), 2) := by decide +kernel
theorem dX8_anew_12 : decode cX8_anew 12 = .ok (.ireturn, 1) := by decide +kernel
set_option maxHeartbeats 4000000 in
set_option maxRecDepth 100000 in
theorem k_X8_anew (l : Launch) (D : va_G) (K : Nat → ClassId) (ad : Nat → Nat) (mm : Option Nat) : Met l yX8_anew (wM yX8_anew cX8_anew 2 (some .int)) (rmD 1) (va_Pc [.ref (ad 0)] (wPre D K ad (xG ad K mm) 132 xv0 xa0 xl0)) (vp_Si (fun r => r = (-2))) 0 0 (fun _ => False) := by
  refine x_met (by decide) (Nat.le_of_ble_eq_true rfl) ?_
  intro p e s m below meth c ls hE hr hlo hnm hB hl
  have hE : CallFix p m c cX8_anew 2 s _ tbG "TaleCourt" := hE
  obtain ⟨hP, hK, hN⟩ := hB
  have hS : va_S (inW ad 132) s.heap s.heap [] := va_S.rf
  have hl : lv_has ls 2 [(0, .ref (ad 0))] := hl
  refine lv_aload_n hE.1 hE.2.1 dX8_anew_0 rfl (lv_at hl 0 rfl) ?_
  refine x_get (x := .ref (ad 3)) hE hK hP 0 (by decide) (xG_8 rfl) rfl hin8 1 (by decide) mw_481 rfl dX8_anew_1 ?_
  refine x_vp (nn := 0) (As := []) (rest := []) hE (k_X1_stands l D K ad mm ) wPre_blind (wPre_now hK hN hP) (x_recv hK hP 3 (by decide) (xG_1 rfl) rfl) rfl mw_788 mw_789 mw_790 mw_116 mw_791 (by decide +kernel) ⟨by decide, by decide⟩ hl.1 rfl (by decide) ⟨Nat.zero_le _, Nat.zero_le _⟩ dX8_anew_4 (fun r hr => ?_)
  subst hr
  refine lv_if_ne (tgt := 13) hE.1 hE.2.1 dX8_anew_7 (by decide) (fun h => absurd (by decide) h) (fun _ => ?_)
  refine lv_bipush (v := (-2)) hE.1 hE.2.1 dX8_anew_10 (by decide) ?_
  exact x_ri hE hr hlo rfl rfl dX8_anew_12

theorem dX8_told_0 : decode cX8_told 0 = .ok (.aload_n 0, 1) := by decide +kernel
theorem dX8_told_1 : decode cX8_told 1 = .ok (.getfield 19, 3) := by decide +kernel
theorem dX8_told_4 : decode cX8_told 4 = .ok (.invokevirtual 157, 3) := by decide +kernel
theorem dX8_told_7 : decode cX8_told 7 = .ok (.ifCond .ne 6, 3) := by decide +kernel
theorem dX8_told_10 : decode cX8_told 10 = .ok (.bipush (-2), 2) := by decide +kernel
theorem dX8_told_12 : decode cX8_told 12 = .ok (.ireturn, 1) := by decide +kernel
set_option maxHeartbeats 4000000 in
set_option maxRecDepth 100000 in
theorem k_X8_told (l : Launch) (D : va_G) (K : Nat → ClassId) (ad : Nat → Nat) (mm : Option Nat) (p1 : Int32) : Met l yX8_told (wM yX8_told cX8_told 2 (some .int)) (rmD 1) (va_Pc [.ref (ad 0), .int p1] (wPre D K ad (xG ad K mm) 132 xv0 xa0 xl0)) (vp_Si (fun r => r = (-2))) 0 0 (fun _ => False) := by
  refine x_met (by decide) (Nat.le_of_ble_eq_true rfl) ?_
  intro p e s m below meth c ls hE hr hlo hnm hB hl
  have hE : CallFix p m c cX8_told 2 s _ tbG "TaleCourt" := hE
  obtain ⟨hP, hK, hN⟩ := hB
  have hS : va_S (inW ad 132) s.heap s.heap [] := va_S.rf
  have hl : lv_has ls 2 [(0, .ref (ad 0)), (1, .int p1)] := hl
  refine lv_aload_n hE.1 hE.2.1 dX8_told_0 rfl (lv_at hl 0 rfl) ?_
  refine x_get (x := .ref (ad 3)) hE hK hP 0 (by decide) (xG_8 rfl) rfl hin8 1 (by decide) mw_481 rfl dX8_told_1 ?_
  refine x_vp (nn := 0) (As := []) (rest := []) hE (k_X1_stands l D K ad mm ) wPre_blind (wPre_now hK hN hP) (x_recv hK hP 3 (by decide) (xG_1 rfl) rfl) rfl mw_788 mw_789 mw_790 mw_116 mw_791 (by decide +kernel) ⟨by decide, by decide⟩ hl.1 rfl (by decide) ⟨Nat.zero_le _, Nat.zero_le _⟩ dX8_told_4 (fun r hr => ?_)
  subst hr
  refine lv_if_ne (tgt := 13) hE.1 hE.2.1 dX8_told_7 (by decide) (fun h => absurd (by decide) h) (fun _ => ?_)
  refine lv_bipush (v := (-2)) hE.1 hE.2.1 dX8_told_10 (by decide) ?_
  exact x_ri hE hr hlo rfl rfl dX8_told_12

theorem dX8_length_0 : decode cX8_length 0 = .ok (.aload_n 0, 1) := by decide +kernel
theorem dX8_length_1 : decode cX8_length 1 = .ok (.getfield 19, 3) := by decide +kernel
theorem dX8_length_4 : decode cX8_length 4 = .ok (.invokevirtual 157, 3) := by decide +kernel
theorem dX8_length_7 : decode cX8_length 7 = .ok (.ifCond .eq 13, 3) := by decide +kernel
theorem dX8_length_20 : decode cX8_length 20 = .ok (.bipush (-2), 2) := by decide +kernel
theorem dX8_length_22 : decode cX8_length 22 = .ok (.ireturn, 1) := by decide +kernel
set_option maxHeartbeats 4000000 in
set_option maxRecDepth 100000 in
theorem k_X8_length (l : Launch) (D : va_G) (K : Nat → ClassId) (ad : Nat → Nat) (mm : Option Nat) : Met l yX8_length (wM yX8_length cX8_length 1 (some .int)) (rmD 1) (va_Pc [.ref (ad 0)] (wPre D K ad (xG ad K mm) 132 xv0 xa0 xl0)) (vp_Si (fun r => r = (-2))) 0 0 (fun _ => False) := by
  refine x_met (by decide) (Nat.le_of_ble_eq_true rfl) ?_
  intro p e s m below meth c ls hE hr hlo hnm hB hl
  have hE : CallFix p m c cX8_length 1 s _ tbG "TaleCourt" := hE
  obtain ⟨hP, hK, hN⟩ := hB
  have hS : va_S (inW ad 132) s.heap s.heap [] := va_S.rf
  have hl : lv_has ls 1 [(0, .ref (ad 0))] := hl
  refine lv_aload_n hE.1 hE.2.1 dX8_length_0 rfl (lv_at hl 0 rfl) ?_
  refine x_get (x := .ref (ad 3)) hE hK hP 0 (by decide) (xG_8 rfl) rfl hin8 1 (by decide) mw_481 rfl dX8_length_1 ?_
  refine x_vp (nn := 0) (As := []) (rest := []) hE (k_X1_stands l D K ad mm ) wPre_blind (wPre_now hK hN hP) (x_recv hK hP 3 (by decide) (xG_1 rfl) rfl) rfl mw_788 mw_789 mw_790 mw_116 mw_791 (by decide +kernel) ⟨by decide, by decide⟩ hl.1 rfl (by decide) ⟨Nat.zero_le _, Nat.zero_le _⟩ dX8_length_4 (fun r hr => ?_)
  subst hr
  refine lv_if_eq (tgt := 20) hE.1 hE.2.1 dX8_length_7 (by decide) (fun _ => ?_) (fun h => absurd (by decide) h)
  refine lv_bipush (v := (-2)) hE.1 hE.2.1 dX8_length_20 (by decide) ?_
  exact x_ri hE hr hlo rfl rfl dX8_length_22

theorem dX8_whose_0 : decode cX8_whose 0 = .ok (.aload_n 0, 1) := by decide +kernel
theorem dX8_whose_1 : decode cX8_whose 1 = .ok (.getfield 19, 3) := by decide +kernel
theorem dX8_whose_4 : decode cX8_whose 4 = .ok (.invokevirtual 157, 3) := by decide +kernel
theorem dX8_whose_7 : decode cX8_whose 7 = .ok (.ifCond .eq 13, 3) := by decide +kernel
theorem dX8_whose_20 : decode cX8_whose 20 = .ok (.bipush (-2), 2) := by decide +kernel
theorem dX8_whose_22 : decode cX8_whose 22 = .ok (.ireturn, 1) := by decide +kernel
set_option maxHeartbeats 4000000 in
set_option maxRecDepth 100000 in
theorem k_X8_whose (l : Launch) (D : va_G) (K : Nat → ClassId) (ad : Nat → Nat) (mm : Option Nat) : Met l yX8_whose (wM yX8_whose cX8_whose 1 (some .int)) (rmD 1) (va_Pc [.ref (ad 0)] (wPre D K ad (xG ad K mm) 132 xv0 xa0 xl0)) (vp_Si (fun r => r = (-2))) 0 0 (fun _ => False) := by
  refine x_met (by decide) (Nat.le_of_ble_eq_true rfl) ?_
  intro p e s m below meth c ls hE hr hlo hnm hB hl
  have hE : CallFix p m c cX8_whose 1 s _ tbG "TaleCourt" := hE
  obtain ⟨hP, hK, hN⟩ := hB
  have hS : va_S (inW ad 132) s.heap s.heap [] := va_S.rf
  have hl : lv_has ls 1 [(0, .ref (ad 0))] := hl
  refine lv_aload_n hE.1 hE.2.1 dX8_whose_0 rfl (lv_at hl 0 rfl) ?_
  refine x_get (x := .ref (ad 3)) hE hK hP 0 (by decide) (xG_8 rfl) rfl hin8 1 (by decide) mw_481 rfl dX8_whose_1 ?_
  refine x_vp (nn := 0) (As := []) (rest := []) hE (k_X1_stands l D K ad mm ) wPre_blind (wPre_now hK hN hP) (x_recv hK hP 3 (by decide) (xG_1 rfl) rfl) rfl mw_788 mw_789 mw_790 mw_116 mw_791 (by decide +kernel) ⟨by decide, by decide⟩ hl.1 rfl (by decide) ⟨Nat.zero_le _, Nat.zero_le _⟩ dX8_whose_4 (fun r hr => ?_)
  subst hr
  refine lv_if_eq (tgt := 20) hE.1 hE.2.1 dX8_whose_7 (by decide) (fun _ => ?_) (fun h => absurd (by decide) h)
  refine lv_bipush (v := (-2)) hE.1 hE.2.1 dX8_whose_20 (by decide) ?_
  exact x_ri hE hr hlo rfl rfl dX8_whose_22

theorem dX8_may_0 : decode cX8_may 0 = .ok (.aload_n 0, 1) := by decide +kernel
theorem dX8_may_1 : decode cX8_may 1 = .ok (.getfield 19, 3) := by decide +kernel
theorem dX8_may_4 : decode cX8_may 4 = .ok (.invokevirtual 157, 3) := by decide +kernel
theorem dX8_may_7 : decode cX8_may 7 = .ok (.ifCond .eq 13, 3) := by decide +kernel
theorem dX8_may_20 : decode cX8_may 20 = .ok (.bipush (-2), 2) := by decide +kernel
theorem dX8_may_22 : decode cX8_may 22 = .ok (.ireturn, 1) := by decide +kernel
set_option maxHeartbeats 4000000 in
set_option maxRecDepth 100000 in
theorem k_X8_may (l : Launch) (D : va_G) (K : Nat → ClassId) (ad : Nat → Nat) (mm : Option Nat) : Met l yX8_may (wM yX8_may cX8_may 1 (some .int)) (rmD 1) (va_Pc [.ref (ad 0)] (wPre D K ad (xG ad K mm) 132 xv0 xa0 xl0)) (vp_Si (fun r => r = (-2))) 0 0 (fun _ => False) := by
  refine x_met (by decide) (Nat.le_of_ble_eq_true rfl) ?_
  intro p e s m below meth c ls hE hr hlo hnm hB hl
  have hE : CallFix p m c cX8_may 1 s _ tbG "TaleCourt" := hE
  obtain ⟨hP, hK, hN⟩ := hB
  have hS : va_S (inW ad 132) s.heap s.heap [] := va_S.rf
  have hl : lv_has ls 1 [(0, .ref (ad 0))] := hl
  refine lv_aload_n hE.1 hE.2.1 dX8_may_0 rfl (lv_at hl 0 rfl) ?_
  refine x_get (x := .ref (ad 3)) hE hK hP 0 (by decide) (xG_8 rfl) rfl hin8 1 (by decide) mw_481 rfl dX8_may_1 ?_
  refine x_vp (nn := 0) (As := []) (rest := []) hE (k_X1_stands l D K ad mm ) wPre_blind (wPre_now hK hN hP) (x_recv hK hP 3 (by decide) (xG_1 rfl) rfl) rfl mw_788 mw_789 mw_790 mw_116 mw_791 (by decide +kernel) ⟨by decide, by decide⟩ hl.1 rfl (by decide) ⟨Nat.zero_le _, Nat.zero_le _⟩ dX8_may_4 (fun r hr => ?_)
  subst hr
  refine lv_if_eq (tgt := 20) hE.1 hE.2.1 dX8_may_7 (by decide) (fun _ => ?_) (fun h => absurd (by decide) h)
  refine lv_bipush (v := (-2)) hE.1 hE.2.1 dX8_may_20 (by decide) ?_
  exact x_ri hE hr hlo rfl rfl dX8_may_22

theorem dX8_why_0 : decode cX8_why 0 = .ok (.aload_n 0, 1) := by decide +kernel
theorem dX8_why_1 : decode cX8_why 1 = .ok (.getfield 19, 3) := by decide +kernel
theorem dX8_why_4 : decode cX8_why 4 = .ok (.iload_n 1, 1) := by decide +kernel
theorem dX8_why_5 : decode cX8_why 5 = .ok (.invokevirtual 102, 3) := by decide +kernel
theorem dX8_why_8 : decode cX8_why 8 = .ok (.ifCond .eq 14, 3) := by decide +kernel
theorem dX8_why_22 : decode cX8_why 22 = .ok (.bipush (-2), 2) := by decide +kernel
theorem dX8_why_24 : decode cX8_why 24 = .ok (.ireturn, 1) := by decide +kernel
set_option maxHeartbeats 4000000 in
set_option maxRecDepth 100000 in
theorem k_X8_why (l : Launch) (D : va_G) (K : Nat → ClassId) (ad : Nat → Nat) (mm : Option Nat) (p1 : Int32) : Met l yX8_why (wM yX8_why cX8_why 2 (some .int)) (rmD 1) (va_Pc [.ref (ad 0), .int p1] (wPre D K ad (xG ad K mm) 132 xv0 xa0 xl0)) (vp_Si (fun r => r = (-2))) 0 0 (fun _ => False) := by
  refine x_met (by decide) (Nat.le_of_ble_eq_true rfl) ?_
  intro p e s m below meth c ls hE hr hlo hnm hB hl
  have hE : CallFix p m c cX8_why 2 s _ tbG "TaleCourt" := hE
  obtain ⟨hP, hK, hN⟩ := hB
  have hS : va_S (inW ad 132) s.heap s.heap [] := va_S.rf
  have hl : lv_has ls 2 [(0, .ref (ad 0)), (1, .int p1)] := hl
  refine lv_aload_n hE.1 hE.2.1 dX8_why_0 rfl (lv_at hl 0 rfl) ?_
  refine x_get (x := .ref (ad 3)) hE hK hP 0 (by decide) (xG_8 rfl) rfl hin8 1 (by decide) mw_481 rfl dX8_why_1 ?_
  refine lv_iload_n hE.1 hE.2.1 dX8_why_4 rfl (lv_at hl 1 rfl) ?_
  refine x_vp (nn := 1) (As := [.int p1]) (rest := []) hE (k_X1_hasMotif l D K ad mm p1) wPre_blind (wPre_now hK hN hP) (x_recv hK hP 3 (by decide) (xG_1 rfl) rfl) rfl mw_694 mw_695 mw_696 mw_116 mw_697 (by decide +kernel) ⟨by decide, by decide⟩ hl.1 rfl (by decide) ⟨Nat.zero_le _, Nat.zero_le _⟩ dX8_why_5 (fun r hr => ?_)
  subst hr
  refine lv_if_eq (tgt := 22) hE.1 hE.2.1 dX8_why_8 (by decide) (fun _ => ?_) (fun h => absurd (by decide) h)
  refine lv_bipush (v := (-2)) hE.1 hE.2.1 dX8_why_22 (by decide) ?_
  exact x_ri hE hr hlo rfl rfl dX8_why_24

theorem dX8_owed_0 : decode cX8_owed 0 = .ok (.aload_n 0, 1) := by decide +kernel
theorem dX8_owed_1 : decode cX8_owed 1 = .ok (.getfield 19, 3) := by decide +kernel
theorem dX8_owed_4 : decode cX8_owed 4 = .ok (.invokevirtual 157, 3) := by decide +kernel
theorem dX8_owed_7 : decode cX8_owed 7 = .ok (.ifCond .eq 13, 3) := by decide +kernel
theorem dX8_owed_20 : decode cX8_owed 20 = .ok (.bipush (-2), 2) := by decide +kernel
theorem dX8_owed_22 : decode cX8_owed 22 = .ok (.ireturn, 1) := by decide +kernel
set_option maxHeartbeats 4000000 in
set_option maxRecDepth 100000 in
theorem k_X8_owed (l : Launch) (D : va_G) (K : Nat → ClassId) (ad : Nat → Nat) (mm : Option Nat) : Met l yX8_owed (wM yX8_owed cX8_owed 1 (some .int)) (rmD 1) (va_Pc [.ref (ad 0)] (wPre D K ad (xG ad K mm) 132 xv0 xa0 xl0)) (vp_Si (fun r => r = (-2))) 0 0 (fun _ => False) := by
  refine x_met (by decide) (Nat.le_of_ble_eq_true rfl) ?_
  intro p e s m below meth c ls hE hr hlo hnm hB hl
  have hE : CallFix p m c cX8_owed 1 s _ tbG "TaleCourt" := hE
  obtain ⟨hP, hK, hN⟩ := hB
  have hS : va_S (inW ad 132) s.heap s.heap [] := va_S.rf
  have hl : lv_has ls 1 [(0, .ref (ad 0))] := hl
  refine lv_aload_n hE.1 hE.2.1 dX8_owed_0 rfl (lv_at hl 0 rfl) ?_
  refine x_get (x := .ref (ad 3)) hE hK hP 0 (by decide) (xG_8 rfl) rfl hin8 1 (by decide) mw_481 rfl dX8_owed_1 ?_
  refine x_vp (nn := 0) (As := []) (rest := []) hE (k_X1_stands l D K ad mm ) wPre_blind (wPre_now hK hN hP) (x_recv hK hP 3 (by decide) (xG_1 rfl) rfl) rfl mw_788 mw_789 mw_790 mw_116 mw_791 (by decide +kernel) ⟨by decide, by decide⟩ hl.1 rfl (by decide) ⟨Nat.zero_le _, Nat.zero_le _⟩ dX8_owed_4 (fun r hr => ?_)
  subst hr
  refine lv_if_eq (tgt := 20) hE.1 hE.2.1 dX8_owed_7 (by decide) (fun _ => ?_) (fun h => absurd (by decide) h)
  refine lv_bipush (v := (-2)) hE.1 hE.2.1 dX8_owed_20 (by decide) ?_
  exact x_ri hE hr hlo rfl rfl dX8_owed_22

theorem dX8_due_0 : decode cX8_due 0 = .ok (.aload_n 0, 1) := by decide +kernel
theorem dX8_due_1 : decode cX8_due 1 = .ok (.getfield 19, 3) := by decide +kernel
theorem dX8_due_4 : decode cX8_due 4 = .ok (.iload_n 1, 1) := by decide +kernel
theorem dX8_due_5 : decode cX8_due 5 = .ok (.invokevirtual 102, 3) := by decide +kernel
theorem dX8_due_8 : decode cX8_due 8 = .ok (.ifCond .ne 6, 3) := by decide +kernel
theorem dX8_due_11 : decode cX8_due 11 = .ok (.bipush (-2), 2) := by decide +kernel
theorem dX8_due_13 : decode cX8_due 13 = .ok (.ireturn, 1) := by decide +kernel
set_option maxHeartbeats 4000000 in
set_option maxRecDepth 100000 in
theorem k_X8_due (l : Launch) (D : va_G) (K : Nat → ClassId) (ad : Nat → Nat) (mm : Option Nat) (p1 : Int32) : Met l yX8_due (wM yX8_due cX8_due 2 (some .int)) (rmD 1) (va_Pc [.ref (ad 0), .int p1] (wPre D K ad (xG ad K mm) 132 xv0 xa0 xl0)) (vp_Si (fun r => r = (-2))) 0 0 (fun _ => False) := by
  refine x_met (by decide) (Nat.le_of_ble_eq_true rfl) ?_
  intro p e s m below meth c ls hE hr hlo hnm hB hl
  have hE : CallFix p m c cX8_due 2 s _ tbG "TaleCourt" := hE
  obtain ⟨hP, hK, hN⟩ := hB
  have hS : va_S (inW ad 132) s.heap s.heap [] := va_S.rf
  have hl : lv_has ls 2 [(0, .ref (ad 0)), (1, .int p1)] := hl
  refine lv_aload_n hE.1 hE.2.1 dX8_due_0 rfl (lv_at hl 0 rfl) ?_
  refine x_get (x := .ref (ad 3)) hE hK hP 0 (by decide) (xG_8 rfl) rfl hin8 1 (by decide) mw_481 rfl dX8_due_1 ?_
  refine lv_iload_n hE.1 hE.2.1 dX8_due_4 rfl (lv_at hl 1 rfl) ?_
  refine x_vp (nn := 1) (As := [.int p1]) (rest := []) hE (k_X1_hasMotif l D K ad mm p1) wPre_blind (wPre_now hK hN hP) (x_recv hK hP 3 (by decide) (xG_1 rfl) rfl) rfl mw_694 mw_695 mw_696 mw_116 mw_697 (by decide +kernel) ⟨by decide, by decide⟩ hl.1 rfl (by decide) ⟨Nat.zero_le _, Nat.zero_le _⟩ dX8_due_5 (fun r hr => ?_)
  subst hr
  refine lv_if_ne (tgt := 14) hE.1 hE.2.1 dX8_due_8 (by decide) (fun h => absurd (by decide) h) (fun _ => ?_)
  refine lv_bipush (v := (-2)) hE.1 hE.2.1 dX8_due_11 (by decide) ?_
  exact x_ri hE hr hlo rfl rfl dX8_due_13

theorem dX8_whole_0 : decode cX8_whole 0 = .ok (.aload_n 0, 1) := by decide +kernel
theorem dX8_whole_1 : decode cX8_whole 1 = .ok (.getfield 19, 3) := by decide +kernel
theorem dX8_whole_4 : decode cX8_whole 4 = .ok (.invokevirtual 157, 3) := by decide +kernel
theorem dX8_whole_7 : decode cX8_whole 7 = .ok (.ifCond .ne 6, 3) := by decide +kernel
theorem dX8_whole_10 : decode cX8_whole 10 = .ok (.bipush (-2), 2) := by decide +kernel
theorem dX8_whole_12 : decode cX8_whole 12 = .ok (.ireturn, 1) := by decide +kernel
set_option maxHeartbeats 4000000 in
set_option maxRecDepth 100000 in
theorem k_X8_whole (l : Launch) (D : va_G) (K : Nat → ClassId) (ad : Nat → Nat) (mm : Option Nat) : Met l yX8_whole (wM yX8_whole cX8_whole 1 (some .int)) (rmD 1) (va_Pc [.ref (ad 0)] (wPre D K ad (xG ad K mm) 132 xv0 xa0 xl0)) (vp_Si (fun r => r = (-2))) 0 0 (fun _ => False) := by
  refine x_met (by decide) (Nat.le_of_ble_eq_true rfl) ?_
  intro p e s m below meth c ls hE hr hlo hnm hB hl
  have hE : CallFix p m c cX8_whole 1 s _ tbG "TaleCourt" := hE
  obtain ⟨hP, hK, hN⟩ := hB
  have hS : va_S (inW ad 132) s.heap s.heap [] := va_S.rf
  have hl : lv_has ls 1 [(0, .ref (ad 0))] := hl
  refine lv_aload_n hE.1 hE.2.1 dX8_whole_0 rfl (lv_at hl 0 rfl) ?_
  refine x_get (x := .ref (ad 3)) hE hK hP 0 (by decide) (xG_8 rfl) rfl hin8 1 (by decide) mw_481 rfl dX8_whole_1 ?_
  refine x_vp (nn := 0) (As := []) (rest := []) hE (k_X1_stands l D K ad mm ) wPre_blind (wPre_now hK hN hP) (x_recv hK hP 3 (by decide) (xG_1 rfl) rfl) rfl mw_788 mw_789 mw_790 mw_116 mw_791 (by decide +kernel) ⟨by decide, by decide⟩ hl.1 rfl (by decide) ⟨Nat.zero_le _, Nat.zero_le _⟩ dX8_whole_4 (fun r hr => ?_)
  subst hr
  refine lv_if_ne (tgt := 13) hE.1 hE.2.1 dX8_whole_7 (by decide) (fun h => absurd (by decide) h) (fun _ => ?_)
  refine lv_bipush (v := (-2)) hE.1 hE.2.1 dX8_whole_10 (by decide) ?_
  exact x_ri hE hr hlo rfl rfl dX8_whole_12

theorem dX8_points_0 : decode cX8_points 0 = .ok (.aload_n 0, 1) := by decide +kernel
theorem dX8_points_1 : decode cX8_points 1 = .ok (.getfield 19, 3) := by decide +kernel
theorem dX8_points_4 : decode cX8_points 4 = .ok (.invokevirtual 157, 3) := by decide +kernel
theorem dX8_points_7 : decode cX8_points 7 = .ok (.ifCond .eq 13, 3) := by decide +kernel
theorem dX8_points_20 : decode cX8_points 20 = .ok (.bipush (-2), 2) := by decide +kernel
theorem dX8_points_22 : decode cX8_points 22 = .ok (.ireturn, 1) := by decide +kernel
set_option maxHeartbeats 4000000 in
set_option maxRecDepth 100000 in
theorem k_X8_points (l : Launch) (D : va_G) (K : Nat → ClassId) (ad : Nat → Nat) (mm : Option Nat) : Met l yX8_points (wM yX8_points cX8_points 1 (some .int)) (rmD 1) (va_Pc [.ref (ad 0)] (wPre D K ad (xG ad K mm) 132 xv0 xa0 xl0)) (vp_Si (fun r => r = (-2))) 0 0 (fun _ => False) := by
  refine x_met (by decide) (Nat.le_of_ble_eq_true rfl) ?_
  intro p e s m below meth c ls hE hr hlo hnm hB hl
  have hE : CallFix p m c cX8_points 1 s _ tbG "TaleCourt" := hE
  obtain ⟨hP, hK, hN⟩ := hB
  have hS : va_S (inW ad 132) s.heap s.heap [] := va_S.rf
  have hl : lv_has ls 1 [(0, .ref (ad 0))] := hl
  refine lv_aload_n hE.1 hE.2.1 dX8_points_0 rfl (lv_at hl 0 rfl) ?_
  refine x_get (x := .ref (ad 3)) hE hK hP 0 (by decide) (xG_8 rfl) rfl hin8 1 (by decide) mw_481 rfl dX8_points_1 ?_
  refine x_vp (nn := 0) (As := []) (rest := []) hE (k_X1_stands l D K ad mm ) wPre_blind (wPre_now hK hN hP) (x_recv hK hP 3 (by decide) (xG_1 rfl) rfl) rfl mw_788 mw_789 mw_790 mw_116 mw_791 (by decide +kernel) ⟨by decide, by decide⟩ hl.1 rfl (by decide) ⟨Nat.zero_le _, Nat.zero_le _⟩ dX8_points_4 (fun r hr => ?_)
  subst hr
  refine lv_if_eq (tgt := 20) hE.1 hE.2.1 dX8_points_7 (by decide) (fun _ => ?_) (fun h => absurd (by decide) h)
  refine lv_bipush (v := (-2)) hE.1 hE.2.1 dX8_points_20 (by decide) ?_
  exact x_ri hE hr hlo rfl rfl dX8_points_22

theorem dX8_share_0 : decode cX8_share 0 = .ok (.aload_n 0, 1) := by decide +kernel
theorem dX8_share_1 : decode cX8_share 1 = .ok (.getfield 19, 3) := by decide +kernel
theorem dX8_share_4 : decode cX8_share 4 = .ok (.iload_n 1, 1) := by decide +kernel
theorem dX8_share_5 : decode cX8_share 5 = .ok (.invokevirtual 195, 3) := by decide +kernel
theorem dX8_share_8 : decode cX8_share 8 = .ok (.ifCond .eq 14, 3) := by decide +kernel
theorem dX8_share_22 : decode cX8_share 22 = .ok (.bipush (-2), 2) := by decide +kernel
theorem dX8_share_24 : decode cX8_share 24 = .ok (.ireturn, 1) := by decide +kernel
set_option maxHeartbeats 4000000 in
set_option maxRecDepth 100000 in
theorem k_X8_share (l : Launch) (D : va_G) (K : Nat → ClassId) (ad : Nat → Nat) (mm : Option Nat) (p1 : Int32) : Met l yX8_share (wM yX8_share cX8_share 2 (some .int)) (rmD 1) (va_Pc [.ref (ad 0), .int p1] (wPre D K ad (xG ad K mm) 132 xv0 xa0 xl0)) (vp_Si (fun r => r = (-2))) 0 0 (fun _ => False) := by
  refine x_met (by decide) (Nat.le_of_ble_eq_true rfl) ?_
  intro p e s m below meth c ls hE hr hlo hnm hB hl
  have hE : CallFix p m c cX8_share 2 s _ tbG "TaleCourt" := hE
  obtain ⟨hP, hK, hN⟩ := hB
  have hS : va_S (inW ad 132) s.heap s.heap [] := va_S.rf
  have hl : lv_has ls 2 [(0, .ref (ad 0)), (1, .int p1)] := hl
  refine lv_aload_n hE.1 hE.2.1 dX8_share_0 rfl (lv_at hl 0 rfl) ?_
  refine x_get (x := .ref (ad 3)) hE hK hP 0 (by decide) (xG_8 rfl) rfl hin8 1 (by decide) mw_481 rfl dX8_share_1 ?_
  refine lv_iload_n hE.1 hE.2.1 dX8_share_4 rfl (lv_at hl 1 rfl) ?_
  refine x_vp (nn := 1) (As := [.int p1]) (rest := []) hE (k_X1_hasTeller l D K ad mm p1) wPre_blind (wPre_now hK hN hP) (x_recv hK hP 3 (by decide) (xG_1 rfl) rfl) rfl mw_884 mw_885 mw_886 mw_116 mw_887 (by decide +kernel) ⟨by decide, by decide⟩ hl.1 rfl (by decide) ⟨Nat.zero_le _, Nat.zero_le _⟩ dX8_share_5 (fun r hr => ?_)
  subst hr
  refine lv_if_eq (tgt := 22) hE.1 hE.2.1 dX8_share_8 (by decide) (fun _ => ?_) (fun h => absurd (by decide) h)
  refine lv_bipush (v := (-2)) hE.1 hE.2.1 dX8_share_22 (by decide) ?_
  exact x_ri hE hr hlo rfl rfl dX8_share_24

theorem dX8_left_0 : decode cX8_left 0 = .ok (.aload_n 0, 1) := by decide +kernel
theorem dX8_left_1 : decode cX8_left 1 = .ok (.getfield 19, 3) := by decide +kernel
theorem dX8_left_4 : decode cX8_left 4 = .ok (.iload_n 1, 1) := by decide +kernel
theorem dX8_left_5 : decode cX8_left 5 = .ok (.invokevirtual 195, 3) := by decide +kernel
theorem dX8_left_8 : decode cX8_left 8 = .ok (.ifCond .eq 14, 3) := by decide +kernel
theorem dX8_left_22 : decode cX8_left 22 = .ok (.bipush (-2), 2) := by decide +kernel
theorem dX8_left_24 : decode cX8_left 24 = .ok (.ireturn, 1) := by decide +kernel
set_option maxHeartbeats 4000000 in
set_option maxRecDepth 100000 in
theorem k_X8_left (l : Launch) (D : va_G) (K : Nat → ClassId) (ad : Nat → Nat) (mm : Option Nat) (p1 : Int32) : Met l yX8_left (wM yX8_left cX8_left 2 (some .int)) (rmD 1) (va_Pc [.ref (ad 0), .int p1] (wPre D K ad (xG ad K mm) 132 xv0 xa0 xl0)) (vp_Si (fun r => r = (-2))) 0 0 (fun _ => False) := by
  refine x_met (by decide) (Nat.le_of_ble_eq_true rfl) ?_
  intro p e s m below meth c ls hE hr hlo hnm hB hl
  have hE : CallFix p m c cX8_left 2 s _ tbG "TaleCourt" := hE
  obtain ⟨hP, hK, hN⟩ := hB
  have hS : va_S (inW ad 132) s.heap s.heap [] := va_S.rf
  have hl : lv_has ls 2 [(0, .ref (ad 0)), (1, .int p1)] := hl
  refine lv_aload_n hE.1 hE.2.1 dX8_left_0 rfl (lv_at hl 0 rfl) ?_
  refine x_get (x := .ref (ad 3)) hE hK hP 0 (by decide) (xG_8 rfl) rfl hin8 1 (by decide) mw_481 rfl dX8_left_1 ?_
  refine lv_iload_n hE.1 hE.2.1 dX8_left_4 rfl (lv_at hl 1 rfl) ?_
  refine x_vp (nn := 1) (As := [.int p1]) (rest := []) hE (k_X1_hasTeller l D K ad mm p1) wPre_blind (wPre_now hK hN hP) (x_recv hK hP 3 (by decide) (xG_1 rfl) rfl) rfl mw_884 mw_885 mw_886 mw_116 mw_887 (by decide +kernel) ⟨by decide, by decide⟩ hl.1 rfl (by decide) ⟨Nat.zero_le _, Nat.zero_le _⟩ dX8_left_5 (fun r hr => ?_)
  subst hr
  refine lv_if_eq (tgt := 22) hE.1 hE.2.1 dX8_left_8 (by decide) (fun _ => ?_) (fun h => absurd (by decide) h)
  refine lv_bipush (v := (-2)) hE.1 hE.2.1 dX8_left_22 (by decide) ?_
  exact x_ri hE hr hlo rfl rfl dX8_left_24

theorem dX8_longest_0 : decode cX8_longest 0 = .ok (.aload_n 0, 1) := by decide +kernel
theorem dX8_longest_1 : decode cX8_longest 1 = .ok (.getfield 19, 3) := by decide +kernel
theorem dX8_longest_4 : decode cX8_longest 4 = .ok (.invokevirtual 157, 3) := by decide +kernel
theorem dX8_longest_7 : decode cX8_longest 7 = .ok (.ifCond .eq 20, 3) := by decide +kernel
theorem dX8_longest_27 : decode cX8_longest 27 = .ok (.bipush (-2), 2) := by decide +kernel
theorem dX8_longest_29 : decode cX8_longest 29 = .ok (.ireturn, 1) := by decide +kernel
set_option maxHeartbeats 4000000 in
set_option maxRecDepth 100000 in
theorem k_X8_longest (l : Launch) (D : va_G) (K : Nat → ClassId) (ad : Nat → Nat) (mm : Option Nat) : Met l yX8_longest (wM yX8_longest cX8_longest 1 (some .int)) (rmD 1) (va_Pc [.ref (ad 0)] (wPre D K ad (xG ad K mm) 132 xv0 xa0 xl0)) (vp_Si (fun r => r = (-2))) 0 0 (fun _ => False) := by
  refine x_met (by decide) (Nat.le_of_ble_eq_true rfl) ?_
  intro p e s m below meth c ls hE hr hlo hnm hB hl
  have hE : CallFix p m c cX8_longest 1 s _ tbG "TaleCourt" := hE
  obtain ⟨hP, hK, hN⟩ := hB
  have hS : va_S (inW ad 132) s.heap s.heap [] := va_S.rf
  have hl : lv_has ls 1 [(0, .ref (ad 0))] := hl
  refine lv_aload_n hE.1 hE.2.1 dX8_longest_0 rfl (lv_at hl 0 rfl) ?_
  refine x_get (x := .ref (ad 3)) hE hK hP 0 (by decide) (xG_8 rfl) rfl hin8 1 (by decide) mw_481 rfl dX8_longest_1 ?_
  refine x_vp (nn := 0) (As := []) (rest := []) hE (k_X1_stands l D K ad mm ) wPre_blind (wPre_now hK hN hP) (x_recv hK hP 3 (by decide) (xG_1 rfl) rfl) rfl mw_788 mw_789 mw_790 mw_116 mw_791 (by decide +kernel) ⟨by decide, by decide⟩ hl.1 rfl (by decide) ⟨Nat.zero_le _, Nat.zero_le _⟩ dX8_longest_4 (fun r hr => ?_)
  subst hr
  refine lv_if_eq (tgt := 27) hE.1 hE.2.1 dX8_longest_7 (by decide) (fun _ => ?_) (fun h => absurd (by decide) h)
  refine lv_bipush (v := (-2)) hE.1 hE.2.1 dX8_longest_27 (by decide) ?_
  exact x_ri hE hr hlo rfl rfl dX8_longest_29

theorem dX8_full_0 : decode cX8_full 0 = .ok (.aload_n 0, 1) := by decide +kernel
theorem dX8_full_1 : decode cX8_full 1 = .ok (.getfield 19, 3) := by decide +kernel
theorem dX8_full_4 : decode cX8_full 4 = .ok (.invokevirtual 157, 3) := by decide +kernel
theorem dX8_full_7 : decode cX8_full 7 = .ok (.ifCond .eq 20, 3) := by decide +kernel
theorem dX8_full_27 : decode cX8_full 27 = .ok (.bipush (-2), 2) := by decide +kernel
theorem dX8_full_29 : decode cX8_full 29 = .ok (.ireturn, 1) := by decide +kernel
set_option maxHeartbeats 4000000 in
set_option maxRecDepth 100000 in
theorem k_X8_full (l : Launch) (D : va_G) (K : Nat → ClassId) (ad : Nat → Nat) (mm : Option Nat) : Met l yX8_full (wM yX8_full cX8_full 1 (some .int)) (rmD 1) (va_Pc [.ref (ad 0)] (wPre D K ad (xG ad K mm) 132 xv0 xa0 xl0)) (vp_Si (fun r => r = (-2))) 0 0 (fun _ => False) := by
  refine x_met (by decide) (Nat.le_of_ble_eq_true rfl) ?_
  intro p e s m below meth c ls hE hr hlo hnm hB hl
  have hE : CallFix p m c cX8_full 1 s _ tbG "TaleCourt" := hE
  obtain ⟨hP, hK, hN⟩ := hB
  have hS : va_S (inW ad 132) s.heap s.heap [] := va_S.rf
  have hl : lv_has ls 1 [(0, .ref (ad 0))] := hl
  refine lv_aload_n hE.1 hE.2.1 dX8_full_0 rfl (lv_at hl 0 rfl) ?_
  refine x_get (x := .ref (ad 3)) hE hK hP 0 (by decide) (xG_8 rfl) rfl hin8 1 (by decide) mw_481 rfl dX8_full_1 ?_
  refine x_vp (nn := 0) (As := []) (rest := []) hE (k_X1_stands l D K ad mm ) wPre_blind (wPre_now hK hN hP) (x_recv hK hP 3 (by decide) (xG_1 rfl) rfl) rfl mw_788 mw_789 mw_790 mw_116 mw_791 (by decide +kernel) ⟨by decide, by decide⟩ hl.1 rfl (by decide) ⟨Nat.zero_le _, Nat.zero_le _⟩ dX8_full_4 (fun r hr => ?_)
  subst hr
  refine lv_if_eq (tgt := 27) hE.1 hE.2.1 dX8_full_7 (by decide) (fun _ => ?_) (fun h => absurd (by decide) h)
  refine lv_bipush (v := (-2)) hE.1 hE.2.1 dX8_full_27 (by decide) ?_
  exact x_ri hE hr hlo rfl rfl dX8_full_29

theorem dX8_line_0 : decode cX8_line 0 = .ok (.aload_n 0, 1) := by decide +kernel
theorem dX8_line_1 : decode cX8_line 1 = .ok (.getfield 19, 3) := by decide +kernel
theorem dX8_line_4 : decode cX8_line 4 = .ok (.invokevirtual 157, 3) := by decide +kernel
theorem dX8_line_7 : decode cX8_line 7 = .ok (.ifCond .eq 20, 3) := by decide +kernel
theorem dX8_line_27 : decode cX8_line 27 = .ok (.bipush (-2), 2) := by decide +kernel
theorem dX8_line_29 : decode cX8_line 29 = .ok (.ireturn, 1) := by decide +kernel
set_option maxHeartbeats 4000000 in
set_option maxRecDepth 100000 in
theorem k_X8_line (l : Launch) (D : va_G) (K : Nat → ClassId) (ad : Nat → Nat) (mm : Option Nat) (p1 : Int32) : Met l yX8_line (wM yX8_line cX8_line 2 (some .int)) (rmD 1) (va_Pc [.ref (ad 0), .int p1] (wPre D K ad (xG ad K mm) 132 xv0 xa0 xl0)) (vp_Si (fun r => r = (-2))) 0 0 (fun _ => False) := by
  refine x_met (by decide) (Nat.le_of_ble_eq_true rfl) ?_
  intro p e s m below meth c ls hE hr hlo hnm hB hl
  have hE : CallFix p m c cX8_line 2 s _ tbG "TaleCourt" := hE
  obtain ⟨hP, hK, hN⟩ := hB
  have hS : va_S (inW ad 132) s.heap s.heap [] := va_S.rf
  have hl : lv_has ls 2 [(0, .ref (ad 0)), (1, .int p1)] := hl
  refine lv_aload_n hE.1 hE.2.1 dX8_line_0 rfl (lv_at hl 0 rfl) ?_
  refine x_get (x := .ref (ad 3)) hE hK hP 0 (by decide) (xG_8 rfl) rfl hin8 1 (by decide) mw_481 rfl dX8_line_1 ?_
  refine x_vp (nn := 0) (As := []) (rest := []) hE (k_X1_stands l D K ad mm ) wPre_blind (wPre_now hK hN hP) (x_recv hK hP 3 (by decide) (xG_1 rfl) rfl) rfl mw_788 mw_789 mw_790 mw_116 mw_791 (by decide +kernel) ⟨by decide, by decide⟩ hl.1 rfl (by decide) ⟨Nat.zero_le _, Nat.zero_le _⟩ dX8_line_4 (fun r hr => ?_)
  subst hr
  refine lv_if_eq (tgt := 27) hE.1 hE.2.1 dX8_line_7 (by decide) (fun _ => ?_) (fun h => absurd (by decide) h)
  refine lv_bipush (v := (-2)) hE.1 hE.2.1 dX8_line_27 (by decide) ?_
  exact x_ri hE hr hlo rfl rfl dX8_line_29

theorem dX8_best_0 : decode cX8_best 0 = .ok (.aload_n 0, 1) := by decide +kernel
theorem dX8_best_1 : decode cX8_best 1 = .ok (.getfield 19, 3) := by decide +kernel
theorem dX8_best_4 : decode cX8_best 4 = .ok (.invokevirtual 157, 3) := by decide +kernel
theorem dX8_best_7 : decode cX8_best 7 = .ok (.ifCond .eq 20, 3) := by decide +kernel
theorem dX8_best_27 : decode cX8_best 27 = .ok (.bipush (-2), 2) := by decide +kernel
theorem dX8_best_29 : decode cX8_best 29 = .ok (.ireturn, 1) := by decide +kernel
set_option maxHeartbeats 4000000 in
set_option maxRecDepth 100000 in
theorem k_X8_best (l : Launch) (D : va_G) (K : Nat → ClassId) (ad : Nat → Nat) (mm : Option Nat) : Met l yX8_best (wM yX8_best cX8_best 1 (some .int)) (rmD 1) (va_Pc [.ref (ad 0)] (wPre D K ad (xG ad K mm) 132 xv0 xa0 xl0)) (vp_Si (fun r => r = (-2))) 0 0 (fun _ => False) := by
  refine x_met (by decide) (Nat.le_of_ble_eq_true rfl) ?_
  intro p e s m below meth c ls hE hr hlo hnm hB hl
  have hE : CallFix p m c cX8_best 1 s _ tbG "TaleCourt" := hE
  obtain ⟨hP, hK, hN⟩ := hB
  have hS : va_S (inW ad 132) s.heap s.heap [] := va_S.rf
  have hl : lv_has ls 1 [(0, .ref (ad 0))] := hl
  refine lv_aload_n hE.1 hE.2.1 dX8_best_0 rfl (lv_at hl 0 rfl) ?_
  refine x_get (x := .ref (ad 3)) hE hK hP 0 (by decide) (xG_8 rfl) rfl hin8 1 (by decide) mw_481 rfl dX8_best_1 ?_
  refine x_vp (nn := 0) (As := []) (rest := []) hE (k_X1_stands l D K ad mm ) wPre_blind (wPre_now hK hN hP) (x_recv hK hP 3 (by decide) (xG_1 rfl) rfl) rfl mw_788 mw_789 mw_790 mw_116 mw_791 (by decide +kernel) ⟨by decide, by decide⟩ hl.1 rfl (by decide) ⟨Nat.zero_le _, Nat.zero_le _⟩ dX8_best_4 (fun r hr => ?_)
  subst hr
  refine lv_if_eq (tgt := 27) hE.1 hE.2.1 dX8_best_7 (by decide) (fun _ => ?_) (fun h => absurd (by decide) h)
  refine lv_bipush (v := (-2)) hE.1 hE.2.1 dX8_best_27 (by decide) ?_
  exact x_ri hE hr hlo rfl rfl dX8_best_29

theorem dX8_tale_0 : decode cX8_tale 0 = .ok (.aload_n 0, 1) := by decide +kernel
theorem dX8_tale_1 : decode cX8_tale 1 = .ok (.getfield 19, 3) := by decide +kernel
theorem dX8_tale_4 : decode cX8_tale 4 = .ok (.invokevirtual 157, 3) := by decide +kernel
theorem dX8_tale_7 : decode cX8_tale 7 = .ok (.ifCond .ne 6, 3) := by decide +kernel
theorem dX8_tale_10 : decode cX8_tale 10 = .ok (.bipush (-2), 2) := by decide +kernel
theorem dX8_tale_12 : decode cX8_tale 12 = .ok (.ireturn, 1) := by decide +kernel
set_option maxHeartbeats 4000000 in
set_option maxRecDepth 100000 in
theorem k_X8_tale (l : Launch) (D : va_G) (K : Nat → ClassId) (ad : Nat → Nat) (mm : Option Nat) (p1 : Int32) : Met l yX8_tale (wM yX8_tale cX8_tale 3 (some .int)) (rmD 1) (va_Pc [.ref (ad 0), .int p1] (wPre D K ad (xG ad K mm) 132 xv0 xa0 xl0)) (vp_Si (fun r => r = (-2))) 0 0 (fun _ => False) := by
  refine x_met (by decide) (Nat.le_of_ble_eq_true rfl) ?_
  intro p e s m below meth c ls hE hr hlo hnm hB hl
  have hE : CallFix p m c cX8_tale 3 s _ tbG "TaleCourt" := hE
  obtain ⟨hP, hK, hN⟩ := hB
  have hS : va_S (inW ad 132) s.heap s.heap [] := va_S.rf
  have hl : lv_has ls 3 [(0, .ref (ad 0)), (1, .int p1)] := hl
  refine lv_aload_n hE.1 hE.2.1 dX8_tale_0 rfl (lv_at hl 0 rfl) ?_
  refine x_get (x := .ref (ad 3)) hE hK hP 0 (by decide) (xG_8 rfl) rfl hin8 1 (by decide) mw_481 rfl dX8_tale_1 ?_
  refine x_vp (nn := 0) (As := []) (rest := []) hE (k_X1_stands l D K ad mm ) wPre_blind (wPre_now hK hN hP) (x_recv hK hP 3 (by decide) (xG_1 rfl) rfl) rfl mw_788 mw_789 mw_790 mw_116 mw_791 (by decide +kernel) ⟨by decide, by decide⟩ hl.1 rfl (by decide) ⟨Nat.zero_le _, Nat.zero_le _⟩ dX8_tale_4 (fun r hr => ?_)
  subst hr
  refine lv_if_ne (tgt := 13) hE.1 hE.2.1 dX8_tale_7 (by decide) (fun h => absurd (by decide) h) (fun _ => ?_)
  refine lv_bipush (v := (-2)) hE.1 hE.2.1 dX8_tale_10 (by decide) ?_
  exact x_ri hE hr hlo rfl rfl dX8_tale_12

theorem dX8_roof_0 : decode cX8_roof 0 = .ok (.aload_n 0, 1) := by decide +kernel
theorem dX8_roof_1 : decode cX8_roof 1 = .ok (.getfield 19, 3) := by decide +kernel
theorem dX8_roof_4 : decode cX8_roof 4 = .ok (.invokevirtual 157, 3) := by decide +kernel
theorem dX8_roof_7 : decode cX8_roof 7 = .ok (.ifCond .eq 24, 3) := by decide +kernel
theorem dX8_roof_31 : decode cX8_roof 31 = .ok (.bipush (-2), 2) := by decide +kernel
theorem dX8_roof_33 : decode cX8_roof 33 = .ok (.ireturn, 1) := by decide +kernel
set_option maxHeartbeats 4000000 in
set_option maxRecDepth 100000 in
theorem k_X8_roof (l : Launch) (D : va_G) (K : Nat → ClassId) (ad : Nat → Nat) (mm : Option Nat) (p1 : Int32) : Met l yX8_roof (wM yX8_roof cX8_roof 2 (some .int)) (rmD 1) (va_Pc [.ref (ad 0), .int p1] (wPre D K ad (xG ad K mm) 132 xv0 xa0 xl0)) (vp_Si (fun r => r = (-2))) 0 0 (fun _ => False) := by
  refine x_met (by decide) (Nat.le_of_ble_eq_true rfl) ?_
  intro p e s m below meth c ls hE hr hlo hnm hB hl
  have hE : CallFix p m c cX8_roof 2 s _ tbG "TaleCourt" := hE
  obtain ⟨hP, hK, hN⟩ := hB
  have hS : va_S (inW ad 132) s.heap s.heap [] := va_S.rf
  have hl : lv_has ls 2 [(0, .ref (ad 0)), (1, .int p1)] := hl
  refine lv_aload_n hE.1 hE.2.1 dX8_roof_0 rfl (lv_at hl 0 rfl) ?_
  refine x_get (x := .ref (ad 3)) hE hK hP 0 (by decide) (xG_8 rfl) rfl hin8 1 (by decide) mw_481 rfl dX8_roof_1 ?_
  refine x_vp (nn := 0) (As := []) (rest := []) hE (k_X1_stands l D K ad mm ) wPre_blind (wPre_now hK hN hP) (x_recv hK hP 3 (by decide) (xG_1 rfl) rfl) rfl mw_788 mw_789 mw_790 mw_116 mw_791 (by decide +kernel) ⟨by decide, by decide⟩ hl.1 rfl (by decide) ⟨Nat.zero_le _, Nat.zero_le _⟩ dX8_roof_4 (fun r hr => ?_)
  subst hr
  refine lv_if_eq (tgt := 31) hE.1 hE.2.1 dX8_roof_7 (by decide) (fun _ => ?_) (fun h => absurd (by decide) h)
  refine lv_bipush (v := (-2)) hE.1 hE.2.1 dX8_roof_31 (by decide) ?_
  exact x_ri hE hr hlo rfl rfl dX8_roof_33

theorem dX8_beam_0 : decode cX8_beam 0 = .ok (.aload_n 0, 1) := by decide +kernel
theorem dX8_beam_1 : decode cX8_beam 1 = .ok (.getfield 19, 3) := by decide +kernel
theorem dX8_beam_4 : decode cX8_beam 4 = .ok (.invokevirtual 157, 3) := by decide +kernel
theorem dX8_beam_7 : decode cX8_beam 7 = .ok (.ifCond .eq 24, 3) := by decide +kernel
theorem dX8_beam_31 : decode cX8_beam 31 = .ok (.bipush (-2), 2) := by decide +kernel
theorem dX8_beam_33 : decode cX8_beam 33 = .ok (.ireturn, 1) := by decide +kernel
set_option maxHeartbeats 4000000 in
set_option maxRecDepth 100000 in
theorem k_X8_beam (l : Launch) (D : va_G) (K : Nat → ClassId) (ad : Nat → Nat) (mm : Option Nat) (p1 : Int32) (p2 : Int32) : Met l yX8_beam (wM yX8_beam cX8_beam 3 (some .int)) (rmD 1) (va_Pc [.ref (ad 0), .int p1, .int p2] (wPre D K ad (xG ad K mm) 132 xv0 xa0 xl0)) (vp_Si (fun r => r = (-2))) 0 0 (fun _ => False) := by
  refine x_met (by decide) (Nat.le_of_ble_eq_true rfl) ?_
  intro p e s m below meth c ls hE hr hlo hnm hB hl
  have hE : CallFix p m c cX8_beam 3 s _ tbG "TaleCourt" := hE
  obtain ⟨hP, hK, hN⟩ := hB
  have hS : va_S (inW ad 132) s.heap s.heap [] := va_S.rf
  have hl : lv_has ls 3 [(0, .ref (ad 0)), (1, .int p1), (2, .int p2)] := hl
  refine lv_aload_n hE.1 hE.2.1 dX8_beam_0 rfl (lv_at hl 0 rfl) ?_
  refine x_get (x := .ref (ad 3)) hE hK hP 0 (by decide) (xG_8 rfl) rfl hin8 1 (by decide) mw_481 rfl dX8_beam_1 ?_
  refine x_vp (nn := 0) (As := []) (rest := []) hE (k_X1_stands l D K ad mm ) wPre_blind (wPre_now hK hN hP) (x_recv hK hP 3 (by decide) (xG_1 rfl) rfl) rfl mw_788 mw_789 mw_790 mw_116 mw_791 (by decide +kernel) ⟨by decide, by decide⟩ hl.1 rfl (by decide) ⟨Nat.zero_le _, Nat.zero_le _⟩ dX8_beam_4 (fun r hr => ?_)
  subst hr
  refine lv_if_eq (tgt := 31) hE.1 hE.2.1 dX8_beam_7 (by decide) (fun _ => ?_) (fun h => absurd (by decide) h)
  refine lv_bipush (v := (-2)) hE.1 hE.2.1 dX8_beam_31 (by decide) ?_
  exact x_ri hE hr hlo rfl rfl dX8_beam_33

theorem dX8_rows_0 : decode cX8_rows 0 = .ok (.aload_n 0, 1) := by decide +kernel
theorem dX8_rows_1 : decode cX8_rows 1 = .ok (.getfield 19, 3) := by decide +kernel
theorem dX8_rows_4 : decode cX8_rows 4 = .ok (.invokevirtual 157, 3) := by decide +kernel
theorem dX8_rows_7 : decode cX8_rows 7 = .ok (.ifCond .eq 30, 3) := by decide +kernel
theorem dX8_rows_37 : decode cX8_rows 37 = .ok (.bipush (-2), 2) := by decide +kernel
theorem dX8_rows_39 : decode cX8_rows 39 = .ok (.ireturn, 1) := by decide +kernel
set_option maxHeartbeats 4000000 in
set_option maxRecDepth 100000 in
theorem k_X8_rows (l : Launch) (D : va_G) (K : Nat → ClassId) (ad : Nat → Nat) (mm : Option Nat) (p1 : Int32) : Met l yX8_rows (wM yX8_rows cX8_rows 2 (some .int)) (rmD 1) (va_Pc [.ref (ad 0), .int p1] (wPre D K ad (xG ad K mm) 132 xv0 xa0 xl0)) (vp_Si (fun r => r = (-2))) 0 0 (fun _ => False) := by
  refine x_met (by decide) (Nat.le_of_ble_eq_true rfl) ?_
  intro p e s m below meth c ls hE hr hlo hnm hB hl
  have hE : CallFix p m c cX8_rows 2 s _ tbG "TaleCourt" := hE
  obtain ⟨hP, hK, hN⟩ := hB
  have hS : va_S (inW ad 132) s.heap s.heap [] := va_S.rf
  have hl : lv_has ls 2 [(0, .ref (ad 0)), (1, .int p1)] := hl
  refine lv_aload_n hE.1 hE.2.1 dX8_rows_0 rfl (lv_at hl 0 rfl) ?_
  refine x_get (x := .ref (ad 3)) hE hK hP 0 (by decide) (xG_8 rfl) rfl hin8 1 (by decide) mw_481 rfl dX8_rows_1 ?_
  refine x_vp (nn := 0) (As := []) (rest := []) hE (k_X1_stands l D K ad mm ) wPre_blind (wPre_now hK hN hP) (x_recv hK hP 3 (by decide) (xG_1 rfl) rfl) rfl mw_788 mw_789 mw_790 mw_116 mw_791 (by decide +kernel) ⟨by decide, by decide⟩ hl.1 rfl (by decide) ⟨Nat.zero_le _, Nat.zero_le _⟩ dX8_rows_4 (fun r hr => ?_)
  subst hr
  refine lv_if_eq (tgt := 37) hE.1 hE.2.1 dX8_rows_7 (by decide) (fun _ => ?_) (fun h => absurd (by decide) h)
  refine lv_bipush (v := (-2)) hE.1 hE.2.1 dX8_rows_37 (by decide) ?_
  exact x_ri hE hr hlo rfl rfl dX8_rows_39

theorem dX8_wholes_0 : decode cX8_wholes 0 = .ok (.aload_n 0, 1) := by decide +kernel
theorem dX8_wholes_1 : decode cX8_wholes 1 = .ok (.getfield 19, 3) := by decide +kernel
theorem dX8_wholes_4 : decode cX8_wholes 4 = .ok (.invokevirtual 157, 3) := by decide +kernel
theorem dX8_wholes_7 : decode cX8_wholes 7 = .ok (.ifCond .eq 11, 3) := by decide +kernel
theorem dX8_wholes_18 : decode cX8_wholes 18 = .ok (.bipush (-2), 2) := by decide +kernel
theorem dX8_wholes_20 : decode cX8_wholes 20 = .ok (.ireturn, 1) := by decide +kernel
set_option maxHeartbeats 4000000 in
set_option maxRecDepth 100000 in
theorem k_X8_wholes (l : Launch) (D : va_G) (K : Nat → ClassId) (ad : Nat → Nat) (mm : Option Nat) : Met l yX8_wholes (wM yX8_wholes cX8_wholes 1 (some .int)) (rmD 1) (va_Pc [.ref (ad 0)] (wPre D K ad (xG ad K mm) 132 xv0 xa0 xl0)) (vp_Si (fun r => r = (-2))) 0 0 (fun _ => False) := by
  refine x_met (by decide) (Nat.le_of_ble_eq_true rfl) ?_
  intro p e s m below meth c ls hE hr hlo hnm hB hl
  have hE : CallFix p m c cX8_wholes 1 s _ tbG "TaleCourt" := hE
  obtain ⟨hP, hK, hN⟩ := hB
  have hS : va_S (inW ad 132) s.heap s.heap [] := va_S.rf
  have hl : lv_has ls 1 [(0, .ref (ad 0))] := hl
  refine lv_aload_n hE.1 hE.2.1 dX8_wholes_0 rfl (lv_at hl 0 rfl) ?_
  refine x_get (x := .ref (ad 3)) hE hK hP 0 (by decide) (xG_8 rfl) rfl hin8 1 (by decide) mw_481 rfl dX8_wholes_1 ?_
  refine x_vp (nn := 0) (As := []) (rest := []) hE (k_X1_stands l D K ad mm ) wPre_blind (wPre_now hK hN hP) (x_recv hK hP 3 (by decide) (xG_1 rfl) rfl) rfl mw_788 mw_789 mw_790 mw_116 mw_791 (by decide +kernel) ⟨by decide, by decide⟩ hl.1 rfl (by decide) ⟨Nat.zero_le _, Nat.zero_le _⟩ dX8_wholes_4 (fun r hr => ?_)
  subst hr
  refine lv_if_eq (tgt := 18) hE.1 hE.2.1 dX8_wholes_7 (by decide) (fun _ => ?_) (fun h => absurd (by decide) h)
  refine lv_bipush (v := (-2)) hE.1 hE.2.1 dX8_wholes_18 (by decide) ?_
  exact x_ri hE hr hlo rfl rfl dX8_wholes_20

theorem dX8_ends_0 : decode cX8_ends 0 = .ok (.aload_n 0, 1) := by decide +kernel
theorem dX8_ends_1 : decode cX8_ends 1 = .ok (.getfield 19, 3) := by decide +kernel
theorem dX8_ends_4 : decode cX8_ends 4 = .ok (.iload_n 1, 1) := by decide +kernel
theorem dX8_ends_5 : decode cX8_ends 5 = .ok (.invokevirtual 102, 3) := by decide +kernel
theorem dX8_ends_8 : decode cX8_ends 8 = .ok (.ifCond .eq 21, 3) := by decide +kernel
theorem dX8_ends_29 : decode cX8_ends 29 = .ok (.bipush (-2), 2) := by decide +kernel
theorem dX8_ends_31 : decode cX8_ends 31 = .ok (.ireturn, 1) := by decide +kernel
set_option maxHeartbeats 4000000 in
set_option maxRecDepth 100000 in
theorem k_X8_ends (l : Launch) (D : va_G) (K : Nat → ClassId) (ad : Nat → Nat) (mm : Option Nat) (p1 : Int32) : Met l yX8_ends (wM yX8_ends cX8_ends 2 (some .int)) (rmD 1) (va_Pc [.ref (ad 0), .int p1] (wPre D K ad (xG ad K mm) 132 xv0 xa0 xl0)) (vp_Si (fun r => r = (-2))) 0 0 (fun _ => False) := by
  refine x_met (by decide) (Nat.le_of_ble_eq_true rfl) ?_
  intro p e s m below meth c ls hE hr hlo hnm hB hl
  have hE : CallFix p m c cX8_ends 2 s _ tbG "TaleCourt" := hE
  obtain ⟨hP, hK, hN⟩ := hB
  have hS : va_S (inW ad 132) s.heap s.heap [] := va_S.rf
  have hl : lv_has ls 2 [(0, .ref (ad 0)), (1, .int p1)] := hl
  refine lv_aload_n hE.1 hE.2.1 dX8_ends_0 rfl (lv_at hl 0 rfl) ?_
  refine x_get (x := .ref (ad 3)) hE hK hP 0 (by decide) (xG_8 rfl) rfl hin8 1 (by decide) mw_481 rfl dX8_ends_1 ?_
  refine lv_iload_n hE.1 hE.2.1 dX8_ends_4 rfl (lv_at hl 1 rfl) ?_
  refine x_vp (nn := 1) (As := [.int p1]) (rest := []) hE (k_X1_hasMotif l D K ad mm p1) wPre_blind (wPre_now hK hN hP) (x_recv hK hP 3 (by decide) (xG_1 rfl) rfl) rfl mw_694 mw_695 mw_696 mw_116 mw_697 (by decide +kernel) ⟨by decide, by decide⟩ hl.1 rfl (by decide) ⟨Nat.zero_le _, Nat.zero_le _⟩ dX8_ends_5 (fun r hr => ?_)
  subst hr
  refine lv_if_eq (tgt := 29) hE.1 hE.2.1 dX8_ends_8 (by decide) (fun _ => ?_) (fun h => absurd (by decide) h)
  refine lv_bipush (v := (-2)) hE.1 hE.2.1 dX8_ends_29 (by decide) ?_
  exact x_ri hE hr hlo rfl rfl dX8_ends_31

theorem dX8_always_0 : decode cX8_always 0 = .ok (.aload_n 0, 1) := by decide +kernel
theorem dX8_always_1 : decode cX8_always 1 = .ok (.getfield 19, 3) := by decide +kernel
theorem dX8_always_4 : decode cX8_always 4 = .ok (.invokevirtual 157, 3) := by decide +kernel
theorem dX8_always_7 : decode cX8_always 7 = .ok (.ifCond .eq 12, 3) := by decide +kernel
theorem dX8_always_19 : decode cX8_always 19 = .ok (.bipush (-2), 2) := by decide +kernel
theorem dX8_always_21 : decode cX8_always 21 = .ok (.ireturn, 1) := by decide +kernel
set_option maxHeartbeats 4000000 in
set_option maxRecDepth 100000 in
theorem k_X8_always (l : Launch) (D : va_G) (K : Nat → ClassId) (ad : Nat → Nat) (mm : Option Nat) (p1 : Int32) : Met l yX8_always (wM yX8_always cX8_always 6 (some .int)) (rmD 1) (va_Pc [.ref (ad 0), .int p1] (wPre D K ad (xG ad K mm) 132 xv0 xa0 xl0)) (vp_Si (fun r => r = (-2))) 0 0 (fun _ => False) := by
  refine x_met (by decide) (Nat.le_of_ble_eq_true rfl) ?_
  intro p e s m below meth c ls hE hr hlo hnm hB hl
  have hE : CallFix p m c cX8_always 6 s _ tbG "TaleCourt" := hE
  obtain ⟨hP, hK, hN⟩ := hB
  have hS : va_S (inW ad 132) s.heap s.heap [] := va_S.rf
  have hl : lv_has ls 6 [(0, .ref (ad 0)), (1, .int p1)] := hl
  refine lv_aload_n hE.1 hE.2.1 dX8_always_0 rfl (lv_at hl 0 rfl) ?_
  refine x_get (x := .ref (ad 3)) hE hK hP 0 (by decide) (xG_8 rfl) rfl hin8 1 (by decide) mw_481 rfl dX8_always_1 ?_
  refine x_vp (nn := 0) (As := []) (rest := []) hE (k_X1_stands l D K ad mm ) wPre_blind (wPre_now hK hN hP) (x_recv hK hP 3 (by decide) (xG_1 rfl) rfl) rfl mw_788 mw_789 mw_790 mw_116 mw_791 (by decide +kernel) ⟨by decide, by decide⟩ hl.1 rfl (by decide) ⟨Nat.zero_le _, Nat.zero_le _⟩ dX8_always_4 (fun r hr => ?_)
  subst hr
  refine lv_if_eq (tgt := 19) hE.1 hE.2.1 dX8_always_7 (by decide) (fun _ => ?_) (fun h => absurd (by decide) h)
  refine lv_bipush (v := (-2)) hE.1 hE.2.1 dX8_always_19 (by decide) ?_
  exact x_ri hE hr hlo rfl rfl dX8_always_21

theorem dX8_wins_0 : decode cX8_wins 0 = .ok (.aload_n 0, 1) := by decide +kernel
theorem dX8_wins_1 : decode cX8_wins 1 = .ok (.invokevirtual 226, 3) := by decide +kernel
theorem dX8_wins_4 : decode cX8_wins 4 = .ok (.istore_n 1, 1) := by decide +kernel
theorem dX8_wins_5 : decode cX8_wins 5 = .ok (.iload_n 1, 1) := by decide +kernel
theorem dX8_wins_6 : decode cX8_wins 6 = .ok (.ifCond .eq 5, 3) := by decide +kernel
theorem dX8_wins_9 : decode cX8_wins 9 = .ok (.iload_n 1, 1) := by decide +kernel
theorem dX8_wins_10 : decode cX8_wins 10 = .ok (.ireturn, 1) := by decide +kernel
set_option maxHeartbeats 4000000 in
set_option maxRecDepth 100000 in
theorem k_X8_wins (l : Launch) (D : va_G) (K : Nat → ClassId) (ad : Nat → Nat) (mm : Option Nat) : Met l yX8_wins (wM yX8_wins cX8_wins 2 (some .int)) (rmD 2) (va_Pc [.ref (ad 0)] (wPre D K ad (xG ad K mm) 132 xv0 xa0 xl0)) (vp_Si (fun r => r = (-2))) 0 0 (fun _ => False) := by
  refine x_met (by decide) (Nat.le_of_ble_eq_true rfl) ?_
  intro p e s m below meth c ls hE hr hlo hnm hB hl
  have hE : CallFix p m c cX8_wins 2 s _ tbG "TaleCourt" := hE
  obtain ⟨hP, hK, hN⟩ := hB
  have hS : va_S (inW ad 132) s.heap s.heap [] := va_S.rf
  have hl : lv_has ls 2 [(0, .ref (ad 0))] := hl
  refine lv_aload_n hE.1 hE.2.1 dX8_wins_0 rfl (lv_at hl 0 rfl) ?_
  refine x_vp (nn := 0) (As := []) (rest := []) hE (k_X8_gameBar l D K ad mm ) wPre_blind (wPre_now hK hN hP) (x_recv hK hP 0 (by decide) (xG_8 rfl) rfl) rfl mw_1027 mw_1029 mw_30 mw_114 mw_1030 (by decide +kernel) ⟨by decide, by decide⟩ hl.1 rfl (by decide) ⟨Nat.zero_le _, Nat.zero_le _⟩ dX8_wins_1 (fun r hr => ?_)
  subst hr
  refine lv_istore_n (lv' := [(1, .int (-2)), (0, .ref (ad 0))]) hE.1 hE.2.1 dX8_wins_4 rfl hl (by decide) rfl (fun ls hl => ?_)
  refine lv_iload_n hE.1 hE.2.1 dX8_wins_5 rfl (lv_at hl 0 rfl) ?_
  refine lv_if_eq (tgt := 11) hE.1 hE.2.1 dX8_wins_6 (by decide) (fun h => absurd h (by decide)) (fun _ => ?_)
  refine lv_iload_n hE.1 hE.2.1 dX8_wins_9 rfl (lv_at hl 0 rfl) ?_
  exact x_ri hE hr hlo rfl rfl dX8_wins_10

theorem dX8_move_0 : decode cX8_move 0 = .ok (.aload_n 0, 1) := by decide +kernel
theorem dX8_move_1 : decode cX8_move 1 = .ok (.invokevirtual 226, 3) := by decide +kernel
theorem dX8_move_4 : decode cX8_move 4 = .ok (.istore_n 1, 1) := by decide +kernel
theorem dX8_move_5 : decode cX8_move 5 = .ok (.iload_n 1, 1) := by decide +kernel
theorem dX8_move_6 : decode cX8_move 6 = .ok (.ifCond .eq 5, 3) := by decide +kernel
theorem dX8_move_9 : decode cX8_move 9 = .ok (.iload_n 1, 1) := by decide +kernel
theorem dX8_move_10 : decode cX8_move 10 = .ok (.ireturn, 1) := by decide +kernel
set_option maxHeartbeats 4000000 in
set_option maxRecDepth 100000 in
theorem k_X8_move (l : Launch) (D : va_G) (K : Nat → ClassId) (ad : Nat → Nat) (mm : Option Nat) : Met l yX8_move (wM yX8_move cX8_move 4 (some .int)) (rmD 2) (va_Pc [.ref (ad 0)] (wPre D K ad (xG ad K mm) 132 xv0 xa0 xl0)) (vp_Si (fun r => r = (-2))) 0 0 (fun _ => False) := by
  refine x_met (by decide) (Nat.le_of_ble_eq_true rfl) ?_
  intro p e s m below meth c ls hE hr hlo hnm hB hl
  have hE : CallFix p m c cX8_move 4 s _ tbG "TaleCourt" := hE
  obtain ⟨hP, hK, hN⟩ := hB
  have hS : va_S (inW ad 132) s.heap s.heap [] := va_S.rf
  have hl : lv_has ls 4 [(0, .ref (ad 0))] := hl
  refine lv_aload_n hE.1 hE.2.1 dX8_move_0 rfl (lv_at hl 0 rfl) ?_
  refine x_vp (nn := 0) (As := []) (rest := []) hE (k_X8_gameBar l D K ad mm ) wPre_blind (wPre_now hK hN hP) (x_recv hK hP 0 (by decide) (xG_8 rfl) rfl) rfl mw_1027 mw_1029 mw_30 mw_114 mw_1030 (by decide +kernel) ⟨by decide, by decide⟩ hl.1 rfl (by decide) ⟨Nat.zero_le _, Nat.zero_le _⟩ dX8_move_1 (fun r hr => ?_)
  subst hr
  refine lv_istore_n (lv' := [(1, .int (-2)), (0, .ref (ad 0))]) hE.1 hE.2.1 dX8_move_4 rfl hl (by decide) rfl (fun ls hl => ?_)
  refine lv_iload_n hE.1 hE.2.1 dX8_move_5 rfl (lv_at hl 0 rfl) ?_
  refine lv_if_eq (tgt := 11) hE.1 hE.2.1 dX8_move_6 (by decide) (fun h => absurd h (by decide)) (fun _ => ?_)
  refine lv_iload_n hE.1 hE.2.1 dX8_move_9 rfl (lv_at hl 0 rfl) ?_
  exact x_ri hE hr hlo rfl rfl dX8_move_10

theorem dX8_lasts_0 : decode cX8_lasts 0 = .ok (.aload_n 0, 1) := by decide +kernel
theorem dX8_lasts_1 : decode cX8_lasts 1 = .ok (.invokevirtual 226, 3) := by decide +kernel
theorem dX8_lasts_4 : decode cX8_lasts 4 = .ok (.istore_n 1, 1) := by decide +kernel
theorem dX8_lasts_5 : decode cX8_lasts 5 = .ok (.iload_n 1, 1) := by decide +kernel
theorem dX8_lasts_6 : decode cX8_lasts 6 = .ok (.ifCond .eq 5, 3) := by decide +kernel
theorem dX8_lasts_9 : decode cX8_lasts 9 = .ok (.iload_n 1, 1) := by decide +kernel
theorem dX8_lasts_10 : decode cX8_lasts 10 = .ok (.ireturn, 1) := by decide +kernel
set_option maxHeartbeats 4000000 in
set_option maxRecDepth 100000 in
theorem k_X8_lasts (l : Launch) (D : va_G) (K : Nat → ClassId) (ad : Nat → Nat) (mm : Option Nat) : Met l yX8_lasts (wM yX8_lasts cX8_lasts 2 (some .int)) (rmD 2) (va_Pc [.ref (ad 0)] (wPre D K ad (xG ad K mm) 132 xv0 xa0 xl0)) (vp_Si (fun r => r = (-2))) 0 0 (fun _ => False) := by
  refine x_met (by decide) (Nat.le_of_ble_eq_true rfl) ?_
  intro p e s m below meth c ls hE hr hlo hnm hB hl
  have hE : CallFix p m c cX8_lasts 2 s _ tbG "TaleCourt" := hE
  obtain ⟨hP, hK, hN⟩ := hB
  have hS : va_S (inW ad 132) s.heap s.heap [] := va_S.rf
  have hl : lv_has ls 2 [(0, .ref (ad 0))] := hl
  refine lv_aload_n hE.1 hE.2.1 dX8_lasts_0 rfl (lv_at hl 0 rfl) ?_
  refine x_vp (nn := 0) (As := []) (rest := []) hE (k_X8_gameBar l D K ad mm ) wPre_blind (wPre_now hK hN hP) (x_recv hK hP 0 (by decide) (xG_8 rfl) rfl) rfl mw_1027 mw_1029 mw_30 mw_114 mw_1030 (by decide +kernel) ⟨by decide, by decide⟩ hl.1 rfl (by decide) ⟨Nat.zero_le _, Nat.zero_le _⟩ dX8_lasts_1 (fun r hr => ?_)
  subst hr
  refine lv_istore_n (lv' := [(1, .int (-2)), (0, .ref (ad 0))]) hE.1 hE.2.1 dX8_lasts_4 rfl hl (by decide) rfl (fun ls hl => ?_)
  refine lv_iload_n hE.1 hE.2.1 dX8_lasts_5 rfl (lv_at hl 0 rfl) ?_
  refine lv_if_eq (tgt := 11) hE.1 hE.2.1 dX8_lasts_6 (by decide) (fun h => absurd h (by decide)) (fun _ => ?_)
  refine lv_iload_n hE.1 hE.2.1 dX8_lasts_9 rfl (lv_at hl 0 rfl) ?_
  exact x_ri hE hr hlo rfl rfl dX8_lasts_10

theorem dX8_good_0 : decode cX8_good 0 = .ok (.aload_n 0, 1) := by decide +kernel
theorem dX8_good_1 : decode cX8_good 1 = .ok (.invokevirtual 226, 3) := by decide +kernel
theorem dX8_good_4 : decode cX8_good 4 = .ok (.istore_n 1, 1) := by decide +kernel
theorem dX8_good_5 : decode cX8_good 5 = .ok (.iload_n 1, 1) := by decide +kernel
theorem dX8_good_6 : decode cX8_good 6 = .ok (.ifCond .eq 5, 3) := by decide +kernel
theorem dX8_good_9 : decode cX8_good 9 = .ok (.iload_n 1, 1) := by decide +kernel
theorem dX8_good_10 : decode cX8_good 10 = .ok (.ireturn, 1) := by decide +kernel
set_option maxHeartbeats 4000000 in
set_option maxRecDepth 100000 in
theorem k_X8_good (l : Launch) (D : va_G) (K : Nat → ClassId) (ad : Nat → Nat) (mm : Option Nat) : Met l yX8_good (wM yX8_good cX8_good 2 (some .int)) (rmD 2) (va_Pc [.ref (ad 0)] (wPre D K ad (xG ad K mm) 132 xv0 xa0 xl0)) (vp_Si (fun r => r = (-2))) 0 0 (fun _ => False) := by
  refine x_met (by decide) (Nat.le_of_ble_eq_true rfl) ?_
  intro p e s m below meth c ls hE hr hlo hnm hB hl
  have hE : CallFix p m c cX8_good 2 s _ tbG "TaleCourt" := hE
  obtain ⟨hP, hK, hN⟩ := hB
  have hS : va_S (inW ad 132) s.heap s.heap [] := va_S.rf
  have hl : lv_has ls 2 [(0, .ref (ad 0))] := hl
  refine lv_aload_n hE.1 hE.2.1 dX8_good_0 rfl (lv_at hl 0 rfl) ?_
  refine x_vp (nn := 0) (As := []) (rest := []) hE (k_X8_gameBar l D K ad mm ) wPre_blind (wPre_now hK hN hP) (x_recv hK hP 0 (by decide) (xG_8 rfl) rfl) rfl mw_1027 mw_1029 mw_30 mw_114 mw_1030 (by decide +kernel) ⟨by decide, by decide⟩ hl.1 rfl (by decide) ⟨Nat.zero_le _, Nat.zero_le _⟩ dX8_good_1 (fun r hr => ?_)
  subst hr
  refine lv_istore_n (lv' := [(1, .int (-2)), (0, .ref (ad 0))]) hE.1 hE.2.1 dX8_good_4 rfl hl (by decide) rfl (fun ls hl => ?_)
  refine lv_iload_n hE.1 hE.2.1 dX8_good_5 rfl (lv_at hl 0 rfl) ?_
  refine lv_if_eq (tgt := 11) hE.1 hE.2.1 dX8_good_6 (by decide) (fun h => absurd h (by decide)) (fun _ => ?_)
  refine lv_iload_n hE.1 hE.2.1 dX8_good_9 rfl (lv_at hl 0 rfl) ?_
  exact x_ri hE hr hlo rfl rfl dX8_good_10

theorem dX8_kept_0 : decode cX8_kept 0 = .ok (.aload_n 0, 1) := by decide +kernel
theorem dX8_kept_1 : decode cX8_kept 1 = .ok (.invokevirtual 226, 3) := by decide +kernel
theorem dX8_kept_4 : decode cX8_kept 4 = .ok (.istore_n 3, 1) := by decide +kernel
theorem dX8_kept_5 : decode cX8_kept 5 = .ok (.iload_n 3, 1) := by decide +kernel
theorem dX8_kept_6 : decode cX8_kept 6 = .ok (.ifCond .eq 5, 3) := by decide +kernel
theorem dX8_kept_9 : decode cX8_kept 9 = .ok (.iload_n 3, 1) := by decide +kernel
theorem dX8_kept_10 : decode cX8_kept 10 = .ok (.ireturn, 1) := by decide +kernel
set_option maxHeartbeats 4000000 in
set_option maxRecDepth 100000 in
theorem k_X8_kept (l : Launch) (D : va_G) (K : Nat → ClassId) (ad : Nat → Nat) (mm : Option Nat) (p1 : Int32) (p2 : Int32) : Met l yX8_kept (wM yX8_kept cX8_kept 6 (some .int)) (rmD 2) (va_Pc [.ref (ad 0), .int p1, .int p2] (wPre D K ad (xG ad K mm) 132 xv0 xa0 xl0)) (vp_Si (fun r => r = (-2))) 0 0 (fun _ => False) := by
  refine x_met (by decide) (Nat.le_of_ble_eq_true rfl) ?_
  intro p e s m below meth c ls hE hr hlo hnm hB hl
  have hE : CallFix p m c cX8_kept 6 s _ tbG "TaleCourt" := hE
  obtain ⟨hP, hK, hN⟩ := hB
  have hS : va_S (inW ad 132) s.heap s.heap [] := va_S.rf
  have hl : lv_has ls 6 [(0, .ref (ad 0)), (1, .int p1), (2, .int p2)] := hl
  refine lv_aload_n hE.1 hE.2.1 dX8_kept_0 rfl (lv_at hl 0 rfl) ?_
  refine x_vp (nn := 0) (As := []) (rest := []) hE (k_X8_gameBar l D K ad mm ) wPre_blind (wPre_now hK hN hP) (x_recv hK hP 0 (by decide) (xG_8 rfl) rfl) rfl mw_1027 mw_1029 mw_30 mw_114 mw_1030 (by decide +kernel) ⟨by decide, by decide⟩ hl.1 rfl (by decide) ⟨Nat.zero_le _, Nat.zero_le _⟩ dX8_kept_1 (fun r hr => ?_)
  subst hr
  refine lv_istore_n (lv' := [(3, .int (-2)), (0, .ref (ad 0)), (1, .int p1), (2, .int p2)]) hE.1 hE.2.1 dX8_kept_4 rfl hl (by decide) rfl (fun ls hl => ?_)
  refine lv_iload_n hE.1 hE.2.1 dX8_kept_5 rfl (lv_at hl 0 rfl) ?_
  refine lv_if_eq (tgt := 11) hE.1 hE.2.1 dX8_kept_6 (by decide) (fun h => absurd h (by decide)) (fun _ => ?_)
  refine lv_iload_n hE.1 hE.2.1 dX8_kept_9 rfl (lv_at hl 0 rfl) ?_
  exact x_ri hE hr hlo rfl rfl dX8_kept_10

theorem dX8_trade_0 : decode cX8_trade 0 = .ok (.aload_n 0, 1) := by decide +kernel
theorem dX8_trade_1 : decode cX8_trade 1 = .ok (.invokevirtual 226, 3) := by decide +kernel
theorem dX8_trade_4 : decode cX8_trade 4 = .ok (.istore_n 1, 1) := by decide +kernel
theorem dX8_trade_5 : decode cX8_trade 5 = .ok (.iload_n 1, 1) := by decide +kernel
theorem dX8_trade_6 : decode cX8_trade 6 = .ok (.ifCond .eq 5, 3) := by decide +kernel
theorem dX8_trade_9 : decode cX8_trade 9 = .ok (.iload_n 1, 1) := by decide +kernel
theorem dX8_trade_10 : decode cX8_trade 10 = .ok (.ireturn, 1) := by decide +kernel
set_option maxHeartbeats 4000000 in
set_option maxRecDepth 100000 in
theorem k_X8_trade (l : Launch) (D : va_G) (K : Nat → ClassId) (ad : Nat → Nat) (mm : Option Nat) : Met l yX8_trade (wM yX8_trade cX8_trade 4 (some .int)) (rmD 2) (va_Pc [.ref (ad 0)] (wPre D K ad (xG ad K mm) 132 xv0 xa0 xl0)) (vp_Si (fun r => r = (-2))) 0 0 (fun _ => False) := by
  refine x_met (by decide) (Nat.le_of_ble_eq_true rfl) ?_
  intro p e s m below meth c ls hE hr hlo hnm hB hl
  have hE : CallFix p m c cX8_trade 4 s _ tbG "TaleCourt" := hE
  obtain ⟨hP, hK, hN⟩ := hB
  have hS : va_S (inW ad 132) s.heap s.heap [] := va_S.rf
  have hl : lv_has ls 4 [(0, .ref (ad 0))] := hl
  refine lv_aload_n hE.1 hE.2.1 dX8_trade_0 rfl (lv_at hl 0 rfl) ?_
  refine x_vp (nn := 0) (As := []) (rest := []) hE (k_X8_gameBar l D K ad mm ) wPre_blind (wPre_now hK hN hP) (x_recv hK hP 0 (by decide) (xG_8 rfl) rfl) rfl mw_1027 mw_1029 mw_30 mw_114 mw_1030 (by decide +kernel) ⟨by decide, by decide⟩ hl.1 rfl (by decide) ⟨Nat.zero_le _, Nat.zero_le _⟩ dX8_trade_1 (fun r hr => ?_)
  subst hr
  refine lv_istore_n (lv' := [(1, .int (-2)), (0, .ref (ad 0))]) hE.1 hE.2.1 dX8_trade_4 rfl hl (by decide) rfl (fun ls hl => ?_)
  refine lv_iload_n hE.1 hE.2.1 dX8_trade_5 rfl (lv_at hl 0 rfl) ?_
  refine lv_if_eq (tgt := 11) hE.1 hE.2.1 dX8_trade_6 (by decide) (fun h => absurd h (by decide)) (fun _ => ?_)
  refine lv_iload_n hE.1 hE.2.1 dX8_trade_9 rfl (lv_at hl 0 rfl) ?_
  exact x_ri hE hr hlo rfl rfl dX8_trade_10

theorem dX8_keeps_0 : decode cX8_keeps 0 = .ok (.aload_n 0, 1) := by decide +kernel
theorem dX8_keeps_1 : decode cX8_keeps 1 = .ok (.getfield 19, 3) := by decide +kernel
theorem dX8_keeps_4 : decode cX8_keeps 4 = .ok (.iload_n 1, 1) := by decide +kernel
theorem dX8_keeps_5 : decode cX8_keeps 5 = .ok (.invokevirtual 102, 3) := by decide +kernel
theorem dX8_keeps_8 : decode cX8_keeps 8 = .ok (.ifCond .eq 14, 3) := by decide +kernel
theorem dX8_keeps_22 : decode cX8_keeps 22 = .ok (.bipush (-2), 2) := by decide +kernel
theorem dX8_keeps_24 : decode cX8_keeps 24 = .ok (.ireturn, 1) := by decide +kernel
set_option maxHeartbeats 4000000 in
set_option maxRecDepth 100000 in
theorem k_X8_keeps (l : Launch) (D : va_G) (K : Nat → ClassId) (ad : Nat → Nat) (mm : Option Nat) (p1 : Int32) (p2 : Int32) : Met l yX8_keeps (wM yX8_keeps cX8_keeps 4 (some .int)) (rmD 1) (va_Pc [.ref (ad 0), .int p1, .int p2] (wPre D K ad (xG ad K mm) 132 xv0 xa0 xl0)) (vp_Si (fun r => r = (-2))) 0 0 (fun _ => False) := by
  refine x_met (by decide) (Nat.le_of_ble_eq_true rfl) ?_
  intro p e s m below meth c ls hE hr hlo hnm hB hl
  have hE : CallFix p m c cX8_keeps 4 s _ tbG "TaleCourt" := hE
  obtain ⟨hP, hK, hN⟩ := hB
  have hS : va_S (inW ad 132) s.heap s.heap [] := va_S.rf
  have hl : lv_has ls 4 [(0, .ref (ad 0)), (1, .int p1), (2, .int p2)] := hl
  refine lv_aload_n hE.1 hE.2.1 dX8_keeps_0 rfl (lv_at hl 0 rfl) ?_
  refine x_get (x := .ref (ad 3)) hE hK hP 0 (by decide) (xG_8 rfl) rfl hin8 1 (by decide) mw_481 rfl dX8_keeps_1 ?_
  refine lv_iload_n hE.1 hE.2.1 dX8_keeps_4 rfl (lv_at hl 1 rfl) ?_
  refine x_vp (nn := 1) (As := [.int p1]) (rest := []) hE (k_X1_hasMotif l D K ad mm p1) wPre_blind (wPre_now hK hN hP) (x_recv hK hP 3 (by decide) (xG_1 rfl) rfl) rfl mw_694 mw_695 mw_696 mw_116 mw_697 (by decide +kernel) ⟨by decide, by decide⟩ hl.1 rfl (by decide) ⟨Nat.zero_le _, Nat.zero_le _⟩ dX8_keeps_5 (fun r hr => ?_)
  subst hr
  refine lv_if_eq (tgt := 22) hE.1 hE.2.1 dX8_keeps_8 (by decide) (fun _ => ?_) (fun h => absurd (by decide) h)
  refine lv_bipush (v := (-2)) hE.1 hE.2.1 dX8_keeps_22 (by decide) ?_
  exact x_ri hE hr hlo rfl rfl dX8_keeps_24

theorem dX8_forbid_0 : decode cX8_forbid 0 = .ok (.aload_n 0, 1) := by decide +kernel
theorem dX8_forbid_1 : decode cX8_forbid 1 = .ok (.getfield 19, 3) := by decide +kernel
theorem dX8_forbid_4 : decode cX8_forbid 4 = .ok (.iload_n 1, 1) := by decide +kernel
theorem dX8_forbid_5 : decode cX8_forbid 5 = .ok (.invokevirtual 102, 3) := by decide +kernel
theorem dX8_forbid_8 : decode cX8_forbid 8 = .ok (.ifCond .eq 12, 3) := by decide +kernel
theorem dX8_forbid_20 : decode cX8_forbid 20 = .ok (.bipush (-2), 2) := by decide +kernel
theorem dX8_forbid_22 : decode cX8_forbid 22 = .ok (.ireturn, 1) := by decide +kernel
set_option maxHeartbeats 4000000 in
set_option maxRecDepth 100000 in
theorem k_X8_forbid (l : Launch) (D : va_G) (K : Nat → ClassId) (ad : Nat → Nat) (mm : Option Nat) (p1 : Int32) (p2 : Int32) : Met l yX8_forbid (wM yX8_forbid cX8_forbid 4 (some .int)) (rmD 1) (va_Pc [.ref (ad 0), .int p1, .int p2] (wPre D K ad (xG ad K mm) 132 xv0 xa0 xl0)) (vp_Si (fun r => r = (-2))) 0 0 (fun _ => False) := by
  refine x_met (by decide) (Nat.le_of_ble_eq_true rfl) ?_
  intro p e s m below meth c ls hE hr hlo hnm hB hl
  have hE : CallFix p m c cX8_forbid 4 s _ tbG "TaleCourt" := hE
  obtain ⟨hP, hK, hN⟩ := hB
  have hS : va_S (inW ad 132) s.heap s.heap [] := va_S.rf
  have hl : lv_has ls 4 [(0, .ref (ad 0)), (1, .int p1), (2, .int p2)] := hl
  refine lv_aload_n hE.1 hE.2.1 dX8_forbid_0 rfl (lv_at hl 0 rfl) ?_
  refine x_get (x := .ref (ad 3)) hE hK hP 0 (by decide) (xG_8 rfl) rfl hin8 1 (by decide) mw_481 rfl dX8_forbid_1 ?_
  refine lv_iload_n hE.1 hE.2.1 dX8_forbid_4 rfl (lv_at hl 1 rfl) ?_
  refine x_vp (nn := 1) (As := [.int p1]) (rest := []) hE (k_X1_hasMotif l D K ad mm p1) wPre_blind (wPre_now hK hN hP) (x_recv hK hP 3 (by decide) (xG_1 rfl) rfl) rfl mw_694 mw_695 mw_696 mw_116 mw_697 (by decide +kernel) ⟨by decide, by decide⟩ hl.1 rfl (by decide) ⟨Nat.zero_le _, Nat.zero_le _⟩ dX8_forbid_5 (fun r hr => ?_)
  subst hr
  refine lv_if_eq (tgt := 20) hE.1 hE.2.1 dX8_forbid_8 (by decide) (fun _ => ?_) (fun h => absurd (by decide) h)
  refine lv_bipush (v := (-2)) hE.1 hE.2.1 dX8_forbid_20 (by decide) ?_
  exact x_ri hE hr hlo rfl rfl dX8_forbid_22

theorem dX8_around_0 : decode cX8_around 0 = .ok (.aload_n 0, 1) := by decide +kernel
theorem dX8_around_1 : decode cX8_around 1 = .ok (.iload_n 1, 1) := by decide +kernel
theorem dX8_around_2 : decode cX8_around 2 = .ok (.invokevirtual 220, 3) := by decide +kernel
theorem dX8_around_5 : decode cX8_around 5 = .ok (.ireturn, 1) := by decide +kernel
set_option maxHeartbeats 4000000 in
set_option maxRecDepth 100000 in
theorem k_X8_around (l : Launch) (D : va_G) (K : Nat → ClassId) (ad : Nat → Nat) (mm : Option Nat) (p1 : Int32) : Met l yX8_around (wM yX8_around cX8_around 2 (some .int)) (rmD 2) (va_Pc [.ref (ad 0), .int p1] (wPre D K ad (xG ad K mm) 132 xv0 xa0 xl0)) (vp_Si (fun r => r = (-2))) 0 0 (fun _ => False) := by
  refine x_met (by decide) (Nat.le_of_ble_eq_true rfl) ?_
  intro p e s m below meth c ls hE hr hlo hnm hB hl
  have hE : CallFix p m c cX8_around 2 s _ tbG "TaleCourt" := hE
  obtain ⟨hP, hK, hN⟩ := hB
  have hS : va_S (inW ad 132) s.heap s.heap [] := va_S.rf
  have hl : lv_has ls 2 [(0, .ref (ad 0)), (1, .int p1)] := hl
  refine lv_aload_n hE.1 hE.2.1 dX8_around_0 rfl (lv_at hl 0 rfl) ?_
  refine lv_iload_n hE.1 hE.2.1 dX8_around_1 rfl (lv_at hl 1 rfl) ?_
  refine x_vp (nn := 1) (As := [.int p1]) (rest := []) hE (k_X8_ends l D K ad mm p1) wPre_blind (wPre_now hK hN hP) (x_recv hK hP 0 (by decide) (xG_8 rfl) rfl) rfl mw_1010 mw_999 mw_1000 mw_114 mw_1001 (by decide +kernel) ⟨by decide, by decide⟩ hl.1 rfl (by decide) ⟨Nat.zero_le _, Nat.zero_le _⟩ dX8_around_2 (fun r hr => ?_)
  subst hr
  exact x_ri hE hr hlo rfl rfl dX8_around_5

theorem dX8_blunder_0 : decode cX8_blunder 0 = .ok (.aload_n 0, 1) := by decide +kernel
theorem dX8_blunder_1 : decode cX8_blunder 1 = .ok (.invokevirtual 226, 3) := by decide +kernel
theorem dX8_blunder_4 : decode cX8_blunder 4 = .ok (.istore_n 1, 1) := by decide +kernel
theorem dX8_blunder_5 : decode cX8_blunder 5 = .ok (.iload_n 1, 1) := by decide +kernel
theorem dX8_blunder_6 : decode cX8_blunder 6 = .ok (.ifCond .eq 5, 3) := by decide +kernel
theorem dX8_blunder_9 : decode cX8_blunder 9 = .ok (.iload_n 1, 1) := by decide +kernel
theorem dX8_blunder_10 : decode cX8_blunder 10 = .ok (.ireturn, 1) := by decide +kernel
set_option maxHeartbeats 4000000 in
set_option maxRecDepth 100000 in
theorem k_X8_blunder (l : Launch) (D : va_G) (K : Nat → ClassId) (ad : Nat → Nat) (mm : Option Nat) : Met l yX8_blunder (wM yX8_blunder cX8_blunder 2 (some .int)) (rmD 2) (va_Pc [.ref (ad 0)] (wPre D K ad (xG ad K mm) 132 xv0 xa0 xl0)) (vp_Si (fun r => r = (-2))) 0 0 (fun _ => False) := by
  refine x_met (by decide) (Nat.le_of_ble_eq_true rfl) ?_
  intro p e s m below meth c ls hE hr hlo hnm hB hl
  have hE : CallFix p m c cX8_blunder 2 s _ tbG "TaleCourt" := hE
  obtain ⟨hP, hK, hN⟩ := hB
  have hS : va_S (inW ad 132) s.heap s.heap [] := va_S.rf
  have hl : lv_has ls 2 [(0, .ref (ad 0))] := hl
  refine lv_aload_n hE.1 hE.2.1 dX8_blunder_0 rfl (lv_at hl 0 rfl) ?_
  refine x_vp (nn := 0) (As := []) (rest := []) hE (k_X8_gameBar l D K ad mm ) wPre_blind (wPre_now hK hN hP) (x_recv hK hP 0 (by decide) (xG_8 rfl) rfl) rfl mw_1027 mw_1029 mw_30 mw_114 mw_1030 (by decide +kernel) ⟨by decide, by decide⟩ hl.1 rfl (by decide) ⟨Nat.zero_le _, Nat.zero_le _⟩ dX8_blunder_1 (fun r hr => ?_)
  subst hr
  refine lv_istore_n (lv' := [(1, .int (-2)), (0, .ref (ad 0))]) hE.1 hE.2.1 dX8_blunder_4 rfl hl (by decide) rfl (fun ls hl => ?_)
  refine lv_iload_n hE.1 hE.2.1 dX8_blunder_5 rfl (lv_at hl 0 rfl) ?_
  refine lv_if_eq (tgt := 11) hE.1 hE.2.1 dX8_blunder_6 (by decide) (fun h => absurd h (by decide)) (fun _ => ?_)
  refine lv_iload_n hE.1 hE.2.1 dX8_blunder_9 rfl (lv_at hl 0 rfl) ?_
  exact x_ri hE hr hlo rfl rfl dX8_blunder_10

theorem dX8_lack_0 : decode cX8_lack 0 = .ok (.aload_n 0, 1) := by decide +kernel
theorem dX8_lack_1 : decode cX8_lack 1 = .ok (.getfield 19, 3) := by decide +kernel
theorem dX8_lack_4 : decode cX8_lack 4 = .ok (.iload_n 1, 1) := by decide +kernel
theorem dX8_lack_5 : decode cX8_lack 5 = .ok (.invokevirtual 102, 3) := by decide +kernel
theorem dX8_lack_8 : decode cX8_lack 8 = .ok (.ifCond .eq 19, 3) := by decide +kernel
theorem dX8_lack_27 : decode cX8_lack 27 = .ok (.bipush (-2), 2) := by decide +kernel
theorem dX8_lack_29 : decode cX8_lack 29 = .ok (.ireturn, 1) := by decide +kernel
set_option maxHeartbeats 4000000 in
set_option maxRecDepth 100000 in
theorem k_X8_lack (l : Launch) (D : va_G) (K : Nat → ClassId) (ad : Nat → Nat) (mm : Option Nat) (p1 : Int32) : Met l yX8_lack (wM yX8_lack cX8_lack 2 (some .int)) (rmD 1) (va_Pc [.ref (ad 0), .int p1] (wPre D K ad (xG ad K mm) 132 xv0 xa0 xl0)) (vp_Si (fun r => r = (-2))) 0 0 (fun _ => False) := by
  refine x_met (by decide) (Nat.le_of_ble_eq_true rfl) ?_
  intro p e s m below meth c ls hE hr hlo hnm hB hl
  have hE : CallFix p m c cX8_lack 2 s _ tbG "TaleCourt" := hE
  obtain ⟨hP, hK, hN⟩ := hB
  have hS : va_S (inW ad 132) s.heap s.heap [] := va_S.rf
  have hl : lv_has ls 2 [(0, .ref (ad 0)), (1, .int p1)] := hl
  refine lv_aload_n hE.1 hE.2.1 dX8_lack_0 rfl (lv_at hl 0 rfl) ?_
  refine x_get (x := .ref (ad 3)) hE hK hP 0 (by decide) (xG_8 rfl) rfl hin8 1 (by decide) mw_481 rfl dX8_lack_1 ?_
  refine lv_iload_n hE.1 hE.2.1 dX8_lack_4 rfl (lv_at hl 1 rfl) ?_
  refine x_vp (nn := 1) (As := [.int p1]) (rest := []) hE (k_X1_hasMotif l D K ad mm p1) wPre_blind (wPre_now hK hN hP) (x_recv hK hP 3 (by decide) (xG_1 rfl) rfl) rfl mw_694 mw_695 mw_696 mw_116 mw_697 (by decide +kernel) ⟨by decide, by decide⟩ hl.1 rfl (by decide) ⟨Nat.zero_le _, Nat.zero_le _⟩ dX8_lack_5 (fun r hr => ?_)
  subst hr
  refine lv_if_eq (tgt := 27) hE.1 hE.2.1 dX8_lack_8 (by decide) (fun _ => ?_) (fun h => absurd (by decide) h)
  refine lv_bipush (v := (-2)) hE.1 hE.2.1 dX8_lack_27 (by decide) ?_
  exact x_ri hE hr hlo rfl rfl dX8_lack_29

theorem dX8_crux_0 : decode cX8_crux 0 = .ok (.aload_n 0, 1) := by decide +kernel
theorem dX8_crux_1 : decode cX8_crux 1 = .ok (.getfield 19, 3) := by decide +kernel
theorem dX8_crux_4 : decode cX8_crux 4 = .ok (.invokevirtual 157, 3) := by decide +kernel
theorem dX8_crux_7 : decode cX8_crux 7 = .ok (.ifCond .ne 6, 3) := by decide +kernel
theorem dX8_crux_10 : decode cX8_crux 10 = .ok (.bipush (-2), 2) := by decide +kernel
theorem dX8_crux_12 : decode cX8_crux 12 = .ok (.ireturn, 1) := by decide +kernel
set_option maxHeartbeats 4000000 in
set_option maxRecDepth 100000 in
theorem k_X8_crux (l : Launch) (D : va_G) (K : Nat → ClassId) (ad : Nat → Nat) (mm : Option Nat) : Met l yX8_crux (wM yX8_crux cX8_crux 5 (some .int)) (rmD 1) (va_Pc [.ref (ad 0)] (wPre D K ad (xG ad K mm) 132 xv0 xa0 xl0)) (vp_Si (fun r => r = (-2))) 0 0 (fun _ => False) := by
  refine x_met (by decide) (Nat.le_of_ble_eq_true rfl) ?_
  intro p e s m below meth c ls hE hr hlo hnm hB hl
  have hE : CallFix p m c cX8_crux 5 s _ tbG "TaleCourt" := hE
  obtain ⟨hP, hK, hN⟩ := hB
  have hS : va_S (inW ad 132) s.heap s.heap [] := va_S.rf
  have hl : lv_has ls 5 [(0, .ref (ad 0))] := hl
  refine lv_aload_n hE.1 hE.2.1 dX8_crux_0 rfl (lv_at hl 0 rfl) ?_
  refine x_get (x := .ref (ad 3)) hE hK hP 0 (by decide) (xG_8 rfl) rfl hin8 1 (by decide) mw_481 rfl dX8_crux_1 ?_
  refine x_vp (nn := 0) (As := []) (rest := []) hE (k_X1_stands l D K ad mm ) wPre_blind (wPre_now hK hN hP) (x_recv hK hP 3 (by decide) (xG_1 rfl) rfl) rfl mw_788 mw_789 mw_790 mw_116 mw_791 (by decide +kernel) ⟨by decide, by decide⟩ hl.1 rfl (by decide) ⟨Nat.zero_le _, Nat.zero_le _⟩ dX8_crux_4 (fun r hr => ?_)
  subst hr
  refine lv_if_ne (tgt := 13) hE.1 hE.2.1 dX8_crux_7 (by decide) (fun h => absurd (by decide) h) (fun _ => ?_)
  refine lv_bipush (v := (-2)) hE.1 hE.2.1 dX8_crux_10 (by decide) ?_
  exact x_ri hE hr hlo rfl rfl dX8_crux_12

theorem dX8_cost_0 : decode cX8_cost 0 = .ok (.aload_n 0, 1) := by decide +kernel
theorem dX8_cost_1 : decode cX8_cost 1 = .ok (.getfield 19, 3) := by decide +kernel
theorem dX8_cost_4 : decode cX8_cost 4 = .ok (.iload_n 1, 1) := by decide +kernel
theorem dX8_cost_5 : decode cX8_cost 5 = .ok (.invokevirtual 102, 3) := by decide +kernel
theorem dX8_cost_8 : decode cX8_cost 8 = .ok (.ifCond .ne 6, 3) := by decide +kernel
theorem dX8_cost_11 : decode cX8_cost 11 = .ok (.bipush (-2), 2) := by decide +kernel
theorem dX8_cost_13 : decode cX8_cost 13 = .ok (.ireturn, 1) := by decide +kernel
set_option maxHeartbeats 4000000 in
set_option maxRecDepth 100000 in
theorem k_X8_cost (l : Launch) (D : va_G) (K : Nat → ClassId) (ad : Nat → Nat) (mm : Option Nat) (p1 : Int32) : Met l yX8_cost (wM yX8_cost cX8_cost 4 (some .int)) (rmD 1) (va_Pc [.ref (ad 0), .int p1] (wPre D K ad (xG ad K mm) 132 xv0 xa0 xl0)) (vp_Si (fun r => r = (-2))) 0 0 (fun _ => False) := by
  refine x_met (by decide) (Nat.le_of_ble_eq_true rfl) ?_
  intro p e s m below meth c ls hE hr hlo hnm hB hl
  have hE : CallFix p m c cX8_cost 4 s _ tbG "TaleCourt" := hE
  obtain ⟨hP, hK, hN⟩ := hB
  have hS : va_S (inW ad 132) s.heap s.heap [] := va_S.rf
  have hl : lv_has ls 4 [(0, .ref (ad 0)), (1, .int p1)] := hl
  refine lv_aload_n hE.1 hE.2.1 dX8_cost_0 rfl (lv_at hl 0 rfl) ?_
  refine x_get (x := .ref (ad 3)) hE hK hP 0 (by decide) (xG_8 rfl) rfl hin8 1 (by decide) mw_481 rfl dX8_cost_1 ?_
  refine lv_iload_n hE.1 hE.2.1 dX8_cost_4 rfl (lv_at hl 1 rfl) ?_
  refine x_vp (nn := 1) (As := [.int p1]) (rest := []) hE (k_X1_hasMotif l D K ad mm p1) wPre_blind (wPre_now hK hN hP) (x_recv hK hP 3 (by decide) (xG_1 rfl) rfl) rfl mw_694 mw_695 mw_696 mw_116 mw_697 (by decide +kernel) ⟨by decide, by decide⟩ hl.1 rfl (by decide) ⟨Nat.zero_le _, Nat.zero_le _⟩ dX8_cost_5 (fun r hr => ?_)
  subst hr
  refine lv_if_ne (tgt := 14) hE.1 hE.2.1 dX8_cost_8 (by decide) (fun h => absurd (by decide) h) (fun _ => ?_)
  refine lv_bipush (v := (-2)) hE.1 hE.2.1 dX8_cost_11 (by decide) ?_
  exact x_ri hE hr hlo rfl rfl dX8_cost_13

theorem dX8_judge_0 : decode cX8_judge 0 = .ok (.aload_n 0, 1) := by decide +kernel
theorem dX8_judge_1 : decode cX8_judge 1 = .ok (.iload_n 1, 1) := by decide +kernel
theorem dX8_judge_2 : decode cX8_judge 2 = .ok (.invokevirtual 264, 3) := by decide +kernel
theorem dX8_judge_5 : decode cX8_judge 5 = .ok (.istore_n 2, 1) := by decide +kernel
theorem dX8_judge_6 : decode cX8_judge 6 = .ok (.iload_n 2, 1) := by decide +kernel
theorem dX8_judge_7 : decode cX8_judge 7 = .ok (.ifCond .eq 5, 3) := by decide +kernel
theorem dX8_judge_10 : decode cX8_judge 10 = .ok (.iload_n 2, 1) := by decide +kernel
theorem dX8_judge_11 : decode cX8_judge 11 = .ok (.ireturn, 1) := by decide +kernel
set_option maxHeartbeats 4000000 in
set_option maxRecDepth 100000 in
theorem k_X8_judge (l : Launch) (D : va_G) (K : Nat → ClassId) (ad : Nat → Nat) (mm : Option Nat) (p1 : Int32) : Met l yX8_judge (wM yX8_judge cX8_judge 3 (some .int)) (rmD 2) (va_Pc [.ref (ad 0), .int p1] (wPre D K ad (xG ad K mm) 132 xv0 xa0 xl0)) (vp_Si (fun r => r = (-2))) 0 0 (fun _ => False) := by
  refine x_met (by decide) (Nat.le_of_ble_eq_true rfl) ?_
  intro p e s m below meth c ls hE hr hlo hnm hB hl
  have hE : CallFix p m c cX8_judge 3 s _ tbG "TaleCourt" := hE
  obtain ⟨hP, hK, hN⟩ := hB
  have hS : va_S (inW ad 132) s.heap s.heap [] := va_S.rf
  have hl : lv_has ls 3 [(0, .ref (ad 0)), (1, .int p1)] := hl
  refine lv_aload_n hE.1 hE.2.1 dX8_judge_0 rfl (lv_at hl 0 rfl) ?_
  refine lv_iload_n hE.1 hE.2.1 dX8_judge_1 rfl (lv_at hl 1 rfl) ?_
  refine x_vp (nn := 1) (As := [.int p1]) (rest := []) hE (k_X8_slotBar l D K ad mm p1) wPre_blind (wPre_now hK hN hP) (x_recv hK hP 0 (by decide) (xG_8 rfl) rfl) rfl mw_1130 mw_1132 mw_36 mw_114 mw_1133 (by decide +kernel) ⟨by decide, by decide⟩ hl.1 rfl (by decide) ⟨Nat.zero_le _, Nat.zero_le _⟩ dX8_judge_2 (fun r hr => ?_)
  subst hr
  refine lv_istore_n (lv' := [(2, .int (-2)), (0, .ref (ad 0)), (1, .int p1)]) hE.1 hE.2.1 dX8_judge_5 rfl hl (by decide) rfl (fun ls hl => ?_)
  refine lv_iload_n hE.1 hE.2.1 dX8_judge_6 rfl (lv_at hl 0 rfl) ?_
  refine lv_if_eq (tgt := 12) hE.1 hE.2.1 dX8_judge_7 (by decide) (fun h => absurd h (by decide)) (fun _ => ?_)
  refine lv_iload_n hE.1 hE.2.1 dX8_judge_10 rfl (lv_at hl 0 rfl) ?_
  exact x_ri hE hr hlo rfl rfl dX8_judge_11

theorem dX8_verdict_0 : decode cX8_verdict 0 = .ok (.aload_n 0, 1) := by decide +kernel
theorem dX8_verdict_1 : decode cX8_verdict 1 = .ok (.iload_n 1, 1) := by decide +kernel
theorem dX8_verdict_2 : decode cX8_verdict 2 = .ok (.invokevirtual 264, 3) := by decide +kernel
theorem dX8_verdict_5 : decode cX8_verdict 5 = .ok (.istore_n 2, 1) := by decide +kernel
theorem dX8_verdict_6 : decode cX8_verdict 6 = .ok (.iload_n 2, 1) := by decide +kernel
theorem dX8_verdict_7 : decode cX8_verdict 7 = .ok (.ifCond .eq 7, 3) := by decide +kernel
theorem dX8_verdict_10 : decode cX8_verdict 10 = .ok (.iload_n 2, 1) := by decide +kernel
theorem dX8_verdict_11 : decode cX8_verdict 11 = .ok (.goto 13, 3) := by decide +kernel
theorem dX8_verdict_24 : decode cX8_verdict 24 = .ok (.ireturn, 1) := by decide +kernel
set_option maxHeartbeats 4000000 in
set_option maxRecDepth 100000 in
theorem k_X8_verdict (l : Launch) (D : va_G) (K : Nat → ClassId) (ad : Nat → Nat) (mm : Option Nat) (p1 : Int32) : Met l yX8_verdict (wM yX8_verdict cX8_verdict 3 (some .int)) (rmD 2) (va_Pc [.ref (ad 0), .int p1] (wPre D K ad (xG ad K mm) 132 xv0 xa0 xl0)) (vp_Si (fun r => r = (-2))) 0 0 (fun _ => False) := by
  refine x_met (by decide) (Nat.le_of_ble_eq_true rfl) ?_
  intro p e s m below meth c ls hE hr hlo hnm hB hl
  have hE : CallFix p m c cX8_verdict 3 s _ tbG "TaleCourt" := hE
  obtain ⟨hP, hK, hN⟩ := hB
  have hS : va_S (inW ad 132) s.heap s.heap [] := va_S.rf
  have hl : lv_has ls 3 [(0, .ref (ad 0)), (1, .int p1)] := hl
  refine lv_aload_n hE.1 hE.2.1 dX8_verdict_0 rfl (lv_at hl 0 rfl) ?_
  refine lv_iload_n hE.1 hE.2.1 dX8_verdict_1 rfl (lv_at hl 1 rfl) ?_
  refine x_vp (nn := 1) (As := [.int p1]) (rest := []) hE (k_X8_slotBar l D K ad mm p1) wPre_blind (wPre_now hK hN hP) (x_recv hK hP 0 (by decide) (xG_8 rfl) rfl) rfl mw_1130 mw_1132 mw_36 mw_114 mw_1133 (by decide +kernel) ⟨by decide, by decide⟩ hl.1 rfl (by decide) ⟨Nat.zero_le _, Nat.zero_le _⟩ dX8_verdict_2 (fun r hr => ?_)
  subst hr
  refine lv_istore_n (lv' := [(2, .int (-2)), (0, .ref (ad 0)), (1, .int p1)]) hE.1 hE.2.1 dX8_verdict_5 rfl hl (by decide) rfl (fun ls hl => ?_)
  refine lv_iload_n hE.1 hE.2.1 dX8_verdict_6 rfl (lv_at hl 0 rfl) ?_
  refine lv_if_eq (tgt := 14) hE.1 hE.2.1 dX8_verdict_7 (by decide) (fun h => absurd h (by decide)) (fun _ => ?_)
  refine lv_iload_n hE.1 hE.2.1 dX8_verdict_10 rfl (lv_at hl 0 rfl) ?_
  refine lv_goto (tgt := 24) hE.1 hE.2.1 dX8_verdict_11 (by decide) ?_
  exact x_ri hE hr hlo rfl rfl dX8_verdict_24

theorem dX8_lies_0 : decode cX8_lies 0 = .ok (.aload_n 0, 1) := by decide +kernel
theorem dX8_lies_1 : decode cX8_lies 1 = .ok (.iload_n 1, 1) := by decide +kernel
theorem dX8_lies_2 : decode cX8_lies 2 = .ok (.iconst 2, 1) := by decide +kernel
theorem dX8_lies_3 : decode cX8_lies 3 = .ok (.invokevirtual 289, 3) := by decide +kernel
theorem dX8_lies_6 : decode cX8_lies 6 = .ok (.istore_n 2, 1) := by decide +kernel
theorem dX8_lies_7 : decode cX8_lies 7 = .ok (.iload_n 2, 1) := by decide +kernel
theorem dX8_lies_8 : decode cX8_lies 8 = .ok (.ifCond .eq 5, 3) := by decide +kernel
theorem dX8_lies_11 : decode cX8_lies 11 = .ok (.iload_n 2, 1) := by decide +kernel
theorem dX8_lies_12 : decode cX8_lies 12 = .ok (.ireturn, 1) := by decide +kernel
set_option maxHeartbeats 4000000 in
set_option maxRecDepth 100000 in
theorem k_X8_lies (l : Launch) (D : va_G) (K : Nat → ClassId) (ad : Nat → Nat) (mm : Option Nat) (p1 : Int32) : Met l yX8_lies (wM yX8_lies cX8_lies 3 (some .int)) (rmD 3) (va_Pc [.ref (ad 0), .int p1] (wPre D K ad (xG ad K mm) 132 xv0 xa0 xl0)) (vp_Si (fun r => r = (-2))) 0 0 (fun _ => False) := by
  refine x_met (by decide) (Nat.le_of_ble_eq_true rfl) ?_
  intro p e s m below meth c ls hE hr hlo hnm hB hl
  have hE : CallFix p m c cX8_lies 3 s _ tbG "TaleCourt" := hE
  obtain ⟨hP, hK, hN⟩ := hB
  have hS : va_S (inW ad 132) s.heap s.heap [] := va_S.rf
  have hl : lv_has ls 3 [(0, .ref (ad 0)), (1, .int p1)] := hl
  refine lv_aload_n hE.1 hE.2.1 dX8_lies_0 rfl (lv_at hl 0 rfl) ?_
  refine lv_iload_n hE.1 hE.2.1 dX8_lies_1 rfl (lv_at hl 1 rfl) ?_
  refine lv_iconst (v := 2) hE.1 hE.2.1 dX8_lies_2 (by decide) ?_
  refine x_vp (nn := 2) (As := [.int p1, .int 2]) (rest := []) hE (k_X8_claimsBar l D K ad mm p1 2) wPre_blind (wPre_now hK hN hP) (x_recv hK hP 0 (by decide) (xG_8 rfl) rfl) rfl mw_1159 mw_1161 mw_39 mw_114 mw_1162 (by decide +kernel) ⟨by decide, by decide⟩ hl.1 rfl (by decide) ⟨Nat.zero_le _, Nat.zero_le _⟩ dX8_lies_3 (fun r hr => ?_)
  subst hr
  refine lv_istore_n (lv' := [(2, .int (-2)), (0, .ref (ad 0)), (1, .int p1)]) hE.1 hE.2.1 dX8_lies_6 rfl hl (by decide) rfl (fun ls hl => ?_)
  refine lv_iload_n hE.1 hE.2.1 dX8_lies_7 rfl (lv_at hl 0 rfl) ?_
  refine lv_if_eq (tgt := 13) hE.1 hE.2.1 dX8_lies_8 (by decide) (fun h => absurd h (by decide)) (fun _ => ?_)
  refine lv_iload_n hE.1 hE.2.1 dX8_lies_11 rfl (lv_at hl 0 rfl) ?_
  exact x_ri hE hr hlo rfl rfl dX8_lies_12

theorem dX8_orders_0 : decode cX8_orders 0 = .ok (.aload_n 0, 1) := by decide +kernel
theorem dX8_orders_1 : decode cX8_orders 1 = .ok (.iload_n 1, 1) := by decide +kernel
theorem dX8_orders_2 : decode cX8_orders 2 = .ok (.iconst 2, 1) := by decide +kernel
theorem dX8_orders_3 : decode cX8_orders 3 = .ok (.invokevirtual 289, 3) := by decide +kernel
theorem dX8_orders_6 : decode cX8_orders 6 = .ok (.istore_n 2, 1) := by decide +kernel
theorem dX8_orders_7 : decode cX8_orders 7 = .ok (.iload_n 2, 1) := by decide +kernel
theorem dX8_orders_8 : decode cX8_orders 8 = .ok (.ifCond .eq 5, 3) := by decide +kernel
theorem dX8_orders_11 : decode cX8_orders 11 = .ok (.iload_n 2, 1) := by decide +kernel
theorem dX8_orders_12 : decode cX8_orders 12 = .ok (.ireturn, 1) := by decide +kernel
set_option maxHeartbeats 4000000 in
set_option maxRecDepth 100000 in
theorem k_X8_orders (l : Launch) (D : va_G) (K : Nat → ClassId) (ad : Nat → Nat) (mm : Option Nat) (p1 : Int32) : Met l yX8_orders (wM yX8_orders cX8_orders 3 (some .int)) (rmD 3) (va_Pc [.ref (ad 0), .int p1] (wPre D K ad (xG ad K mm) 132 xv0 xa0 xl0)) (vp_Si (fun r => r = (-2))) 0 0 (fun _ => False) := by
  refine x_met (by decide) (Nat.le_of_ble_eq_true rfl) ?_
  intro p e s m below meth c ls hE hr hlo hnm hB hl
  have hE : CallFix p m c cX8_orders 3 s _ tbG "TaleCourt" := hE
  obtain ⟨hP, hK, hN⟩ := hB
  have hS : va_S (inW ad 132) s.heap s.heap [] := va_S.rf
  have hl : lv_has ls 3 [(0, .ref (ad 0)), (1, .int p1)] := hl
  refine lv_aload_n hE.1 hE.2.1 dX8_orders_0 rfl (lv_at hl 0 rfl) ?_
  refine lv_iload_n hE.1 hE.2.1 dX8_orders_1 rfl (lv_at hl 1 rfl) ?_
  refine lv_iconst (v := 2) hE.1 hE.2.1 dX8_orders_2 (by decide) ?_
  refine x_vp (nn := 2) (As := [.int p1, .int 2]) (rest := []) hE (k_X8_claimsBar l D K ad mm p1 2) wPre_blind (wPre_now hK hN hP) (x_recv hK hP 0 (by decide) (xG_8 rfl) rfl) rfl mw_1159 mw_1161 mw_39 mw_114 mw_1162 (by decide +kernel) ⟨by decide, by decide⟩ hl.1 rfl (by decide) ⟨Nat.zero_le _, Nat.zero_le _⟩ dX8_orders_3 (fun r hr => ?_)
  subst hr
  refine lv_istore_n (lv' := [(2, .int (-2)), (0, .ref (ad 0)), (1, .int p1)]) hE.1 hE.2.1 dX8_orders_6 rfl hl (by decide) rfl (fun ls hl => ?_)
  refine lv_iload_n hE.1 hE.2.1 dX8_orders_7 rfl (lv_at hl 0 rfl) ?_
  refine lv_if_eq (tgt := 13) hE.1 hE.2.1 dX8_orders_8 (by decide) (fun h => absurd h (by decide)) (fun _ => ?_)
  refine lv_iload_n hE.1 hE.2.1 dX8_orders_11 rfl (lv_at hl 0 rfl) ?_
  exact x_ri hE hr hlo rfl rfl dX8_orders_12

theorem dX8_fits_0 : decode cX8_fits 0 = .ok (.aload_n 0, 1) := by decide +kernel
theorem dX8_fits_1 : decode cX8_fits 1 = .ok (.iload_n 1, 1) := by decide +kernel
theorem dX8_fits_2 : decode cX8_fits 2 = .ok (.iconst 2, 1) := by decide +kernel
theorem dX8_fits_3 : decode cX8_fits 3 = .ok (.invokevirtual 289, 3) := by decide +kernel
theorem dX8_fits_6 : decode cX8_fits 6 = .ok (.istore_n 2, 1) := by decide +kernel
theorem dX8_fits_7 : decode cX8_fits 7 = .ok (.iload_n 2, 1) := by decide +kernel
theorem dX8_fits_8 : decode cX8_fits 8 = .ok (.ifCond .eq 5, 3) := by decide +kernel
theorem dX8_fits_11 : decode cX8_fits 11 = .ok (.iload_n 2, 1) := by decide +kernel
theorem dX8_fits_12 : decode cX8_fits 12 = .ok (.ireturn, 1) := by decide +kernel
set_option maxHeartbeats 4000000 in
set_option maxRecDepth 100000 in
theorem k_X8_fits (l : Launch) (D : va_G) (K : Nat → ClassId) (ad : Nat → Nat) (mm : Option Nat) (p1 : Int32) : Met l yX8_fits (wM yX8_fits cX8_fits 3 (some .int)) (rmD 3) (va_Pc [.ref (ad 0), .int p1] (wPre D K ad (xG ad K mm) 132 xv0 xa0 xl0)) (vp_Si (fun r => r = (-2))) 0 0 (fun _ => False) := by
  refine x_met (by decide) (Nat.le_of_ble_eq_true rfl) ?_
  intro p e s m below meth c ls hE hr hlo hnm hB hl
  have hE : CallFix p m c cX8_fits 3 s _ tbG "TaleCourt" := hE
  obtain ⟨hP, hK, hN⟩ := hB
  have hS : va_S (inW ad 132) s.heap s.heap [] := va_S.rf
  have hl : lv_has ls 3 [(0, .ref (ad 0)), (1, .int p1)] := hl
  refine lv_aload_n hE.1 hE.2.1 dX8_fits_0 rfl (lv_at hl 0 rfl) ?_
  refine lv_iload_n hE.1 hE.2.1 dX8_fits_1 rfl (lv_at hl 1 rfl) ?_
  refine lv_iconst (v := 2) hE.1 hE.2.1 dX8_fits_2 (by decide) ?_
  refine x_vp (nn := 2) (As := [.int p1, .int 2]) (rest := []) hE (k_X8_claimsBar l D K ad mm p1 2) wPre_blind (wPre_now hK hN hP) (x_recv hK hP 0 (by decide) (xG_8 rfl) rfl) rfl mw_1159 mw_1161 mw_39 mw_114 mw_1162 (by decide +kernel) ⟨by decide, by decide⟩ hl.1 rfl (by decide) ⟨Nat.zero_le _, Nat.zero_le _⟩ dX8_fits_3 (fun r hr => ?_)
  subst hr
  refine lv_istore_n (lv' := [(2, .int (-2)), (0, .ref (ad 0)), (1, .int p1)]) hE.1 hE.2.1 dX8_fits_6 rfl hl (by decide) rfl (fun ls hl => ?_)
  refine lv_iload_n hE.1 hE.2.1 dX8_fits_7 rfl (lv_at hl 0 rfl) ?_
  refine lv_if_eq (tgt := 13) hE.1 hE.2.1 dX8_fits_8 (by decide) (fun h => absurd h (by decide)) (fun _ => ?_)
  refine lv_iload_n hE.1 hE.2.1 dX8_fits_11 rfl (lv_at hl 0 rfl) ?_
  exact x_ri hE hr hlo rfl rfl dX8_fits_12

theorem dX8_liars_0 : decode cX8_liars 0 = .ok (.aload_n 0, 1) := by decide +kernel
theorem dX8_liars_1 : decode cX8_liars 1 = .ok (.iload_n 1, 1) := by decide +kernel
theorem dX8_liars_2 : decode cX8_liars 2 = .ok (.iconst 3, 1) := by decide +kernel
theorem dX8_liars_3 : decode cX8_liars 3 = .ok (.invokevirtual 289, 3) := by decide +kernel
theorem dX8_liars_6 : decode cX8_liars 6 = .ok (.istore_n 2, 1) := by decide +kernel
theorem dX8_liars_7 : decode cX8_liars 7 = .ok (.iload_n 2, 1) := by decide +kernel
theorem dX8_liars_8 : decode cX8_liars 8 = .ok (.ifCond .eq 7, 3) := by decide +kernel
theorem dX8_liars_11 : decode cX8_liars 11 = .ok (.iload_n 2, 1) := by decide +kernel
theorem dX8_liars_12 : decode cX8_liars 12 = .ok (.goto 20, 3) := by decide +kernel
theorem dX8_liars_32 : decode cX8_liars 32 = .ok (.ireturn, 1) := by decide +kernel
set_option maxHeartbeats 4000000 in
set_option maxRecDepth 100000 in
theorem k_X8_liars (l : Launch) (D : va_G) (K : Nat → ClassId) (ad : Nat → Nat) (mm : Option Nat) (p1 : Int32) : Met l yX8_liars (wM yX8_liars cX8_liars 3 (some .int)) (rmD 3) (va_Pc [.ref (ad 0), .int p1] (wPre D K ad (xG ad K mm) 132 xv0 xa0 xl0)) (vp_Si (fun r => r = (-2))) 0 0 (fun _ => False) := by
  refine x_met (by decide) (Nat.le_of_ble_eq_true rfl) ?_
  intro p e s m below meth c ls hE hr hlo hnm hB hl
  have hE : CallFix p m c cX8_liars 3 s _ tbG "TaleCourt" := hE
  obtain ⟨hP, hK, hN⟩ := hB
  have hS : va_S (inW ad 132) s.heap s.heap [] := va_S.rf
  have hl : lv_has ls 3 [(0, .ref (ad 0)), (1, .int p1)] := hl
  refine lv_aload_n hE.1 hE.2.1 dX8_liars_0 rfl (lv_at hl 0 rfl) ?_
  refine lv_iload_n hE.1 hE.2.1 dX8_liars_1 rfl (lv_at hl 1 rfl) ?_
  refine lv_iconst (v := 3) hE.1 hE.2.1 dX8_liars_2 (by decide) ?_
  refine x_vp (nn := 2) (As := [.int p1, .int 3]) (rest := []) hE (k_X8_claimsBar l D K ad mm p1 3) wPre_blind (wPre_now hK hN hP) (x_recv hK hP 0 (by decide) (xG_8 rfl) rfl) rfl mw_1159 mw_1161 mw_39 mw_114 mw_1162 (by decide +kernel) ⟨by decide, by decide⟩ hl.1 rfl (by decide) ⟨Nat.zero_le _, Nat.zero_le _⟩ dX8_liars_3 (fun r hr => ?_)
  subst hr
  refine lv_istore_n (lv' := [(2, .int (-2)), (0, .ref (ad 0)), (1, .int p1)]) hE.1 hE.2.1 dX8_liars_6 rfl hl (by decide) rfl (fun ls hl => ?_)
  refine lv_iload_n hE.1 hE.2.1 dX8_liars_7 rfl (lv_at hl 0 rfl) ?_
  refine lv_if_eq (tgt := 15) hE.1 hE.2.1 dX8_liars_8 (by decide) (fun h => absurd h (by decide)) (fun _ => ?_)
  refine lv_iload_n hE.1 hE.2.1 dX8_liars_11 rfl (lv_at hl 0 rfl) ?_
  refine lv_goto (tgt := 32) hE.1 hE.2.1 dX8_liars_12 (by decide) ?_
  exact x_ri hE hr hlo rfl rfl dX8_liars_32

theorem dX8_who_0 : decode cX8_who 0 = .ok (.aload_n 0, 1) := by decide +kernel
theorem dX8_who_1 : decode cX8_who 1 = .ok (.iload_n 1, 1) := by decide +kernel
theorem dX8_who_2 : decode cX8_who 2 = .ok (.iconst 3, 1) := by decide +kernel
theorem dX8_who_3 : decode cX8_who 3 = .ok (.invokevirtual 289, 3) := by decide +kernel
theorem dX8_who_6 : decode cX8_who 6 = .ok (.istore_n 2, 1) := by decide +kernel
theorem dX8_who_7 : decode cX8_who 7 = .ok (.iload_n 2, 1) := by decide +kernel
theorem dX8_who_8 : decode cX8_who 8 = .ok (.ifCond .eq 7, 3) := by decide +kernel
theorem dX8_who_11 : decode cX8_who 11 = .ok (.iload_n 2, 1) := by decide +kernel
theorem dX8_who_12 : decode cX8_who 12 = .ok (.goto 17, 3) := by decide +kernel
theorem dX8_who_29 : decode cX8_who 29 = .ok (.ireturn, 1) := by decide +kernel
set_option maxHeartbeats 4000000 in
set_option maxRecDepth 100000 in
theorem k_X8_who (l : Launch) (D : va_G) (K : Nat → ClassId) (ad : Nat → Nat) (mm : Option Nat) (p1 : Int32) : Met l yX8_who (wM yX8_who cX8_who 3 (some .int)) (rmD 3) (va_Pc [.ref (ad 0), .int p1] (wPre D K ad (xG ad K mm) 132 xv0 xa0 xl0)) (vp_Si (fun r => r = (-2))) 0 0 (fun _ => False) := by
  refine x_met (by decide) (Nat.le_of_ble_eq_true rfl) ?_
  intro p e s m below meth c ls hE hr hlo hnm hB hl
  have hE : CallFix p m c cX8_who 3 s _ tbG "TaleCourt" := hE
  obtain ⟨hP, hK, hN⟩ := hB
  have hS : va_S (inW ad 132) s.heap s.heap [] := va_S.rf
  have hl : lv_has ls 3 [(0, .ref (ad 0)), (1, .int p1)] := hl
  refine lv_aload_n hE.1 hE.2.1 dX8_who_0 rfl (lv_at hl 0 rfl) ?_
  refine lv_iload_n hE.1 hE.2.1 dX8_who_1 rfl (lv_at hl 1 rfl) ?_
  refine lv_iconst (v := 3) hE.1 hE.2.1 dX8_who_2 (by decide) ?_
  refine x_vp (nn := 2) (As := [.int p1, .int 3]) (rest := []) hE (k_X8_claimsBar l D K ad mm p1 3) wPre_blind (wPre_now hK hN hP) (x_recv hK hP 0 (by decide) (xG_8 rfl) rfl) rfl mw_1159 mw_1161 mw_39 mw_114 mw_1162 (by decide +kernel) ⟨by decide, by decide⟩ hl.1 rfl (by decide) ⟨Nat.zero_le _, Nat.zero_le _⟩ dX8_who_3 (fun r hr => ?_)
  subst hr
  refine lv_istore_n (lv' := [(2, .int (-2)), (0, .ref (ad 0)), (1, .int p1)]) hE.1 hE.2.1 dX8_who_6 rfl hl (by decide) rfl (fun ls hl => ?_)
  refine lv_iload_n hE.1 hE.2.1 dX8_who_7 rfl (lv_at hl 0 rfl) ?_
  refine lv_if_eq (tgt := 15) hE.1 hE.2.1 dX8_who_8 (by decide) (fun h => absurd h (by decide)) (fun _ => ?_)
  refine lv_iload_n hE.1 hE.2.1 dX8_who_11 rfl (lv_at hl 0 rfl) ?_
  refine lv_goto (tgt := 29) hE.1 hE.2.1 dX8_who_12 (by decide) ?_
  exact x_ri hE hr hlo rfl rfl dX8_who_29

theorem dX8_votes_0 : decode cX8_votes 0 = .ok (.iload_n 1, 1) := by decide +kernel
theorem dX8_votes_1 : decode cX8_votes 1 = .ok (.invokestatic 260, 3) := by decide +kernel
theorem dX8_votes_4 : decode cX8_votes 4 = .ok (.ifCond .eq 20, 3) := by decide +kernel
theorem dX8_votes_7 : decode cX8_votes 7 = .ok (.iload_n 2, 1) := by decide +kernel
theorem dX8_votes_8 : decode cX8_votes 8 = .ok (.invokestatic 260, 3) := by decide +kernel
theorem dX8_votes_11 : decode cX8_votes 11 = .ok (.ifCond .eq 13, 3) := by decide +kernel
theorem dX8_votes_14 : decode cX8_votes 14 = .ok (.aload_n 0, 1) := by decide +kernel
theorem dX8_votes_15 : decode cX8_votes 15 = .ok (.getfield 19, 3) := by decide +kernel
theorem dX8_votes_18 : decode cX8_votes 18 = .ok (.invokevirtual 157, 3) := by decide +kernel
theorem dX8_votes_21 : decode cX8_votes 21 = .ok (.ifCond .ne 6, 3) := by decide +kernel
theorem dX8_votes_24 : decode cX8_votes 24 = .ok (.bipush (-2), 2) := by decide +kernel
theorem dX8_votes_26 : decode cX8_votes 26 = .ok (.ireturn, 1) := by decide +kernel
set_option maxHeartbeats 4000000 in
set_option maxRecDepth 100000 in
theorem k_X8_votes (l : Launch) (D : va_G) (K : Nat → ClassId) (ad : Nat → Nat) (mm : Option Nat) (p1 : Int32) (p2 : Int32) : Met l yX8_votes (wM yX8_votes cX8_votes 7 (some .int)) (rmD 1) (va_Pc [.ref (ad 0), .int p1, .int p2] (wPre D K ad (xG ad K mm) 132 xv0 xa0 xl0)) (vp_Si (fun r => r = (-2))) 0 0 (fun _ => False) := by
  refine x_met (by decide) (Nat.le_of_ble_eq_true rfl) ?_
  intro p e s m below meth c ls hE hr hlo hnm hB hl
  have hE : CallFix p m c cX8_votes 7 s _ tbG "TaleCourt" := hE
  obtain ⟨hP, hK, hN⟩ := hB
  have hS : va_S (inW ad 132) s.heap s.heap [] := va_S.rf
  have hl : lv_has ls 7 [(0, .ref (ad 0)), (1, .int p1), (2, .int p2)] := hl
  refine lv_iload_n hE.1 hE.2.1 dX8_votes_0 rfl (lv_at hl 1 rfl) ?_
  refine x_sp (nn := 1) (As := [.int p1]) (rest := []) hE (k_X8_isSlot l p1) tt_blind (fun _ _ _ => trivial) rfl mw_1134 mw_1135 mw_114 mw_1136 (by decide +kernel) ⟨by decide, by decide⟩ hl.1 rfl (by decide) ⟨Nat.zero_le _, Nat.zero_le _⟩ dX8_votes_1 (fun r hr => ?_)
  subst hr
  refine lv_if_eq (tgt := 24) hE.1 hE.2.1 dX8_votes_4 (by decide) (fun c_1 => ?_) (fun c_1 => ?_)
  · skip
    refine lv_bipush (v := (-2)) hE.1 hE.2.1 dX8_votes_24 (by decide) ?_
    exact x_ri hE hr hlo rfl rfl dX8_votes_26
  · skip
    refine lv_iload_n hE.1 hE.2.1 dX8_votes_7 rfl (lv_at hl 2 rfl) ?_
    refine x_sp (nn := 1) (As := [.int p2]) (rest := []) hE (k_X8_isSlot l p2) tt_blind (fun _ _ _ => trivial) rfl mw_1134 mw_1135 mw_114 mw_1136 (by decide +kernel) ⟨by decide, by decide⟩ hl.1 rfl (by decide) ⟨Nat.zero_le _, Nat.zero_le _⟩ dX8_votes_8 (fun r hr => ?_)
    subst hr
    refine lv_if_eq (tgt := 24) hE.1 hE.2.1 dX8_votes_11 (by decide) (fun c_2 => ?_) (fun c_2 => ?_)
    · skip
      refine lv_bipush (v := (-2)) hE.1 hE.2.1 dX8_votes_24 (by decide) ?_
      exact x_ri hE hr hlo rfl rfl dX8_votes_26
    · skip
      refine lv_aload_n hE.1 hE.2.1 dX8_votes_14 rfl (lv_at hl 0 rfl) ?_
      refine x_get (x := .ref (ad 3)) hE hK hP 0 (by decide) (xG_8 rfl) rfl hin8 1 (by decide) mw_481 rfl dX8_votes_15 ?_
      refine x_vp (nn := 0) (As := []) (rest := []) hE (k_X1_stands l D K ad mm ) wPre_blind (wPre_now hK hN hP) (x_recv hK hP 3 (by decide) (xG_1 rfl) rfl) rfl mw_788 mw_789 mw_790 mw_116 mw_791 (by decide +kernel) ⟨by decide, by decide⟩ hl.1 rfl (by decide) ⟨Nat.zero_le _, Nat.zero_le _⟩ dX8_votes_18 (fun r hr => ?_)
      subst hr
      refine lv_if_ne (tgt := 27) hE.1 hE.2.1 dX8_votes_21 (by decide) (fun h => absurd (by decide) h) (fun _ => ?_)
      refine lv_bipush (v := (-2)) hE.1 hE.2.1 dX8_votes_24 (by decide) ?_
      exact x_ri hE hr hlo rfl rfl dX8_votes_26

theorem dX8_drawn_0 : decode cX8_drawn 0 = .ok (.aload_n 0, 1) := by decide +kernel
theorem dX8_drawn_1 : decode cX8_drawn 1 = .ok (.iload_n 1, 1) := by decide +kernel
theorem dX8_drawn_2 : decode cX8_drawn 2 = .ok (.invokevirtual 341, 3) := by decide +kernel
theorem dX8_drawn_5 : decode cX8_drawn 5 = .ok (.ifCond .eq 12, 3) := by decide +kernel
theorem dX8_drawn_17 : decode cX8_drawn 17 = .ok (.bipush (-2), 2) := by decide +kernel
theorem dX8_drawn_19 : decode cX8_drawn 19 = .ok (.ireturn, 1) := by decide +kernel
set_option maxHeartbeats 4000000 in
set_option maxRecDepth 100000 in
theorem k_X8_drawn (l : Launch) (D : va_G) (K : Nat → ClassId) (ad : Nat → Nat) (mm : Option Nat) (p1 : Int32) (p2 : Int32) : Met l yX8_drawn (wM yX8_drawn cX8_drawn 3 (some .int)) (rmD 2) (va_Pc [.ref (ad 0), .int p1, .int p2] (wPre D K ad (xG ad K mm) 132 xv0 xa0 xl0)) (vp_Si (fun r => r = (-2))) 0 0 (fun _ => False) := by
  refine x_met (by decide) (Nat.le_of_ble_eq_true rfl) ?_
  intro p e s m below meth c ls hE hr hlo hnm hB hl
  have hE : CallFix p m c cX8_drawn 3 s _ tbG "TaleCourt" := hE
  obtain ⟨hP, hK, hN⟩ := hB
  have hS : va_S (inW ad 132) s.heap s.heap [] := va_S.rf
  have hl : lv_has ls 3 [(0, .ref (ad 0)), (1, .int p1), (2, .int p2)] := hl
  refine lv_aload_n hE.1 hE.2.1 dX8_drawn_0 rfl (lv_at hl 0 rfl) ?_
  refine lv_iload_n hE.1 hE.2.1 dX8_drawn_1 rfl (lv_at hl 1 rfl) ?_
  refine x_vp (nn := 1) (As := [.int p1]) (rest := []) hE (k_X8_mayDraw l D K ad mm p1) wPre_blind (wPre_now hK hN hP) (x_recv hK hP 0 (by decide) (xG_8 rfl) rfl) rfl mw_1258 mw_1260 mw_44 mw_114 mw_1261 (by decide +kernel) ⟨by decide, by decide⟩ hl.1 rfl (by decide) ⟨Nat.zero_le _, Nat.zero_le _⟩ dX8_drawn_2 (fun r hr => ?_)
  subst hr
  refine lv_if_eq (tgt := 17) hE.1 hE.2.1 dX8_drawn_5 (by decide) (fun _ => ?_) (fun h => absurd (by decide) h)
  refine lv_bipush (v := (-2)) hE.1 hE.2.1 dX8_drawn_17 (by decide) ?_
  exact x_ri hE hr hlo rfl rfl dX8_drawn_19

theorem dX8_lot_0 : decode cX8_lot 0 = .ok (.aload_n 0, 1) := by decide +kernel
theorem dX8_lot_1 : decode cX8_lot 1 = .ok (.iload_n 1, 1) := by decide +kernel
theorem dX8_lot_2 : decode cX8_lot 2 = .ok (.invokevirtual 341, 3) := by decide +kernel
theorem dX8_lot_5 : decode cX8_lot 5 = .ok (.ifCond .ne 6, 3) := by decide +kernel
theorem dX8_lot_8 : decode cX8_lot 8 = .ok (.bipush (-2), 2) := by decide +kernel
theorem dX8_lot_10 : decode cX8_lot 10 = .ok (.ireturn, 1) := by decide +kernel
set_option maxHeartbeats 4000000 in
set_option maxRecDepth 100000 in
theorem k_X8_lot (l : Launch) (D : va_G) (K : Nat → ClassId) (ad : Nat → Nat) (mm : Option Nat) (p1 : Int32) (p2 : Int32) : Met l yX8_lot (wM yX8_lot cX8_lot 3 (some .int)) (rmD 2) (va_Pc [.ref (ad 0), .int p1, .int p2] (wPre D K ad (xG ad K mm) 132 xv0 xa0 xl0)) (vp_Si (fun r => r = (-2))) 0 0 (fun _ => False) := by
  refine x_met (by decide) (Nat.le_of_ble_eq_true rfl) ?_
  intro p e s m below meth c ls hE hr hlo hnm hB hl
  have hE : CallFix p m c cX8_lot 3 s _ tbG "TaleCourt" := hE
  obtain ⟨hP, hK, hN⟩ := hB
  have hS : va_S (inW ad 132) s.heap s.heap [] := va_S.rf
  have hl : lv_has ls 3 [(0, .ref (ad 0)), (1, .int p1), (2, .int p2)] := hl
  refine lv_aload_n hE.1 hE.2.1 dX8_lot_0 rfl (lv_at hl 0 rfl) ?_
  refine lv_iload_n hE.1 hE.2.1 dX8_lot_1 rfl (lv_at hl 1 rfl) ?_
  refine x_vp (nn := 1) (As := [.int p1]) (rest := []) hE (k_X8_mayDraw l D K ad mm p1) wPre_blind (wPre_now hK hN hP) (x_recv hK hP 0 (by decide) (xG_8 rfl) rfl) rfl mw_1258 mw_1260 mw_44 mw_114 mw_1261 (by decide +kernel) ⟨by decide, by decide⟩ hl.1 rfl (by decide) ⟨Nat.zero_le _, Nat.zero_le _⟩ dX8_lot_2 (fun r hr => ?_)
  subst hr
  refine lv_if_ne (tgt := 11) hE.1 hE.2.1 dX8_lot_5 (by decide) (fun h => absurd (by decide) h) (fun _ => ?_)
  refine lv_bipush (v := (-2)) hE.1 hE.2.1 dX8_lot_8 (by decide) ?_
  exact x_ri hE hr hlo rfl rfl dX8_lot_10

theorem dX8_nights_0 : decode cX8_nights 0 = .ok (.aload_n 0, 1) := by decide +kernel
theorem dX8_nights_1 : decode cX8_nights 1 = .ok (.iload_n 1, 1) := by decide +kernel
theorem dX8_nights_2 : decode cX8_nights 2 = .ok (.invokevirtual 341, 3) := by decide +kernel
theorem dX8_nights_5 : decode cX8_nights 5 = .ok (.ifCond .eq 14, 3) := by decide +kernel
theorem dX8_nights_19 : decode cX8_nights 19 = .ok (.bipush (-2), 2) := by decide +kernel
theorem dX8_nights_21 : decode cX8_nights 21 = .ok (.ireturn, 1) := by decide +kernel
set_option maxHeartbeats 4000000 in
set_option maxRecDepth 100000 in
theorem k_X8_nights (l : Launch) (D : va_G) (K : Nat → ClassId) (ad : Nat → Nat) (mm : Option Nat) (p1 : Int32) (p2 : Int32) : Met l yX8_nights (wM yX8_nights cX8_nights 5 (some .int)) (rmD 2) (va_Pc [.ref (ad 0), .int p1, .int p2] (wPre D K ad (xG ad K mm) 132 xv0 xa0 xl0)) (vp_Si (fun r => r = (-2))) 0 0 (fun _ => False) := by
  refine x_met (by decide) (Nat.le_of_ble_eq_true rfl) ?_
  intro p e s m below meth c ls hE hr hlo hnm hB hl
  have hE : CallFix p m c cX8_nights 5 s _ tbG "TaleCourt" := hE
  obtain ⟨hP, hK, hN⟩ := hB
  have hS : va_S (inW ad 132) s.heap s.heap [] := va_S.rf
  have hl : lv_has ls 5 [(0, .ref (ad 0)), (1, .int p1), (2, .int p2)] := hl
  refine lv_aload_n hE.1 hE.2.1 dX8_nights_0 rfl (lv_at hl 0 rfl) ?_
  refine lv_iload_n hE.1 hE.2.1 dX8_nights_1 rfl (lv_at hl 1 rfl) ?_
  refine x_vp (nn := 1) (As := [.int p1]) (rest := []) hE (k_X8_mayDraw l D K ad mm p1) wPre_blind (wPre_now hK hN hP) (x_recv hK hP 0 (by decide) (xG_8 rfl) rfl) rfl mw_1258 mw_1260 mw_44 mw_114 mw_1261 (by decide +kernel) ⟨by decide, by decide⟩ hl.1 rfl (by decide) ⟨Nat.zero_le _, Nat.zero_le _⟩ dX8_nights_2 (fun r hr => ?_)
  subst hr
  refine lv_if_eq (tgt := 19) hE.1 hE.2.1 dX8_nights_5 (by decide) (fun _ => ?_) (fun h => absurd (by decide) h)
  refine lv_bipush (v := (-2)) hE.1 hE.2.1 dX8_nights_19 (by decide) ?_
  exact x_ri hE hr hlo rfl rfl dX8_nights_21

theorem dX8_taste_0 : decode cX8_taste 0 = .ok (.iload_n 2, 1) := by decide +kernel
theorem dX8_taste_1 : decode cX8_taste 1 = .ok (.invokestatic 260, 3) := by decide +kernel
theorem dX8_taste_4 : decode cX8_taste 4 = .ok (.ifCond .eq 14, 3) := by decide +kernel
theorem dX8_taste_7 : decode cX8_taste 7 = .ok (.aload_n 0, 1) := by decide +kernel
theorem dX8_taste_8 : decode cX8_taste 8 = .ok (.getfield 19, 3) := by decide +kernel
theorem dX8_taste_11 : decode cX8_taste 11 = .ok (.iload_n 1, 1) := by decide +kernel
theorem dX8_taste_12 : decode cX8_taste 12 = .ok (.invokevirtual 323, 3) := by decide +kernel
theorem dX8_taste_15 : decode cX8_taste 15 = .ok (.ifCond .ne 7, 3) := by decide +kernel
theorem dX8_taste_18 : decode cX8_taste 18 = .ok (.sipush (-1000), 3) := by decide +kernel
theorem dX8_taste_21 : decode cX8_taste 21 = .ok (.ireturn, 1) := by decide +kernel
set_option maxHeartbeats 4000000 in
set_option maxRecDepth 100000 in
theorem k_X8_taste (l : Launch) (D : va_G) (K : Nat → ClassId) (ad : Nat → Nat) (mm : Option Nat) (p1 : Int32) (p2 : Int32) : Met l yX8_taste (wM yX8_taste cX8_taste 4 (some .int)) (rmD 1) (va_Pc [.ref (ad 0), .int p1, .int p2] (wPre D K ad (xG ad K mm) 132 xv0 xa0 xl0)) (vp_Si (fun r => r = (-1000))) 0 0 (fun _ => False) := by
  refine x_met (by decide) (Nat.le_of_ble_eq_true rfl) ?_
  intro p e s m below meth c ls hE hr hlo hnm hB hl
  have hE : CallFix p m c cX8_taste 4 s _ tbG "TaleCourt" := hE
  obtain ⟨hP, hK, hN⟩ := hB
  have hS : va_S (inW ad 132) s.heap s.heap [] := va_S.rf
  have hl : lv_has ls 4 [(0, .ref (ad 0)), (1, .int p1), (2, .int p2)] := hl
  refine lv_iload_n hE.1 hE.2.1 dX8_taste_0 rfl (lv_at hl 2 rfl) ?_
  refine x_sp (nn := 1) (As := [.int p2]) (rest := []) hE (k_X8_isSlot l p2) tt_blind (fun _ _ _ => trivial) rfl mw_1134 mw_1135 mw_114 mw_1136 (by decide +kernel) ⟨by decide, by decide⟩ hl.1 rfl (by decide) ⟨Nat.zero_le _, Nat.zero_le _⟩ dX8_taste_1 (fun r hr => ?_)
  subst hr
  refine lv_if_eq (tgt := 18) hE.1 hE.2.1 dX8_taste_4 (by decide) (fun c_1 => ?_) (fun c_1 => ?_)
  · skip
    refine lv_sipush (v := (-1000)) hE.1 hE.2.1 dX8_taste_18 (by decide) ?_
    exact x_ri hE hr hlo rfl rfl dX8_taste_21
  · skip
    refine lv_aload_n hE.1 hE.2.1 dX8_taste_7 rfl (lv_at hl 0 rfl) ?_
    refine x_get (x := .ref (ad 3)) hE hK hP 0 (by decide) (xG_8 rfl) rfl hin8 1 (by decide) mw_481 rfl dX8_taste_8 ?_
    refine lv_iload_n hE.1 hE.2.1 dX8_taste_11 rfl (lv_at hl 1 rfl) ?_
    refine x_vp (nn := 1) (As := [.int p1]) (rest := []) hE (k_X1_hasListener l D K ad mm p1) wPre_blind (wPre_now hK hN hP) (x_recv hK hP 3 (by decide) (xG_1 rfl) rfl) rfl mw_1253 mw_1245 mw_1246 mw_116 mw_1247 (by decide +kernel) ⟨by decide, by decide⟩ hl.1 rfl (by decide) ⟨Nat.zero_le _, Nat.zero_le _⟩ dX8_taste_12 (fun r hr => ?_)
    subst hr
    refine lv_if_ne (tgt := 22) hE.1 hE.2.1 dX8_taste_15 (by decide) (fun h => absurd (by decide) h) (fun _ => ?_)
    refine lv_sipush (v := (-1000)) hE.1 hE.2.1 dX8_taste_18 (by decide) ?_
    exact x_ri hE hr hlo rfl rfl dX8_taste_21
