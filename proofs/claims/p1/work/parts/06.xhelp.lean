def slB (x : Int32) : Int32 := if x < 0 then 0 else if 4 ≤ x then 0 else 1
def inL (x lo hi : Int64) : Int32 := if x < lo then 0 else if hi < x then 0 else 1
theorem inL_none (x : Int64) : inL x 0 (-1) = 0 := by
  unfold inL
  by_cases h : x < 0
  · rw [if_pos h]
  · rw [if_neg h, if_pos]
    have h1 : ¬ x.toInt < 0 := fun q => h (Int64.lt_iff_toInt_lt.mpr q)
    exact Int64.lt_iff_toInt_lt.mpr (by have e : (-1 : Int64).toInt = -1 := by decide
                                        rw [e]; omega)
theorem inL_slot (x : Int32) : inL x.toInt64 0 3 = slB x := by
  unfold inL slB
  have e0 : (0 : Int64).toInt = 0 := by decide
  have e3 : (3 : Int64).toInt = 3 := by decide
  have f0 : (0 : Int32).toInt = 0 := by decide
  have f4 : (4 : Int32).toInt = 4 := by decide
  by_cases h : x < 0
  · rw [if_pos h, if_pos]
    rw [Int64.lt_iff_toInt_lt, Int32.toInt_toInt64, e0]
    rw [Int32.lt_iff_toInt_lt, f0] at h
    exact h
  · have h1 : ¬ x.toInt64 < 0 := by
      rw [Int64.lt_iff_toInt_lt, Int32.toInt_toInt64, e0]
      rw [Int32.lt_iff_toInt_lt, f0] at h
      exact h
    rw [if_neg h, if_neg h1]
    by_cases h4 : 4 ≤ x
    · have h2 : (3 : Int64) < x.toInt64 := by
        rw [Int64.lt_iff_toInt_lt, Int32.toInt_toInt64, e3]
        rw [Int32.le_iff_toInt_le, f4] at h4
        omega
      rw [if_pos h4, if_pos h2]
    · have h2 : ¬ (3 : Int64) < x.toInt64 := by
        rw [Int64.lt_iff_toInt_lt, Int32.toInt_toInt64, e3]
        rw [Int32.le_iff_toInt_le, f4] at h4
        omega
      rw [if_neg h4, if_neg h2]

theorem dX1_stands_0 : decode cX1_stands 0 = .ok (.aload_n 0, 1) := by decide +kernel
theorem dX1_stands_1 : decode cX1_stands 1 = .ok (.getfield 52, 3) := by decide +kernel
theorem dX1_stands_4 : decode cX1_stands 4 = .ok (.ifCond .le 7, 3) := by decide +kernel
theorem dX1_stands_11 : decode cX1_stands 11 = .ok (.iconst 0, 1) := by decide +kernel
theorem dX1_stands_12 : decode cX1_stands 12 = .ok (.ireturn, 1) := by decide +kernel
set_option maxHeartbeats 4000000 in
set_option maxRecDepth 100000 in
theorem k_X1_stands (l : Launch) (D : va_G) (K : Nat → ClassId) (ad : Nat → Nat) (mm : Option Nat) : Met l yX1_stands (wM yX1_stands cX1_stands 1 (some .boolean)) (rmD 0) (va_Pc [.ref (ad 3)] (wPre D K ad (xG ad K mm) 132 xv0 xa0 xl0)) (vp_Si (fun r => r = 0)) 0 0 (fun _ => False) := by
  refine x_met (by decide) (Nat.le_of_ble_eq_true rfl) ?_
  intro p e s m below meth c ls hE hr hlo hnm hB hl
  have hE : CallFix p m c cX1_stands 1 s _ tbG "TaleCourt$Court" := hE
  obtain ⟨hP, hK, hN⟩ := hB
  have hS : va_S (inW ad 132) s.heap s.heap [] := va_S.rf
  have hl : lv_has ls 1 [(0, .ref (ad 3))] := hl
  refine lv_aload_n hE.1 hE.2.1 dX1_stands_0 rfl (lv_at hl 0 rfl) ?_
  refine x_get (x := .int 0) hE hK hP 3 (by decide) (xG_1 rfl) rfl hin1 4 (by decide) mw_194 rfl dX1_stands_1 ?_
  refine lv_if_le (tgt := 11) hE.1 hE.2.1 dX1_stands_4 (by decide) (fun _ => ?_) (fun h => absurd (by decide) h)
  refine lv_iconst (v := 0) hE.1 hE.2.1 dX1_stands_11 (by decide) ?_
  exact x_ri hE hr hlo rfl rfl dX1_stands_12

theorem dX1_hasMotif_0 : decode cX1_hasMotif 0 = .ok (.iload_n 1, 1) := by decide +kernel
theorem dX1_hasMotif_1 : decode cX1_hasMotif 1 = .ok (.ifCond .lt 21, 3) := by decide +kernel
theorem dX1_hasMotif_4 : decode cX1_hasMotif 4 = .ok (.iload_n 1, 1) := by decide +kernel
theorem dX1_hasMotif_5 : decode cX1_hasMotif 5 = .ok (.aload_n 0, 1) := by decide +kernel
theorem dX1_hasMotif_6 : decode cX1_hasMotif 6 = .ok (.getfield 46, 3) := by decide +kernel
theorem dX1_hasMotif_9 : decode cX1_hasMotif 9 = .ok (.if_icmp .ge 13, 3) := by decide +kernel
theorem dX1_hasMotif_22 : decode cX1_hasMotif 22 = .ok (.iconst 0, 1) := by decide +kernel
theorem dX1_hasMotif_23 : decode cX1_hasMotif 23 = .ok (.ireturn, 1) := by decide +kernel
set_option maxHeartbeats 4000000 in
set_option maxRecDepth 100000 in
theorem k_X1_hasMotif (l : Launch) (D : va_G) (K : Nat → ClassId) (ad : Nat → Nat) (mm : Option Nat) (p1 : Int32) : Met l yX1_hasMotif (wM yX1_hasMotif cX1_hasMotif 2 (some .boolean)) (rmD 0) (va_Pc [.ref (ad 3), .int p1] (wPre D K ad (xG ad K mm) 132 xv0 xa0 xl0)) (vp_Si (fun r => r = 0)) 0 0 (fun _ => False) := by
  refine x_met (by decide) (Nat.le_of_ble_eq_true rfl) ?_
  intro p e s m below meth c ls hE hr hlo hnm hB hl
  have hE : CallFix p m c cX1_hasMotif 2 s _ tbG "TaleCourt$Court" := hE
  obtain ⟨hP, hK, hN⟩ := hB
  have hS : va_S (inW ad 132) s.heap s.heap [] := va_S.rf
  have hl : lv_has ls 2 [(0, .ref (ad 3)), (1, .int p1)] := hl
  refine lv_iload_n hE.1 hE.2.1 dX1_hasMotif_0 rfl (lv_at hl 1 rfl) ?_
  refine lv_if_lt (tgt := 22) hE.1 hE.2.1 dX1_hasMotif_1 (by decide) (fun c_1 => ?_) (fun c_1 => ?_)
  · skip
    refine lv_iconst (v := 0) hE.1 hE.2.1 dX1_hasMotif_22 (by decide) ?_
    exact x_ri hE hr hlo rfl rfl dX1_hasMotif_23
  · skip
    refine lv_iload_n hE.1 hE.2.1 dX1_hasMotif_4 rfl (lv_at hl 1 rfl) ?_
    refine lv_aload_n hE.1 hE.2.1 dX1_hasMotif_5 rfl (lv_at hl 0 rfl) ?_
    refine x_get (x := .int 0) hE hK hP 3 (by decide) (xG_1 rfl) rfl hin1 2 (by decide) mw_187 rfl dX1_hasMotif_6 ?_
    refine lv_icmp_ge (tgt := 22) hE.1 hE.2.1 dX1_hasMotif_9 (by decide) (fun _ => ?_) (fun h => absurd (k2_le c_1) h)
    refine lv_iconst (v := 0) hE.1 hE.2.1 dX1_hasMotif_22 (by decide) ?_
    exact x_ri hE hr hlo rfl rfl dX1_hasMotif_23

theorem dX1_hasTeller_0 : decode cX1_hasTeller 0 = .ok (.iload_n 1, 1) := by decide +kernel
theorem dX1_hasTeller_1 : decode cX1_hasTeller 1 = .ok (.ifCond .lt 20, 3) := by decide +kernel
theorem dX1_hasTeller_4 : decode cX1_hasTeller 4 = .ok (.iload_n 1, 1) := by decide +kernel
theorem dX1_hasTeller_5 : decode cX1_hasTeller 5 = .ok (.aload_n 0, 1) := by decide +kernel
theorem dX1_hasTeller_6 : decode cX1_hasTeller 6 = .ok (.getfield 39, 3) := by decide +kernel
theorem dX1_hasTeller_9 : decode cX1_hasTeller 9 = .ok (.if_icmp .ge 12, 3) := by decide +kernel
theorem dX1_hasTeller_21 : decode cX1_hasTeller 21 = .ok (.iconst 0, 1) := by decide +kernel
theorem dX1_hasTeller_22 : decode cX1_hasTeller 22 = .ok (.ireturn, 1) := by decide +kernel
set_option maxHeartbeats 4000000 in
set_option maxRecDepth 100000 in
theorem k_X1_hasTeller (l : Launch) (D : va_G) (K : Nat → ClassId) (ad : Nat → Nat) (mm : Option Nat) (p1 : Int32) : Met l yX1_hasTeller (wM yX1_hasTeller cX1_hasTeller 2 (some .boolean)) (rmD 0) (va_Pc [.ref (ad 3), .int p1] (wPre D K ad (xG ad K mm) 132 xv0 xa0 xl0)) (vp_Si (fun r => r = 0)) 0 0 (fun _ => False) := by
  refine x_met (by decide) (Nat.le_of_ble_eq_true rfl) ?_
  intro p e s m below meth c ls hE hr hlo hnm hB hl
  have hE : CallFix p m c cX1_hasTeller 2 s _ tbG "TaleCourt$Court" := hE
  obtain ⟨hP, hK, hN⟩ := hB
  have hS : va_S (inW ad 132) s.heap s.heap [] := va_S.rf
  have hl : lv_has ls 2 [(0, .ref (ad 3)), (1, .int p1)] := hl
  refine lv_iload_n hE.1 hE.2.1 dX1_hasTeller_0 rfl (lv_at hl 1 rfl) ?_
  refine lv_if_lt (tgt := 21) hE.1 hE.2.1 dX1_hasTeller_1 (by decide) (fun c_1 => ?_) (fun c_1 => ?_)
  · skip
    refine lv_iconst (v := 0) hE.1 hE.2.1 dX1_hasTeller_21 (by decide) ?_
    exact x_ri hE hr hlo rfl rfl dX1_hasTeller_22
  · skip
    refine lv_iload_n hE.1 hE.2.1 dX1_hasTeller_4 rfl (lv_at hl 1 rfl) ?_
    refine lv_aload_n hE.1 hE.2.1 dX1_hasTeller_5 rfl (lv_at hl 0 rfl) ?_
    refine x_get (x := .int 0) hE hK hP 3 (by decide) (xG_1 rfl) rfl hin1 0 (by decide) mw_178 rfl dX1_hasTeller_6 ?_
    refine lv_icmp_ge (tgt := 21) hE.1 hE.2.1 dX1_hasTeller_9 (by decide) (fun _ => ?_) (fun h => absurd (k2_le c_1) h)
    refine lv_iconst (v := 0) hE.1 hE.2.1 dX1_hasTeller_21 (by decide) ?_
    exact x_ri hE hr hlo rfl rfl dX1_hasTeller_22

theorem dX1_hasListener_0 : decode cX1_hasListener 0 = .ok (.iload_n 1, 1) := by decide +kernel
theorem dX1_hasListener_1 : decode cX1_hasListener 1 = .ok (.ifCond .lt 21, 3) := by decide +kernel
theorem dX1_hasListener_4 : decode cX1_hasListener 4 = .ok (.iload_n 1, 1) := by decide +kernel
theorem dX1_hasListener_5 : decode cX1_hasListener 5 = .ok (.aload_n 0, 1) := by decide +kernel
theorem dX1_hasListener_6 : decode cX1_hasListener 6 = .ok (.getfield 49, 3) := by decide +kernel
theorem dX1_hasListener_9 : decode cX1_hasListener 9 = .ok (.if_icmp .ge 13, 3) := by decide +kernel
theorem dX1_hasListener_22 : decode cX1_hasListener 22 = .ok (.iconst 0, 1) := by decide +kernel
theorem dX1_hasListener_23 : decode cX1_hasListener 23 = .ok (.ireturn, 1) := by decide +kernel
set_option maxHeartbeats 4000000 in
set_option maxRecDepth 100000 in
theorem k_X1_hasListener (l : Launch) (D : va_G) (K : Nat → ClassId) (ad : Nat → Nat) (mm : Option Nat) (p1 : Int32) : Met l yX1_hasListener (wM yX1_hasListener cX1_hasListener 2 (some .boolean)) (rmD 0) (va_Pc [.ref (ad 3), .int p1] (wPre D K ad (xG ad K mm) 132 xv0 xa0 xl0)) (vp_Si (fun r => r = 0)) 0 0 (fun _ => False) := by
  refine x_met (by decide) (Nat.le_of_ble_eq_true rfl) ?_
  intro p e s m below meth c ls hE hr hlo hnm hB hl
  have hE : CallFix p m c cX1_hasListener 2 s _ tbG "TaleCourt$Court" := hE
  obtain ⟨hP, hK, hN⟩ := hB
  have hS : va_S (inW ad 132) s.heap s.heap [] := va_S.rf
  have hl : lv_has ls 2 [(0, .ref (ad 3)), (1, .int p1)] := hl
  refine lv_iload_n hE.1 hE.2.1 dX1_hasListener_0 rfl (lv_at hl 1 rfl) ?_
  refine lv_if_lt (tgt := 22) hE.1 hE.2.1 dX1_hasListener_1 (by decide) (fun c_1 => ?_) (fun c_1 => ?_)
  · skip
    refine lv_iconst (v := 0) hE.1 hE.2.1 dX1_hasListener_22 (by decide) ?_
    exact x_ri hE hr hlo rfl rfl dX1_hasListener_23
  · skip
    refine lv_iload_n hE.1 hE.2.1 dX1_hasListener_4 rfl (lv_at hl 1 rfl) ?_
    refine lv_aload_n hE.1 hE.2.1 dX1_hasListener_5 rfl (lv_at hl 0 rfl) ?_
    refine x_get (x := .int 0) hE hK hP 3 (by decide) (xG_1 rfl) rfl hin1 3 (by decide) mw_190 rfl dX1_hasListener_6 ?_
    refine lv_icmp_ge (tgt := 22) hE.1 hE.2.1 dX1_hasListener_9 (by decide) (fun _ => ?_) (fun h => absurd (k2_le c_1) h)
    refine lv_iconst (v := 0) hE.1 hE.2.1 dX1_hasListener_22 (by decide) ?_
    exact x_ri hE hr hlo rfl rfl dX1_hasListener_23

theorem dX8_isSlot_0 : decode cX8_isSlot 0 = .ok (.iload_n 0, 1) := by decide +kernel
theorem dX8_isSlot_1 : decode cX8_isSlot 1 = .ok (.ifCond .lt 12, 3) := by decide +kernel
theorem dX8_isSlot_4 : decode cX8_isSlot 4 = .ok (.iload_n 0, 1) := by decide +kernel
theorem dX8_isSlot_5 : decode cX8_isSlot 5 = .ok (.iconst 4, 1) := by decide +kernel
theorem dX8_isSlot_6 : decode cX8_isSlot 6 = .ok (.if_icmp .ge 7, 3) := by decide +kernel
theorem dX8_isSlot_9 : decode cX8_isSlot 9 = .ok (.iconst 1, 1) := by decide +kernel
theorem dX8_isSlot_10 : decode cX8_isSlot 10 = .ok (.goto 4, 3) := by decide +kernel
theorem dX8_isSlot_13 : decode cX8_isSlot 13 = .ok (.iconst 0, 1) := by decide +kernel
theorem dX8_isSlot_14 : decode cX8_isSlot 14 = .ok (.ireturn, 1) := by decide +kernel
set_option maxHeartbeats 4000000 in
set_option maxRecDepth 100000 in
theorem k_X8_isSlot (l : Launch) (p1 : Int32) : Met l yX8_isSlot (wM yX8_isSlot cX8_isSlot 1 (some .boolean)) (rmD 0) (va_Pc [.int p1] (fun _ => True)) (vp_Si (fun r => r = slB p1)) 0 0 (fun _ => False) := by
  refine x_met (by decide) (Nat.le_of_ble_eq_true rfl) ?_
  intro p e s m below meth c ls hE hr hlo hnm hB hl
  have hE : CallFix p m c cX8_isSlot 1 s _ tbG "TaleCourt" := hE
  have hl : lv_has ls 1 [(0, .int p1)] := hl
  refine lv_iload_n hE.1 hE.2.1 dX8_isSlot_0 rfl (lv_at hl 0 rfl) ?_
  refine lv_if_lt (tgt := 13) hE.1 hE.2.1 dX8_isSlot_1 (by decide) (fun c_1 => ?_) (fun c_1 => ?_)
  · skip
    refine lv_iconst (v := 0) hE.1 hE.2.1 dX8_isSlot_13 (by decide) ?_
    exact x_ri (post := fun r => r = slB p1) hE hr hlo rfl (show _ = slB p1 from (if_pos c_1).symm) dX8_isSlot_14
  · skip
    refine lv_iload_n hE.1 hE.2.1 dX8_isSlot_4 rfl (lv_at hl 0 rfl) ?_
    refine lv_iconst (v := 4) hE.1 hE.2.1 dX8_isSlot_5 (by decide) ?_
    refine lv_icmp_ge (tgt := 13) hE.1 hE.2.1 dX8_isSlot_6 (by decide) (fun c_2 => ?_) (fun c_2 => ?_)
    · skip
      refine lv_iconst (v := 0) hE.1 hE.2.1 dX8_isSlot_13 (by decide) ?_
      exact x_ri (post := fun r => r = slB p1) hE hr hlo rfl (show _ = slB p1 from ((if_neg c_1).trans (if_pos c_2)).symm) dX8_isSlot_14
    · skip
      refine lv_iconst (v := 1) hE.1 hE.2.1 dX8_isSlot_9 (by decide) ?_
      refine lv_goto (tgt := 14) hE.1 hE.2.1 dX8_isSlot_10 (by decide) ?_
      exact x_ri (post := fun r => r = slB p1) hE hr hlo rfl (show _ = slB p1 from ((if_neg c_1).trans (if_neg c_2)).symm) dX8_isSlot_14

theorem dX8_gameBar_0 : decode cX8_gameBar 0 = .ok (.aload_n 0, 1) := by decide +kernel
theorem dX8_gameBar_1 : decode cX8_gameBar 1 = .ok (.getfield 19, 3) := by decide +kernel
theorem dX8_gameBar_4 : decode cX8_gameBar 4 = .ok (.invokevirtual 157, 3) := by decide +kernel
theorem dX8_gameBar_7 : decode cX8_gameBar 7 = .ok (.ifCond .ne 6, 3) := by decide +kernel
theorem dX8_gameBar_10 : decode cX8_gameBar 10 = .ok (.bipush (-2), 2) := by decide +kernel
theorem dX8_gameBar_12 : decode cX8_gameBar 12 = .ok (.ireturn, 1) := by decide +kernel
set_option maxHeartbeats 4000000 in
set_option maxRecDepth 100000 in
theorem k_X8_gameBar (l : Launch) (D : va_G) (K : Nat → ClassId) (ad : Nat → Nat) (mm : Option Nat) : Met l yX8_gameBar (wM yX8_gameBar cX8_gameBar 1 (some .int)) (rmD 1) (va_Pc [.ref (ad 0)] (wPre D K ad (xG ad K mm) 132 xv0 xa0 xl0)) (vp_Si (fun r => r = (-2))) 0 0 (fun _ => False) := by
  refine x_met (by decide) (Nat.le_of_ble_eq_true rfl) ?_
  intro p e s m below meth c ls hE hr hlo hnm hB hl
  have hE : CallFix p m c cX8_gameBar 1 s _ tbG "TaleCourt" := hE
  obtain ⟨hP, hK, hN⟩ := hB
  have hS : va_S (inW ad 132) s.heap s.heap [] := va_S.rf
  have hl : lv_has ls 1 [(0, .ref (ad 0))] := hl
  refine lv_aload_n hE.1 hE.2.1 dX8_gameBar_0 rfl (lv_at hl 0 rfl) ?_
  refine x_get (x := .ref (ad 3)) hE hK hP 0 (by decide) (xG_8 rfl) rfl hin8 1 (by decide) mw_481 rfl dX8_gameBar_1 ?_
  refine x_vp (nn := 0) (As := []) (rest := []) hE (k_X1_stands l D K ad mm ) wPre_blind (wPre_now hK hN hP) (x_recv hK hP 3 (by decide) (xG_1 rfl) rfl) rfl mw_788 mw_789 mw_790 mw_116 mw_791 (by decide +kernel) ⟨by decide, by decide⟩ hl.1 rfl (by decide) ⟨Nat.zero_le _, Nat.zero_le _⟩ dX8_gameBar_4 (fun r hr => ?_)
  subst hr
  refine lv_if_ne (tgt := 13) hE.1 hE.2.1 dX8_gameBar_7 (by decide) (fun h => absurd (by decide) h) (fun _ => ?_)
  refine lv_bipush (v := (-2)) hE.1 hE.2.1 dX8_gameBar_10 (by decide) ?_
  exact x_ri hE hr hlo rfl rfl dX8_gameBar_12

theorem dX8_mayDraw_0 : decode cX8_mayDraw 0 = .ok (.aload_n 0, 1) := by decide +kernel
theorem dX8_mayDraw_1 : decode cX8_mayDraw 1 = .ok (.getfield 19, 3) := by decide +kernel
theorem dX8_mayDraw_4 : decode cX8_mayDraw 4 = .ok (.invokevirtual 157, 3) := by decide +kernel
theorem dX8_mayDraw_7 : decode cX8_mayDraw 7 = .ok (.ifCond .eq 18, 3) := by decide +kernel
theorem dX8_mayDraw_25 : decode cX8_mayDraw 25 = .ok (.iconst 0, 1) := by decide +kernel
theorem dX8_mayDraw_26 : decode cX8_mayDraw 26 = .ok (.ireturn, 1) := by decide +kernel
set_option maxHeartbeats 4000000 in
set_option maxRecDepth 100000 in
theorem k_X8_mayDraw (l : Launch) (D : va_G) (K : Nat → ClassId) (ad : Nat → Nat) (mm : Option Nat) (p1 : Int32) : Met l yX8_mayDraw (wM yX8_mayDraw cX8_mayDraw 2 (some .boolean)) (rmD 1) (va_Pc [.ref (ad 0), .int p1] (wPre D K ad (xG ad K mm) 132 xv0 xa0 xl0)) (vp_Si (fun r => r = 0)) 0 0 (fun _ => False) := by
  refine x_met (by decide) (Nat.le_of_ble_eq_true rfl) ?_
  intro p e s m below meth c ls hE hr hlo hnm hB hl
  have hE : CallFix p m c cX8_mayDraw 2 s _ tbG "TaleCourt" := hE
  obtain ⟨hP, hK, hN⟩ := hB
  have hS : va_S (inW ad 132) s.heap s.heap [] := va_S.rf
  have hl : lv_has ls 2 [(0, .ref (ad 0)), (1, .int p1)] := hl
  refine lv_aload_n hE.1 hE.2.1 dX8_mayDraw_0 rfl (lv_at hl 0 rfl) ?_
  refine x_get (x := .ref (ad 3)) hE hK hP 0 (by decide) (xG_8 rfl) rfl hin8 1 (by decide) mw_481 rfl dX8_mayDraw_1 ?_
  refine x_vp (nn := 0) (As := []) (rest := []) hE (k_X1_stands l D K ad mm ) wPre_blind (wPre_now hK hN hP) (x_recv hK hP 3 (by decide) (xG_1 rfl) rfl) rfl mw_788 mw_789 mw_790 mw_116 mw_791 (by decide +kernel) ⟨by decide, by decide⟩ hl.1 rfl (by decide) ⟨Nat.zero_le _, Nat.zero_le _⟩ dX8_mayDraw_4 (fun r hr => ?_)
  subst hr
  refine lv_if_eq (tgt := 25) hE.1 hE.2.1 dX8_mayDraw_7 (by decide) (fun _ => ?_) (fun h => absurd (by decide) h)
  refine lv_iconst (v := 0) hE.1 hE.2.1 dX8_mayDraw_25 (by decide) ?_
  exact x_ri hE hr hlo rfl rfl dX8_mayDraw_26

theorem dX8_slotBar_0 : decode cX8_slotBar 0 = .ok (.iload_n 1, 1) := by decide +kernel
theorem dX8_slotBar_1 : decode cX8_slotBar 1 = .ok (.invokestatic 260, 3) := by decide +kernel
theorem dX8_slotBar_4 : decode cX8_slotBar 4 = .ok (.ifCond .eq 13, 3) := by decide +kernel
theorem dX8_slotBar_7 : decode cX8_slotBar 7 = .ok (.aload_n 0, 1) := by decide +kernel
theorem dX8_slotBar_8 : decode cX8_slotBar 8 = .ok (.getfield 19, 3) := by decide +kernel
theorem dX8_slotBar_11 : decode cX8_slotBar 11 = .ok (.invokevirtual 157, 3) := by decide +kernel
theorem dX8_slotBar_14 : decode cX8_slotBar 14 = .ok (.ifCond .ne 6, 3) := by decide +kernel
theorem dX8_slotBar_17 : decode cX8_slotBar 17 = .ok (.bipush (-2), 2) := by decide +kernel
theorem dX8_slotBar_19 : decode cX8_slotBar 19 = .ok (.ireturn, 1) := by decide +kernel
set_option maxHeartbeats 4000000 in
set_option maxRecDepth 100000 in
theorem k_X8_slotBar (l : Launch) (D : va_G) (K : Nat → ClassId) (ad : Nat → Nat) (mm : Option Nat) (p1 : Int32) : Met l yX8_slotBar (wM yX8_slotBar cX8_slotBar 2 (some .int)) (rmD 1) (va_Pc [.ref (ad 0), .int p1] (wPre D K ad (xG ad K mm) 132 xv0 xa0 xl0)) (vp_Si (fun r => r = (-2))) 0 0 (fun _ => False) := by
  refine x_met (by decide) (Nat.le_of_ble_eq_true rfl) ?_
  intro p e s m below meth c ls hE hr hlo hnm hB hl
  have hE : CallFix p m c cX8_slotBar 2 s _ tbG "TaleCourt" := hE
  obtain ⟨hP, hK, hN⟩ := hB
  have hS : va_S (inW ad 132) s.heap s.heap [] := va_S.rf
  have hl : lv_has ls 2 [(0, .ref (ad 0)), (1, .int p1)] := hl
  refine lv_iload_n hE.1 hE.2.1 dX8_slotBar_0 rfl (lv_at hl 1 rfl) ?_
  refine x_sp (nn := 1) (As := [.int p1]) (rest := []) hE (k_X8_isSlot l p1) tt_blind (fun _ _ _ => trivial) rfl mw_1134 mw_1135 mw_114 mw_1136 (by decide +kernel) ⟨by decide, by decide⟩ hl.1 rfl (by decide) ⟨Nat.zero_le _, Nat.zero_le _⟩ dX8_slotBar_1 (fun r hr => ?_)
  subst hr
  refine lv_if_eq (tgt := 17) hE.1 hE.2.1 dX8_slotBar_4 (by decide) (fun c_1 => ?_) (fun c_1 => ?_)
  · skip
    refine lv_bipush (v := (-2)) hE.1 hE.2.1 dX8_slotBar_17 (by decide) ?_
    exact x_ri hE hr hlo rfl rfl dX8_slotBar_19
  · skip
    refine lv_aload_n hE.1 hE.2.1 dX8_slotBar_7 rfl (lv_at hl 0 rfl) ?_
    refine x_get (x := .ref (ad 3)) hE hK hP 0 (by decide) (xG_8 rfl) rfl hin8 1 (by decide) mw_481 rfl dX8_slotBar_8 ?_
    refine x_vp (nn := 0) (As := []) (rest := []) hE (k_X1_stands l D K ad mm ) wPre_blind (wPre_now hK hN hP) (x_recv hK hP 3 (by decide) (xG_1 rfl) rfl) rfl mw_788 mw_789 mw_790 mw_116 mw_791 (by decide +kernel) ⟨by decide, by decide⟩ hl.1 rfl (by decide) ⟨Nat.zero_le _, Nat.zero_le _⟩ dX8_slotBar_11 (fun r hr => ?_)
    subst hr
    refine lv_if_ne (tgt := 20) hE.1 hE.2.1 dX8_slotBar_14 (by decide) (fun h => absurd (by decide) h) (fun _ => ?_)
    refine lv_bipush (v := (-2)) hE.1 hE.2.1 dX8_slotBar_17 (by decide) ?_
    exact x_ri hE hr hlo rfl rfl dX8_slotBar_19

theorem dX8_claimsBar_0 : decode cX8_claimsBar 0 = .ok (.aload_n 0, 1) := by decide +kernel
theorem dX8_claimsBar_1 : decode cX8_claimsBar 1 = .ok (.iload_n 1, 1) := by decide +kernel
theorem dX8_claimsBar_2 : decode cX8_claimsBar 2 = .ok (.invokevirtual 264, 3) := by decide +kernel
theorem dX8_claimsBar_5 : decode cX8_claimsBar 5 = .ok (.istore_n 3, 1) := by decide +kernel
theorem dX8_claimsBar_6 : decode cX8_claimsBar 6 = .ok (.iload_n 3, 1) := by decide +kernel
theorem dX8_claimsBar_7 : decode cX8_claimsBar 7 = .ok (.ifCond .eq 5, 3) := by decide +kernel
theorem dX8_claimsBar_10 : decode cX8_claimsBar 10 = .ok (.iload_n 3, 1) := by decide +kernel
theorem dX8_claimsBar_11 : decode cX8_claimsBar 11 = .ok (.ireturn, 1) := by decide +kernel
set_option maxHeartbeats 4000000 in
set_option maxRecDepth 100000 in
theorem k_X8_claimsBar (l : Launch) (D : va_G) (K : Nat → ClassId) (ad : Nat → Nat) (mm : Option Nat) (p1 : Int32) (p2 : Int32) : Met l yX8_claimsBar (wM yX8_claimsBar cX8_claimsBar 4 (some .int)) (rmD 2) (va_Pc [.ref (ad 0), .int p1, .int p2] (wPre D K ad (xG ad K mm) 132 xv0 xa0 xl0)) (vp_Si (fun r => r = (-2))) 0 0 (fun _ => False) := by
  refine x_met (by decide) (Nat.le_of_ble_eq_true rfl) ?_
  intro p e s m below meth c ls hE hr hlo hnm hB hl
  have hE : CallFix p m c cX8_claimsBar 4 s _ tbG "TaleCourt" := hE
  obtain ⟨hP, hK, hN⟩ := hB
  have hS : va_S (inW ad 132) s.heap s.heap [] := va_S.rf
  have hl : lv_has ls 4 [(0, .ref (ad 0)), (1, .int p1), (2, .int p2)] := hl
  refine lv_aload_n hE.1 hE.2.1 dX8_claimsBar_0 rfl (lv_at hl 0 rfl) ?_
  refine lv_iload_n hE.1 hE.2.1 dX8_claimsBar_1 rfl (lv_at hl 1 rfl) ?_
  refine x_vp (nn := 1) (As := [.int p1]) (rest := []) hE (k_X8_slotBar l D K ad mm p1) wPre_blind (wPre_now hK hN hP) (x_recv hK hP 0 (by decide) (xG_8 rfl) rfl) rfl mw_1130 mw_1132 mw_36 mw_114 mw_1133 (by decide +kernel) ⟨by decide, by decide⟩ hl.1 rfl (by decide) ⟨Nat.zero_le _, Nat.zero_le _⟩ dX8_claimsBar_2 (fun r hr => ?_)
  subst hr
  refine lv_istore_n (lv' := [(3, .int (-2)), (0, .ref (ad 0)), (1, .int p1), (2, .int p2)]) hE.1 hE.2.1 dX8_claimsBar_5 rfl hl (by decide) rfl (fun ls hl => ?_)
  refine lv_iload_n hE.1 hE.2.1 dX8_claimsBar_6 rfl (lv_at hl 0 rfl) ?_
  refine lv_if_eq (tgt := 12) hE.1 hE.2.1 dX8_claimsBar_7 (by decide) (fun h => absurd h (by decide)) (fun _ => ?_)
  refine lv_iload_n hE.1 hE.2.1 dX8_claimsBar_10 rfl (lv_at hl 0 rfl) ?_
  exact x_ri hE hr hlo rfl rfl dX8_claimsBar_11
