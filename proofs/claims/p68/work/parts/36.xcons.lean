abbrev zX0 : List Value := [.int 0, .null, .null, .null, .null, .null]
theorem zX0_ok : ∀ j, j < 6 → defaultValue (tyX0 j) = vp_V zX0 j := by decide +kernel
abbrev zX1 : List Value := [.int 0, .int 0, .int 0, .int 0, .int 0, .int 0, .int 0, .int 0, .int 0, .int 0, .int 0, .null, .null, .null, .null, .null, .null, .null, .null, .null]
theorem zX1_ok : ∀ j, j < 20 → defaultValue (tyX1 j) = vp_V zX1 j := by decide +kernel
abbrev zX2 : List Value := [.null, .null, .null, .int 0, .int 0]
theorem zX2_ok : ∀ j, j < 5 → defaultValue (tyX2 j) = vp_V zX2 j := by decide +kernel
abbrev zX3 : List Value := [.null, .null, .int 0]
theorem zX3_ok : ∀ j, j < 3 → defaultValue (tyX3 j) = vp_V zX3 j := by decide +kernel
abbrev zX4 : List Value := [.int 0, .int 0, .int 0, .null, .int 0, .int 0, .int 0]
theorem zX4_ok : ∀ j, j < 7 → defaultValue (tyX4 j) = vp_V zX4 j := by decide +kernel
abbrev zX5 : List Value := [.null, .int 0, .int 0]
theorem zX5_ok : ∀ j, j < 3 → defaultValue (tyX5 j) = vp_V zX5 j := by decide +kernel
abbrev zX6 : List Value := [.null, .null, .null, .null, .int 0, .int 0, .int 0, .int 0]
theorem zX6_ok : ∀ j, j < 8 → defaultValue (tyX6 j) = vp_V zX6 j := by decide +kernel
abbrev zX7 : List Value := [.null, .null, .int 0, .int 0, .int 0, .int 0, .null, .null, .int 0, .int 0, .null, .null, .null, .null]
theorem zX7_ok : ∀ j, j < 14 → defaultValue (tyX7 j) = vp_V zX7 j := by decide +kernel
abbrev zX8 : List Value := [.null, .null, .null, .null, .null, .null, .null, .null, .null, .null]
theorem zX8_ok : ∀ j, j < 10 → defaultValue (tyX8 j) = vp_V zX8 j := by decide +kernel
abbrev zX9 : List Value := [.int 0, .null, .null, .null, .null, .null, .int 0, .int 0, .int 0, .int 0, .int 0, .long 0, .int 0, .int 0, .int 0, .int 0, .null, .null, .null, .null, .null, .null, .null, .null, .int 0, .int 0, .int 0, .int 0, .null, .int 0, .int 0, .int 0, .int 0, .int 0, .null, .null, .null, .int 0, .int 0, .int 0, .int 0, .int 0, .int 0, .null, .int 0, .int 0, .int 0, .null, .null, .int 0]
theorem zX9_ok : ∀ j, j < 50 → defaultValue (tyX9 j) = vp_V zX9 j := by decide +kernel
def bX4 (K : Nat → ClassId) (a : Nat → Nat) : va_W := [((a 0), .inr (4, [.int 0, .int 0, .int (-1), .ref (a 1), .int 0, .int 0, .int 0])), ((a 1), .inl (K 2, 1600, .inl (fun _ => 0)))]
theorem dX4_init_0 : decode cX4_init 0 = .ok (.aload_n 0, 1) := by decide +kernel
theorem dX4_init_1 : decode cX4_init 1 = .ok (.invokespecial 3, 3) := by decide +kernel
theorem dX4_init_4 : decode cX4_init 4 = .ok (.aload_n 0, 1) := by decide +kernel
theorem dX4_init_5 : decode cX4_init 5 = .ok (.iconst (-1), 1) := by decide +kernel
theorem dX4_init_6 : decode cX4_init 6 = .ok (.putfield 9, 3) := by decide +kernel
theorem dX4_init_9 : decode cX4_init 9 = .ok (.aload_n 0, 1) := by decide +kernel
theorem dX4_init_10 : decode cX4_init 10 = .ok (.sipush 1600, 3) := by decide +kernel
theorem dX4_init_13 : decode cX4_init 13 = .ok (.newarray .byte, 2) := by decide +kernel
theorem dX4_init_15 : decode cX4_init 15 = .ok (.putfield 15, 3) := by decide +kernel
theorem dX4_init_18 : decode cX4_init 18 = .ok (.return_, 1) := by decide +kernel
set_option maxHeartbeats 4000000 in
set_option maxRecDepth 100000 in
theorem k_X4_init (l : Launch) (D : va_G) (K : Nat → ClassId) (q sz : Nat) : Met l yX4_init (wM yX4_init cX4_init 1 none) (rmC 1 1 1600) (va_Pc [.ref q] (cPre D K q sz (.inr (4, zX4)))) (va_Qv (fun a : Nat → Nat => a 0 = q) (cB D (va_A [(q, (.inr (4, zX4)))] sz) (bX4 K)) (va_A [(q, (.inr (4, zX4)))] sz)) 1 1600 (va_A [(q, (.inr (4, zX4)))] sz) := by
  refine x_cmet (by decide) rfl (Nat.le_of_ble_eq_true rfl) ?_
  intro p e s m below meth c ls A hE hr hlo hinn hP hD hS hA hK hnp hl kE
  have hE : CallFix p m c cX4_init 1 s _ tbG "TaleCourt$Reader" := hE
  have hl : lv_has ls 1 [(0, .ref q)] := hl
  refine lv_aload_n hE.1 hE.2.1 dX4_init_0 rfl (lv_at hl 0 rfl) ?_
  refine x_oinit (a := q) hE mw_145 mw_138 mw_139 hl.1 dX4_init_1 (Nat.le_of_ble_eq_true rfl) (Nat.le_of_ble_eq_true rfl) ?_
  refine lv_aload_n hE.1 hE.2.1 dX4_init_4 rfl (lv_at hl 0 rfl) ?_
  refine lv_iconst (v := (-1)) hE.1 hE.2.1 dX4_init_5 (by decide) ?_
  refine x_putN (fs' := [.int 0, .int 0, .int (-1), .null, .int 0, .int 0, .int 0]) hE hK hP hD hS rfl hin4 tyX4 tyX4_ok nmX4 2 (by decide) mw_150 rfl rfl rfl (Nat.le_of_ble_eq_true rfl) rfl dX4_init_6 (fun H locs hP hD hS => ?_)
  refine lv_aload_n hE.1 hE.2.1 dX4_init_9 rfl (lv_at hl 0 rfl) ?_
  refine lv_sipush (v := 1600) hE.1 hE.2.1 dX4_init_10 (by decide) ?_
  refine x_newa (atype := .byte) (ty := .byte) (a0 := (1600, .inl (fun _ => 0))) (N' := 1600) (k := 1) (z := 1600) hE mw_171 rfl hK 2 rfl hP hD hS hA (fun _ => rfl) (by decide) (by decide) (Nat.le_of_ble_eq_true rfl) rfl rfl (Nat.le_of_ble_eq_true rfl) (Nat.le_of_ble_eq_true rfl) dX4_init_13 (fun q1 H hP hD hS => ?_)
  have hP : va_P D xcl ((q, .inr (4, [.int 0, .int 0, .int (-1), .null, .int 0, .int 0, .int 0])) :: [(q1, .inl (K 2, 1600, .inl (fun _ => 0)))]) _ := hP
  have hD : va_D A ((q, .inr (4, [.int 0, .int 0, .int (-1), .null, .int 0, .int 0, .int 0])) :: [(q1, .inl (K 2, 1600, .inl (fun _ => 0)))]) := hD
  refine x_putF (fs' := [.int 0, .int 0, .int (-1), .ref q1, .int 0, .int 0, .int 0]) hE hinn hK hP hD hS rfl hin4 tyX4 tyX4_ok nmX4 3 (by decide) mw_152 rfl rfl rfl rfl (Nat.le_of_ble_eq_true rfl) rfl dX4_init_15 (fun H locs hP hD hS => ?_)
  exact kE (fun j => if j < 1 then q else q1) 18 _ _ _ 1 1600 (Nat.le_of_ble_eq_true rfl) (Nat.le_of_ble_eq_true rfl) rfl hP hD hS dX4_init_18

def bX1 (K : Nat → ClassId) (a : Nat → Nat) : va_W := [((a 0), .inr (1, [.int 0, .int 0, .int 0, .int 0, .int 0, .int 0, .int 0, .int 0, .int 0, .int 0, .int 0, .ref (a 1), .ref (a 2), .ref (a 3), .ref (a 4), .ref (a 5), .ref (a 6), .ref (a 7), .ref (a 8), .ref (a 9)])), ((a 1), .inl (K 0, 9, .inl (fun _ => 0))), ((a 2), .inl (K 0, 9, .inl (fun _ => 0))), ((a 3), .inl (K 0, 9, .inl (fun _ => 0))), ((a 4), .inl (K 0, 9, .inl (fun _ => 0))), ((a 5), .inl (K 0, 9, .inl (fun _ => 0))), ((a 6), .inl (K 0, 9, .inl (fun _ => 0))), ((a 7), .inl (K 0, 3, .inl (fun _ => 0))), ((a 8), .inl (K 0, 8, .inl (fun _ => 0))), ((a 9), .inl (K 0, 8, .inl (fun _ => 0)))]
theorem dX1_init_0 : decode cX1_init 0 = .ok (.aload_n 0, 1) := by decide +kernel
theorem dX1_init_1 : decode cX1_init 1 = .ok (.invokespecial 3, 3) := by decide +kernel
theorem dX1_init_4 : decode cX1_init 4 = .ok (.aload_n 0, 1) := by decide +kernel
theorem dX1_init_5 : decode cX1_init 5 = .ok (.bipush 9, 2) := by decide +kernel
theorem dX1_init_7 : decode cX1_init 7 = .ok (.newarray .int, 2) := by decide +kernel
theorem dX1_init_9 : decode cX1_init 9 = .ok (.putfield 9, 3) := by decide +kernel
theorem dX1_init_12 : decode cX1_init 12 = .ok (.aload_n 0, 1) := by decide +kernel
theorem dX1_init_13 : decode cX1_init 13 = .ok (.bipush 9, 2) := by decide +kernel
theorem dX1_init_15 : decode cX1_init 15 = .ok (.newarray .int, 2) := by decide +kernel
theorem dX1_init_17 : decode cX1_init 17 = .ok (.putfield 15, 3) := by decide +kernel
theorem dX1_init_20 : decode cX1_init 20 = .ok (.aload_n 0, 1) := by decide +kernel
theorem dX1_init_21 : decode cX1_init 21 = .ok (.bipush 9, 2) := by decide +kernel
theorem dX1_init_23 : decode cX1_init 23 = .ok (.newarray .int, 2) := by decide +kernel
theorem dX1_init_25 : decode cX1_init 25 = .ok (.putfield 18, 3) := by decide +kernel
theorem dX1_init_28 : decode cX1_init 28 = .ok (.aload_n 0, 1) := by decide +kernel
theorem dX1_init_29 : decode cX1_init 29 = .ok (.bipush 9, 2) := by decide +kernel
theorem dX1_init_31 : decode cX1_init 31 = .ok (.newarray .int, 2) := by decide +kernel
theorem dX1_init_33 : decode cX1_init 33 = .ok (.putfield 21, 3) := by decide +kernel
theorem dX1_init_36 : decode cX1_init 36 = .ok (.aload_n 0, 1) := by decide +kernel
theorem dX1_init_37 : decode cX1_init 37 = .ok (.bipush 9, 2) := by decide +kernel
theorem dX1_init_39 : decode cX1_init 39 = .ok (.newarray .int, 2) := by decide +kernel
theorem dX1_init_41 : decode cX1_init 41 = .ok (.putfield 24, 3) := by decide +kernel
theorem dX1_init_44 : decode cX1_init 44 = .ok (.aload_n 0, 1) := by decide +kernel
theorem dX1_init_45 : decode cX1_init 45 = .ok (.bipush 9, 2) := by decide +kernel
theorem dX1_init_47 : decode cX1_init 47 = .ok (.newarray .int, 2) := by decide +kernel
theorem dX1_init_49 : decode cX1_init 49 = .ok (.putfield 27, 3) := by decide +kernel
theorem dX1_init_52 : decode cX1_init 52 = .ok (.aload_n 0, 1) := by decide +kernel
theorem dX1_init_53 : decode cX1_init 53 = .ok (.iconst 3, 1) := by decide +kernel
theorem dX1_init_54 : decode cX1_init 54 = .ok (.newarray .int, 2) := by decide +kernel
theorem dX1_init_56 : decode cX1_init 56 = .ok (.putfield 30, 3) := by decide +kernel
theorem dX1_init_59 : decode cX1_init 59 = .ok (.aload_n 0, 1) := by decide +kernel
theorem dX1_init_60 : decode cX1_init 60 = .ok (.bipush 8, 2) := by decide +kernel
theorem dX1_init_62 : decode cX1_init 62 = .ok (.newarray .int, 2) := by decide +kernel
theorem dX1_init_64 : decode cX1_init 64 = .ok (.putfield 33, 3) := by decide +kernel
theorem dX1_init_67 : decode cX1_init 67 = .ok (.aload_n 0, 1) := by decide +kernel
theorem dX1_init_68 : decode cX1_init 68 = .ok (.bipush 8, 2) := by decide +kernel
theorem dX1_init_70 : decode cX1_init 70 = .ok (.newarray .int, 2) := by decide +kernel
theorem dX1_init_72 : decode cX1_init 72 = .ok (.putfield 36, 3) := by decide +kernel
theorem dX1_init_75 : decode cX1_init 75 = .ok (.return_, 1) := by decide +kernel
set_option maxHeartbeats 4000000 in
set_option maxRecDepth 100000 in
theorem k_X1_init (l : Launch) (D : va_G) (K : Nat → ClassId) (q sz : Nat) : Met l yX1_init (wM yX1_init cX1_init 1 none) (rmC 1 9 73) (va_Pc [.ref q] (cPre D K q sz (.inr (1, zX1)))) (va_Qv (fun a : Nat → Nat => a 0 = q) (cB D (va_A [(q, (.inr (1, zX1)))] sz) (bX1 K)) (va_A [(q, (.inr (1, zX1)))] sz)) 9 73 (va_A [(q, (.inr (1, zX1)))] sz) := by
  refine x_cmet (by decide) rfl (Nat.le_of_ble_eq_true rfl) ?_
  intro p e s m below meth c ls A hE hr hlo hinn hP hD hS hA hK hnp hl kE
  have hE : CallFix p m c cX1_init 1 s _ tbG "TaleCourt$Court" := hE
  have hl : lv_has ls 1 [(0, .ref q)] := hl
  refine lv_aload_n hE.1 hE.2.1 dX1_init_0 rfl (lv_at hl 0 rfl) ?_
  refine x_oinit (a := q) hE mw_177 mw_138 mw_139 hl.1 dX1_init_1 (Nat.le_of_ble_eq_true rfl) (Nat.le_of_ble_eq_true rfl) ?_
  refine lv_aload_n hE.1 hE.2.1 dX1_init_4 rfl (lv_at hl 0 rfl) ?_
  refine lv_bipush (v := 9) hE.1 hE.2.1 dX1_init_5 (by decide) ?_
  refine x_newa (atype := .int) (ty := .int) (a0 := (9, .inl (fun _ => 0))) (N' := 9) (k := 1) (z := 9) hE mw_288 rfl hK 0 rfl hP hD hS hA (fun _ => rfl) (by decide) (by decide) (Nat.le_of_ble_eq_true rfl) rfl rfl (Nat.le_of_ble_eq_true rfl) (Nat.le_of_ble_eq_true rfl) dX1_init_7 (fun q1 H hP hD hS => ?_)
  have hP : va_P D xcl ((q, .inr (1, [.int 0, .int 0, .int 0, .int 0, .int 0, .int 0, .int 0, .int 0, .int 0, .int 0, .int 0, .null, .null, .null, .null, .null, .null, .null, .null, .null])) :: [(q1, .inl (K 0, 9, .inl (fun _ => 0)))]) _ := hP
  have hD : va_D A ((q, .inr (1, [.int 0, .int 0, .int 0, .int 0, .int 0, .int 0, .int 0, .int 0, .int 0, .int 0, .int 0, .null, .null, .null, .null, .null, .null, .null, .null, .null])) :: [(q1, .inl (K 0, 9, .inl (fun _ => 0)))]) := hD
  refine x_putF (fs' := [.int 0, .int 0, .int 0, .int 0, .int 0, .int 0, .int 0, .int 0, .int 0, .int 0, .int 0, .ref q1, .null, .null, .null, .null, .null, .null, .null, .null]) hE hinn hK hP hD hS rfl hin1 tyX1 tyX1_ok nmX1 11 (by decide) mw_218 rfl rfl rfl rfl (Nat.le_of_ble_eq_true rfl) rfl dX1_init_9 (fun H locs hP hD hS => ?_)
  refine lv_aload_n hE.1 hE.2.1 dX1_init_12 rfl (lv_at hl 0 rfl) ?_
  refine lv_bipush (v := 9) hE.1 hE.2.1 dX1_init_13 (by decide) ?_
  refine x_newa (atype := .int) (ty := .int) (a0 := (9, .inl (fun _ => 0))) (N' := 9) (k := 2) (z := 18) hE mw_288 rfl hK 0 rfl hP hD hS hA (fun _ => rfl) (by decide) (by decide) (Nat.le_of_ble_eq_true rfl) rfl rfl (Nat.le_of_ble_eq_true rfl) (Nat.le_of_ble_eq_true rfl) dX1_init_15 (fun q2 H hP hD hS => ?_)
  have hP : va_P D xcl ((q, .inr (1, [.int 0, .int 0, .int 0, .int 0, .int 0, .int 0, .int 0, .int 0, .int 0, .int 0, .int 0, .ref q1, .null, .null, .null, .null, .null, .null, .null, .null])) :: [(q1, .inl (K 0, 9, .inl (fun _ => 0))), (q2, .inl (K 0, 9, .inl (fun _ => 0)))]) _ := hP
  have hD : va_D A ((q, .inr (1, [.int 0, .int 0, .int 0, .int 0, .int 0, .int 0, .int 0, .int 0, .int 0, .int 0, .int 0, .ref q1, .null, .null, .null, .null, .null, .null, .null, .null])) :: [(q1, .inl (K 0, 9, .inl (fun _ => 0))), (q2, .inl (K 0, 9, .inl (fun _ => 0)))]) := hD
  refine x_putF (fs' := [.int 0, .int 0, .int 0, .int 0, .int 0, .int 0, .int 0, .int 0, .int 0, .int 0, .int 0, .ref q1, .ref q2, .null, .null, .null, .null, .null, .null, .null]) hE hinn hK hP hD hS rfl hin1 tyX1 tyX1_ok nmX1 12 (by decide) mw_221 rfl rfl rfl rfl (Nat.le_of_ble_eq_true rfl) rfl dX1_init_17 (fun H locs hP hD hS => ?_)
  refine lv_aload_n hE.1 hE.2.1 dX1_init_20 rfl (lv_at hl 0 rfl) ?_
  refine lv_bipush (v := 9) hE.1 hE.2.1 dX1_init_21 (by decide) ?_
  refine x_newa (atype := .int) (ty := .int) (a0 := (9, .inl (fun _ => 0))) (N' := 9) (k := 3) (z := 27) hE mw_288 rfl hK 0 rfl hP hD hS hA (fun _ => rfl) (by decide) (by decide) (Nat.le_of_ble_eq_true rfl) rfl rfl (Nat.le_of_ble_eq_true rfl) (Nat.le_of_ble_eq_true rfl) dX1_init_23 (fun q3 H hP hD hS => ?_)
  have hP : va_P D xcl ((q, .inr (1, [.int 0, .int 0, .int 0, .int 0, .int 0, .int 0, .int 0, .int 0, .int 0, .int 0, .int 0, .ref q1, .ref q2, .null, .null, .null, .null, .null, .null, .null])) :: [(q1, .inl (K 0, 9, .inl (fun _ => 0))), (q2, .inl (K 0, 9, .inl (fun _ => 0))), (q3, .inl (K 0, 9, .inl (fun _ => 0)))]) _ := hP
  have hD : va_D A ((q, .inr (1, [.int 0, .int 0, .int 0, .int 0, .int 0, .int 0, .int 0, .int 0, .int 0, .int 0, .int 0, .ref q1, .ref q2, .null, .null, .null, .null, .null, .null, .null])) :: [(q1, .inl (K 0, 9, .inl (fun _ => 0))), (q2, .inl (K 0, 9, .inl (fun _ => 0))), (q3, .inl (K 0, 9, .inl (fun _ => 0)))]) := hD
  refine x_putF (fs' := [.int 0, .int 0, .int 0, .int 0, .int 0, .int 0, .int 0, .int 0, .int 0, .int 0, .int 0, .ref q1, .ref q2, .ref q3, .null, .null, .null, .null, .null, .null]) hE hinn hK hP hD hS rfl hin1 tyX1 tyX1_ok nmX1 13 (by decide) mw_225 rfl rfl rfl rfl (Nat.le_of_ble_eq_true rfl) rfl dX1_init_25 (fun H locs hP hD hS => ?_)
  refine lv_aload_n hE.1 hE.2.1 dX1_init_28 rfl (lv_at hl 0 rfl) ?_
  refine lv_bipush (v := 9) hE.1 hE.2.1 dX1_init_29 (by decide) ?_
  refine x_newa (atype := .int) (ty := .int) (a0 := (9, .inl (fun _ => 0))) (N' := 9) (k := 4) (z := 36) hE mw_288 rfl hK 0 rfl hP hD hS hA (fun _ => rfl) (by decide) (by decide) (Nat.le_of_ble_eq_true rfl) rfl rfl (Nat.le_of_ble_eq_true rfl) (Nat.le_of_ble_eq_true rfl) dX1_init_31 (fun q4 H hP hD hS => ?_)
  have hP : va_P D xcl ((q, .inr (1, [.int 0, .int 0, .int 0, .int 0, .int 0, .int 0, .int 0, .int 0, .int 0, .int 0, .int 0, .ref q1, .ref q2, .ref q3, .null, .null, .null, .null, .null, .null])) :: [(q1, .inl (K 0, 9, .inl (fun _ => 0))), (q2, .inl (K 0, 9, .inl (fun _ => 0))), (q3, .inl (K 0, 9, .inl (fun _ => 0))), (q4, .inl (K 0, 9, .inl (fun _ => 0)))]) _ := hP
  have hD : va_D A ((q, .inr (1, [.int 0, .int 0, .int 0, .int 0, .int 0, .int 0, .int 0, .int 0, .int 0, .int 0, .int 0, .ref q1, .ref q2, .ref q3, .null, .null, .null, .null, .null, .null])) :: [(q1, .inl (K 0, 9, .inl (fun _ => 0))), (q2, .inl (K 0, 9, .inl (fun _ => 0))), (q3, .inl (K 0, 9, .inl (fun _ => 0))), (q4, .inl (K 0, 9, .inl (fun _ => 0)))]) := hD
  refine x_putF (fs' := [.int 0, .int 0, .int 0, .int 0, .int 0, .int 0, .int 0, .int 0, .int 0, .int 0, .int 0, .ref q1, .ref q2, .ref q3, .ref q4, .null, .null, .null, .null, .null]) hE hinn hK hP hD hS rfl hin1 tyX1 tyX1_ok nmX1 14 (by decide) mw_229 rfl rfl rfl rfl (Nat.le_of_ble_eq_true rfl) rfl dX1_init_33 (fun H locs hP hD hS => ?_)
  refine lv_aload_n hE.1 hE.2.1 dX1_init_36 rfl (lv_at hl 0 rfl) ?_
  refine lv_bipush (v := 9) hE.1 hE.2.1 dX1_init_37 (by decide) ?_
  refine x_newa (atype := .int) (ty := .int) (a0 := (9, .inl (fun _ => 0))) (N' := 9) (k := 5) (z := 45) hE mw_288 rfl hK 0 rfl hP hD hS hA (fun _ => rfl) (by decide) (by decide) (Nat.le_of_ble_eq_true rfl) rfl rfl (Nat.le_of_ble_eq_true rfl) (Nat.le_of_ble_eq_true rfl) dX1_init_39 (fun q5 H hP hD hS => ?_)
  have hP : va_P D xcl ((q, .inr (1, [.int 0, .int 0, .int 0, .int 0, .int 0, .int 0, .int 0, .int 0, .int 0, .int 0, .int 0, .ref q1, .ref q2, .ref q3, .ref q4, .null, .null, .null, .null, .null])) :: [(q1, .inl (K 0, 9, .inl (fun _ => 0))), (q2, .inl (K 0, 9, .inl (fun _ => 0))), (q3, .inl (K 0, 9, .inl (fun _ => 0))), (q4, .inl (K 0, 9, .inl (fun _ => 0))), (q5, .inl (K 0, 9, .inl (fun _ => 0)))]) _ := hP
  have hD : va_D A ((q, .inr (1, [.int 0, .int 0, .int 0, .int 0, .int 0, .int 0, .int 0, .int 0, .int 0, .int 0, .int 0, .ref q1, .ref q2, .ref q3, .ref q4, .null, .null, .null, .null, .null])) :: [(q1, .inl (K 0, 9, .inl (fun _ => 0))), (q2, .inl (K 0, 9, .inl (fun _ => 0))), (q3, .inl (K 0, 9, .inl (fun _ => 0))), (q4, .inl (K 0, 9, .inl (fun _ => 0))), (q5, .inl (K 0, 9, .inl (fun _ => 0)))]) := hD
  refine x_putF (fs' := [.int 0, .int 0, .int 0, .int 0, .int 0, .int 0, .int 0, .int 0, .int 0, .int 0, .int 0, .ref q1, .ref q2, .ref q3, .ref q4, .ref q5, .null, .null, .null, .null]) hE hinn hK hP hD hS rfl hin1 tyX1 tyX1_ok nmX1 15 (by decide) mw_231 rfl rfl rfl rfl (Nat.le_of_ble_eq_true rfl) rfl dX1_init_41 (fun H locs hP hD hS => ?_)
  refine lv_aload_n hE.1 hE.2.1 dX1_init_44 rfl (lv_at hl 0 rfl) ?_
  refine lv_bipush (v := 9) hE.1 hE.2.1 dX1_init_45 (by decide) ?_
  refine x_newa (atype := .int) (ty := .int) (a0 := (9, .inl (fun _ => 0))) (N' := 9) (k := 6) (z := 54) hE mw_288 rfl hK 0 rfl hP hD hS hA (fun _ => rfl) (by decide) (by decide) (Nat.le_of_ble_eq_true rfl) rfl rfl (Nat.le_of_ble_eq_true rfl) (Nat.le_of_ble_eq_true rfl) dX1_init_47 (fun q6 H hP hD hS => ?_)
  have hP : va_P D xcl ((q, .inr (1, [.int 0, .int 0, .int 0, .int 0, .int 0, .int 0, .int 0, .int 0, .int 0, .int 0, .int 0, .ref q1, .ref q2, .ref q3, .ref q4, .ref q5, .null, .null, .null, .null])) :: [(q1, .inl (K 0, 9, .inl (fun _ => 0))), (q2, .inl (K 0, 9, .inl (fun _ => 0))), (q3, .inl (K 0, 9, .inl (fun _ => 0))), (q4, .inl (K 0, 9, .inl (fun _ => 0))), (q5, .inl (K 0, 9, .inl (fun _ => 0))), (q6, .inl (K 0, 9, .inl (fun _ => 0)))]) _ := hP
  have hD : va_D A ((q, .inr (1, [.int 0, .int 0, .int 0, .int 0, .int 0, .int 0, .int 0, .int 0, .int 0, .int 0, .int 0, .ref q1, .ref q2, .ref q3, .ref q4, .ref q5, .null, .null, .null, .null])) :: [(q1, .inl (K 0, 9, .inl (fun _ => 0))), (q2, .inl (K 0, 9, .inl (fun _ => 0))), (q3, .inl (K 0, 9, .inl (fun _ => 0))), (q4, .inl (K 0, 9, .inl (fun _ => 0))), (q5, .inl (K 0, 9, .inl (fun _ => 0))), (q6, .inl (K 0, 9, .inl (fun _ => 0)))]) := hD
  refine x_putF (fs' := [.int 0, .int 0, .int 0, .int 0, .int 0, .int 0, .int 0, .int 0, .int 0, .int 0, .int 0, .ref q1, .ref q2, .ref q3, .ref q4, .ref q5, .ref q6, .null, .null, .null]) hE hinn hK hP hD hS rfl hin1 tyX1 tyX1_ok nmX1 16 (by decide) mw_235 rfl rfl rfl rfl (Nat.le_of_ble_eq_true rfl) rfl dX1_init_49 (fun H locs hP hD hS => ?_)
  refine lv_aload_n hE.1 hE.2.1 dX1_init_52 rfl (lv_at hl 0 rfl) ?_
  refine lv_iconst (v := 3) hE.1 hE.2.1 dX1_init_53 (by decide) ?_
  refine x_newa (atype := .int) (ty := .int) (a0 := (3, .inl (fun _ => 0))) (N' := 3) (k := 7) (z := 57) hE mw_288 rfl hK 0 rfl hP hD hS hA (fun _ => rfl) (by decide) (by decide) (Nat.le_of_ble_eq_true rfl) rfl rfl (Nat.le_of_ble_eq_true rfl) (Nat.le_of_ble_eq_true rfl) dX1_init_54 (fun q7 H hP hD hS => ?_)
  have hP : va_P D xcl ((q, .inr (1, [.int 0, .int 0, .int 0, .int 0, .int 0, .int 0, .int 0, .int 0, .int 0, .int 0, .int 0, .ref q1, .ref q2, .ref q3, .ref q4, .ref q5, .ref q6, .null, .null, .null])) :: [(q1, .inl (K 0, 9, .inl (fun _ => 0))), (q2, .inl (K 0, 9, .inl (fun _ => 0))), (q3, .inl (K 0, 9, .inl (fun _ => 0))), (q4, .inl (K 0, 9, .inl (fun _ => 0))), (q5, .inl (K 0, 9, .inl (fun _ => 0))), (q6, .inl (K 0, 9, .inl (fun _ => 0))), (q7, .inl (K 0, 3, .inl (fun _ => 0)))]) _ := hP
  have hD : va_D A ((q, .inr (1, [.int 0, .int 0, .int 0, .int 0, .int 0, .int 0, .int 0, .int 0, .int 0, .int 0, .int 0, .ref q1, .ref q2, .ref q3, .ref q4, .ref q5, .ref q6, .null, .null, .null])) :: [(q1, .inl (K 0, 9, .inl (fun _ => 0))), (q2, .inl (K 0, 9, .inl (fun _ => 0))), (q3, .inl (K 0, 9, .inl (fun _ => 0))), (q4, .inl (K 0, 9, .inl (fun _ => 0))), (q5, .inl (K 0, 9, .inl (fun _ => 0))), (q6, .inl (K 0, 9, .inl (fun _ => 0))), (q7, .inl (K 0, 3, .inl (fun _ => 0)))]) := hD
  refine x_putF (fs' := [.int 0, .int 0, .int 0, .int 0, .int 0, .int 0, .int 0, .int 0, .int 0, .int 0, .int 0, .ref q1, .ref q2, .ref q3, .ref q4, .ref q5, .ref q6, .ref q7, .null, .null]) hE hinn hK hP hD hS rfl hin1 tyX1 tyX1_ok nmX1 17 (by decide) mw_239 rfl rfl rfl rfl (Nat.le_of_ble_eq_true rfl) rfl dX1_init_56 (fun H locs hP hD hS => ?_)
  refine lv_aload_n hE.1 hE.2.1 dX1_init_59 rfl (lv_at hl 0 rfl) ?_
  refine lv_bipush (v := 8) hE.1 hE.2.1 dX1_init_60 (by decide) ?_
  refine x_newa (atype := .int) (ty := .int) (a0 := (8, .inl (fun _ => 0))) (N' := 8) (k := 8) (z := 65) hE mw_288 rfl hK 0 rfl hP hD hS hA (fun _ => rfl) (by decide) (by decide) (Nat.le_of_ble_eq_true rfl) rfl rfl (Nat.le_of_ble_eq_true rfl) (Nat.le_of_ble_eq_true rfl) dX1_init_62 (fun q8 H hP hD hS => ?_)
  have hP : va_P D xcl ((q, .inr (1, [.int 0, .int 0, .int 0, .int 0, .int 0, .int 0, .int 0, .int 0, .int 0, .int 0, .int 0, .ref q1, .ref q2, .ref q3, .ref q4, .ref q5, .ref q6, .ref q7, .null, .null])) :: [(q1, .inl (K 0, 9, .inl (fun _ => 0))), (q2, .inl (K 0, 9, .inl (fun _ => 0))), (q3, .inl (K 0, 9, .inl (fun _ => 0))), (q4, .inl (K 0, 9, .inl (fun _ => 0))), (q5, .inl (K 0, 9, .inl (fun _ => 0))), (q6, .inl (K 0, 9, .inl (fun _ => 0))), (q7, .inl (K 0, 3, .inl (fun _ => 0))), (q8, .inl (K 0, 8, .inl (fun _ => 0)))]) _ := hP
  have hD : va_D A ((q, .inr (1, [.int 0, .int 0, .int 0, .int 0, .int 0, .int 0, .int 0, .int 0, .int 0, .int 0, .int 0, .ref q1, .ref q2, .ref q3, .ref q4, .ref q5, .ref q6, .ref q7, .null, .null])) :: [(q1, .inl (K 0, 9, .inl (fun _ => 0))), (q2, .inl (K 0, 9, .inl (fun _ => 0))), (q3, .inl (K 0, 9, .inl (fun _ => 0))), (q4, .inl (K 0, 9, .inl (fun _ => 0))), (q5, .inl (K 0, 9, .inl (fun _ => 0))), (q6, .inl (K 0, 9, .inl (fun _ => 0))), (q7, .inl (K 0, 3, .inl (fun _ => 0))), (q8, .inl (K 0, 8, .inl (fun _ => 0)))]) := hD
  refine x_putF (fs' := [.int 0, .int 0, .int 0, .int 0, .int 0, .int 0, .int 0, .int 0, .int 0, .int 0, .int 0, .ref q1, .ref q2, .ref q3, .ref q4, .ref q5, .ref q6, .ref q7, .ref q8, .null]) hE hinn hK hP hD hS rfl hin1 tyX1 tyX1_ok nmX1 18 (by decide) mw_241 rfl rfl rfl rfl (Nat.le_of_ble_eq_true rfl) rfl dX1_init_64 (fun H locs hP hD hS => ?_)
  refine lv_aload_n hE.1 hE.2.1 dX1_init_67 rfl (lv_at hl 0 rfl) ?_
  refine lv_bipush (v := 8) hE.1 hE.2.1 dX1_init_68 (by decide) ?_
  refine x_newa (atype := .int) (ty := .int) (a0 := (8, .inl (fun _ => 0))) (N' := 8) (k := 9) (z := 73) hE mw_288 rfl hK 0 rfl hP hD hS hA (fun _ => rfl) (by decide) (by decide) (Nat.le_of_ble_eq_true rfl) rfl rfl (Nat.le_of_ble_eq_true rfl) (Nat.le_of_ble_eq_true rfl) dX1_init_70 (fun q9 H hP hD hS => ?_)
  have hP : va_P D xcl ((q, .inr (1, [.int 0, .int 0, .int 0, .int 0, .int 0, .int 0, .int 0, .int 0, .int 0, .int 0, .int 0, .ref q1, .ref q2, .ref q3, .ref q4, .ref q5, .ref q6, .ref q7, .ref q8, .null])) :: [(q1, .inl (K 0, 9, .inl (fun _ => 0))), (q2, .inl (K 0, 9, .inl (fun _ => 0))), (q3, .inl (K 0, 9, .inl (fun _ => 0))), (q4, .inl (K 0, 9, .inl (fun _ => 0))), (q5, .inl (K 0, 9, .inl (fun _ => 0))), (q6, .inl (K 0, 9, .inl (fun _ => 0))), (q7, .inl (K 0, 3, .inl (fun _ => 0))), (q8, .inl (K 0, 8, .inl (fun _ => 0))), (q9, .inl (K 0, 8, .inl (fun _ => 0)))]) _ := hP
  have hD : va_D A ((q, .inr (1, [.int 0, .int 0, .int 0, .int 0, .int 0, .int 0, .int 0, .int 0, .int 0, .int 0, .int 0, .ref q1, .ref q2, .ref q3, .ref q4, .ref q5, .ref q6, .ref q7, .ref q8, .null])) :: [(q1, .inl (K 0, 9, .inl (fun _ => 0))), (q2, .inl (K 0, 9, .inl (fun _ => 0))), (q3, .inl (K 0, 9, .inl (fun _ => 0))), (q4, .inl (K 0, 9, .inl (fun _ => 0))), (q5, .inl (K 0, 9, .inl (fun _ => 0))), (q6, .inl (K 0, 9, .inl (fun _ => 0))), (q7, .inl (K 0, 3, .inl (fun _ => 0))), (q8, .inl (K 0, 8, .inl (fun _ => 0))), (q9, .inl (K 0, 8, .inl (fun _ => 0)))]) := hD
  refine x_putF (fs' := [.int 0, .int 0, .int 0, .int 0, .int 0, .int 0, .int 0, .int 0, .int 0, .int 0, .int 0, .ref q1, .ref q2, .ref q3, .ref q4, .ref q5, .ref q6, .ref q7, .ref q8, .ref q9]) hE hinn hK hP hD hS rfl hin1 tyX1 tyX1_ok nmX1 19 (by decide) mw_244 rfl rfl rfl rfl (Nat.le_of_ble_eq_true rfl) rfl dX1_init_72 (fun H locs hP hD hS => ?_)
  exact kE (fun j => if j < 1 then q else if j < 2 then q1 else if j < 3 then q2 else if j < 4 then q3 else if j < 5 then q4 else if j < 6 then q5 else if j < 7 then q6 else if j < 8 then q7 else if j < 9 then q8 else q9) 75 _ _ _ 9 73 (Nat.le_of_ble_eq_true rfl) (Nat.le_of_ble_eq_true rfl) rfl hP hD hS dX1_init_75

def bX7 (K : Nat → ClassId) (cq : Nat) (a : Nat → Nat) : va_W := [((a 0), .inr (7, [.ref (a 1), .ref (a 2), .int 0, .int 0, .int (-1), .int 0, .ref cq, .ref (a 3), .int 0, .int 0, .ref (a 4), .ref (a 5), .ref (a 6), .ref (a 7)])), ((a 1), .inl (K 0, 18, .inl (fun _ => 0))), ((a 2), .inl (K 0, 9, .inl (fun _ => 0))), ((a 3), .inl (K 0, 3, .inl (fun _ => 0))), ((a 4), .inl (K 0, 18, .inl (fun _ => 0))), ((a 5), .inl (K 0, 18, .inl (fun _ => 0))), ((a 6), .inl (K 0, 18, .inl (fun _ => 0))), ((a 7), .inl (K 0, 18, .inl (fun _ => 0)))]
theorem dX7_init_0 : decode cX7_init 0 = .ok (.aload_n 0, 1) := by decide +kernel
theorem dX7_init_1 : decode cX7_init 1 = .ok (.invokespecial 3, 3) := by decide +kernel
theorem dX7_init_4 : decode cX7_init 4 = .ok (.aload_n 0, 1) := by decide +kernel
theorem dX7_init_5 : decode cX7_init 5 = .ok (.bipush 18, 2) := by decide +kernel
theorem dX7_init_7 : decode cX7_init 7 = .ok (.newarray .int, 2) := by decide +kernel
theorem dX7_init_9 : decode cX7_init 9 = .ok (.putfield 9, 3) := by decide +kernel
theorem dX7_init_12 : decode cX7_init 12 = .ok (.aload_n 0, 1) := by decide +kernel
theorem dX7_init_13 : decode cX7_init 13 = .ok (.bipush 9, 2) := by decide +kernel
theorem dX7_init_15 : decode cX7_init 15 = .ok (.newarray .int, 2) := by decide +kernel
theorem dX7_init_17 : decode cX7_init 17 = .ok (.putfield 15, 3) := by decide +kernel
theorem dX7_init_20 : decode cX7_init 20 = .ok (.aload_n 0, 1) := by decide +kernel
theorem dX7_init_21 : decode cX7_init 21 = .ok (.iconst (-1), 1) := by decide +kernel
theorem dX7_init_22 : decode cX7_init 22 = .ok (.putfield 18, 3) := by decide +kernel
theorem dX7_init_25 : decode cX7_init 25 = .ok (.aload_n 0, 1) := by decide +kernel
theorem dX7_init_26 : decode cX7_init 26 = .ok (.iconst 3, 1) := by decide +kernel
theorem dX7_init_27 : decode cX7_init 27 = .ok (.newarray .int, 2) := by decide +kernel
theorem dX7_init_29 : decode cX7_init 29 = .ok (.putfield 22, 3) := by decide +kernel
theorem dX7_init_32 : decode cX7_init 32 = .ok (.aload_n 0, 1) := by decide +kernel
theorem dX7_init_33 : decode cX7_init 33 = .ok (.bipush 18, 2) := by decide +kernel
theorem dX7_init_35 : decode cX7_init 35 = .ok (.newarray .int, 2) := by decide +kernel
theorem dX7_init_37 : decode cX7_init 37 = .ok (.putfield 25, 3) := by decide +kernel
theorem dX7_init_40 : decode cX7_init 40 = .ok (.aload_n 0, 1) := by decide +kernel
theorem dX7_init_41 : decode cX7_init 41 = .ok (.bipush 18, 2) := by decide +kernel
theorem dX7_init_43 : decode cX7_init 43 = .ok (.newarray .int, 2) := by decide +kernel
theorem dX7_init_45 : decode cX7_init 45 = .ok (.putfield 28, 3) := by decide +kernel
theorem dX7_init_48 : decode cX7_init 48 = .ok (.aload_n 0, 1) := by decide +kernel
theorem dX7_init_49 : decode cX7_init 49 = .ok (.bipush 18, 2) := by decide +kernel
theorem dX7_init_51 : decode cX7_init 51 = .ok (.newarray .int, 2) := by decide +kernel
theorem dX7_init_53 : decode cX7_init 53 = .ok (.putfield 31, 3) := by decide +kernel
theorem dX7_init_56 : decode cX7_init 56 = .ok (.aload_n 0, 1) := by decide +kernel
theorem dX7_init_57 : decode cX7_init 57 = .ok (.bipush 18, 2) := by decide +kernel
theorem dX7_init_59 : decode cX7_init 59 = .ok (.newarray .int, 2) := by decide +kernel
theorem dX7_init_61 : decode cX7_init 61 = .ok (.putfield 34, 3) := by decide +kernel
theorem dX7_init_64 : decode cX7_init 64 = .ok (.aload_n 0, 1) := by decide +kernel
theorem dX7_init_65 : decode cX7_init 65 = .ok (.aload_n 1, 1) := by decide +kernel
theorem dX7_init_66 : decode cX7_init 66 = .ok (.putfield 37, 3) := by decide +kernel
theorem dX7_init_69 : decode cX7_init 69 = .ok (.return_, 1) := by decide +kernel
set_option maxHeartbeats 4000000 in
set_option maxRecDepth 100000 in
theorem k_X7_init (l : Launch) (D : va_G) (K : Nat → ClassId) (cq : Nat) (q sz : Nat) : Met l yX7_init (wM yX7_init cX7_init 2 none) (rmC 1 7 102) (va_Pc [.ref q, .ref cq] (cPre D K q sz (.inr (7, zX7)))) (va_Qv (fun a : Nat → Nat => a 0 = q) (cB D (va_A [(q, (.inr (7, zX7)))] sz) (bX7 K cq)) (va_A [(q, (.inr (7, zX7)))] sz)) 7 102 (va_A [(q, (.inr (7, zX7)))] sz) := by
  refine x_cmet (by decide) rfl (Nat.le_of_ble_eq_true rfl) ?_
  intro p e s m below meth c ls A hE hr hlo hinn hP hD hS hA hK hnp hl kE
  have hE : CallFix p m c cX7_init 2 s _ tbG "TaleCourt$Telling" := hE
  have hl : lv_has ls 2 [(0, .ref q), (1, .ref cq)] := hl
  refine lv_aload_n hE.1 hE.2.1 dX7_init_0 rfl (lv_at hl 0 rfl) ?_
  refine x_oinit (a := q) hE mw_294 mw_138 mw_139 hl.1 dX7_init_1 (Nat.le_of_ble_eq_true rfl) (Nat.le_of_ble_eq_true rfl) ?_
  refine lv_aload_n hE.1 hE.2.1 dX7_init_4 rfl (lv_at hl 0 rfl) ?_
  refine lv_bipush (v := 18) hE.1 hE.2.1 dX7_init_5 (by decide) ?_
  refine x_newa (atype := .int) (ty := .int) (a0 := (18, .inl (fun _ => 0))) (N' := 18) (k := 1) (z := 18) hE mw_288 rfl hK 0 rfl hP hD hS hA (fun _ => rfl) (by decide) (by decide) (Nat.le_of_ble_eq_true rfl) rfl rfl (Nat.le_of_ble_eq_true rfl) (Nat.le_of_ble_eq_true rfl) dX7_init_7 (fun q1 H hP hD hS => ?_)
  have hP : va_P D xcl ((q, .inr (7, [.null, .null, .int 0, .int 0, .int 0, .int 0, .null, .null, .int 0, .int 0, .null, .null, .null, .null])) :: [(q1, .inl (K 0, 18, .inl (fun _ => 0)))]) _ := hP
  have hD : va_D A ((q, .inr (7, [.null, .null, .int 0, .int 0, .int 0, .int 0, .null, .null, .int 0, .int 0, .null, .null, .null, .null])) :: [(q1, .inl (K 0, 18, .inl (fun _ => 0)))]) := hD
  refine x_putF (fs' := [.ref q1, .null, .int 0, .int 0, .int 0, .int 0, .null, .null, .int 0, .int 0, .null, .null, .null, .null]) hE hinn hK hP hD hS rfl hin7 tyX7 tyX7_ok nmX7 0 (by decide) mw_295 rfl rfl rfl rfl (Nat.le_of_ble_eq_true rfl) rfl dX7_init_9 (fun H locs hP hD hS => ?_)
  refine lv_aload_n hE.1 hE.2.1 dX7_init_12 rfl (lv_at hl 0 rfl) ?_
  refine lv_bipush (v := 9) hE.1 hE.2.1 dX7_init_13 (by decide) ?_
  refine x_newa (atype := .int) (ty := .int) (a0 := (9, .inl (fun _ => 0))) (N' := 9) (k := 2) (z := 27) hE mw_288 rfl hK 0 rfl hP hD hS hA (fun _ => rfl) (by decide) (by decide) (Nat.le_of_ble_eq_true rfl) rfl rfl (Nat.le_of_ble_eq_true rfl) (Nat.le_of_ble_eq_true rfl) dX7_init_15 (fun q2 H hP hD hS => ?_)
  have hP : va_P D xcl ((q, .inr (7, [.ref q1, .null, .int 0, .int 0, .int 0, .int 0, .null, .null, .int 0, .int 0, .null, .null, .null, .null])) :: [(q1, .inl (K 0, 18, .inl (fun _ => 0))), (q2, .inl (K 0, 9, .inl (fun _ => 0)))]) _ := hP
  have hD : va_D A ((q, .inr (7, [.ref q1, .null, .int 0, .int 0, .int 0, .int 0, .null, .null, .int 0, .int 0, .null, .null, .null, .null])) :: [(q1, .inl (K 0, 18, .inl (fun _ => 0))), (q2, .inl (K 0, 9, .inl (fun _ => 0)))]) := hD
  refine x_putF (fs' := [.ref q1, .ref q2, .int 0, .int 0, .int 0, .int 0, .null, .null, .int 0, .int 0, .null, .null, .null, .null]) hE hinn hK hP hD hS rfl hin7 tyX7 tyX7_ok nmX7 1 (by decide) mw_299 rfl rfl rfl rfl (Nat.le_of_ble_eq_true rfl) rfl dX7_init_17 (fun H locs hP hD hS => ?_)
  refine lv_aload_n hE.1 hE.2.1 dX7_init_20 rfl (lv_at hl 0 rfl) ?_
  refine lv_iconst (v := (-1)) hE.1 hE.2.1 dX7_init_21 (by decide) ?_
  refine x_putN (fs' := [.ref q1, .ref q2, .int 0, .int 0, .int (-1), .int 0, .null, .null, .int 0, .int 0, .null, .null, .null, .null]) hE hK hP hD hS rfl hin7 tyX7 tyX7_ok nmX7 4 (by decide) mw_309 rfl rfl rfl (Nat.le_of_ble_eq_true rfl) rfl dX7_init_22 (fun H locs hP hD hS => ?_)
  refine lv_aload_n hE.1 hE.2.1 dX7_init_25 rfl (lv_at hl 0 rfl) ?_
  refine lv_iconst (v := 3) hE.1 hE.2.1 dX7_init_26 (by decide) ?_
  refine x_newa (atype := .int) (ty := .int) (a0 := (3, .inl (fun _ => 0))) (N' := 3) (k := 3) (z := 30) hE mw_288 rfl hK 0 rfl hP hD hS hA (fun _ => rfl) (by decide) (by decide) (Nat.le_of_ble_eq_true rfl) rfl rfl (Nat.le_of_ble_eq_true rfl) (Nat.le_of_ble_eq_true rfl) dX7_init_27 (fun q3 H hP hD hS => ?_)
  have hP : va_P D xcl ((q, .inr (7, [.ref q1, .ref q2, .int 0, .int 0, .int (-1), .int 0, .null, .null, .int 0, .int 0, .null, .null, .null, .null])) :: [(q1, .inl (K 0, 18, .inl (fun _ => 0))), (q2, .inl (K 0, 9, .inl (fun _ => 0))), (q3, .inl (K 0, 3, .inl (fun _ => 0)))]) _ := hP
  have hD : va_D A ((q, .inr (7, [.ref q1, .ref q2, .int 0, .int 0, .int (-1), .int 0, .null, .null, .int 0, .int 0, .null, .null, .null, .null])) :: [(q1, .inl (K 0, 18, .inl (fun _ => 0))), (q2, .inl (K 0, 9, .inl (fun _ => 0))), (q3, .inl (K 0, 3, .inl (fun _ => 0)))]) := hD
  refine x_putF (fs' := [.ref q1, .ref q2, .int 0, .int 0, .int (-1), .int 0, .null, .ref q3, .int 0, .int 0, .null, .null, .null, .null]) hE hinn hK hP hD hS rfl hin7 tyX7 tyX7_ok nmX7 7 (by decide) mw_316 rfl rfl rfl rfl (Nat.le_of_ble_eq_true rfl) rfl dX7_init_29 (fun H locs hP hD hS => ?_)
  refine lv_aload_n hE.1 hE.2.1 dX7_init_32 rfl (lv_at hl 0 rfl) ?_
  refine lv_bipush (v := 18) hE.1 hE.2.1 dX7_init_33 (by decide) ?_
  refine x_newa (atype := .int) (ty := .int) (a0 := (18, .inl (fun _ => 0))) (N' := 18) (k := 4) (z := 48) hE mw_288 rfl hK 0 rfl hP hD hS hA (fun _ => rfl) (by decide) (by decide) (Nat.le_of_ble_eq_true rfl) rfl rfl (Nat.le_of_ble_eq_true rfl) (Nat.le_of_ble_eq_true rfl) dX7_init_35 (fun q4 H hP hD hS => ?_)
  have hP : va_P D xcl ((q, .inr (7, [.ref q1, .ref q2, .int 0, .int 0, .int (-1), .int 0, .null, .ref q3, .int 0, .int 0, .null, .null, .null, .null])) :: [(q1, .inl (K 0, 18, .inl (fun _ => 0))), (q2, .inl (K 0, 9, .inl (fun _ => 0))), (q3, .inl (K 0, 3, .inl (fun _ => 0))), (q4, .inl (K 0, 18, .inl (fun _ => 0)))]) _ := hP
  have hD : va_D A ((q, .inr (7, [.ref q1, .ref q2, .int 0, .int 0, .int (-1), .int 0, .null, .ref q3, .int 0, .int 0, .null, .null, .null, .null])) :: [(q1, .inl (K 0, 18, .inl (fun _ => 0))), (q2, .inl (K 0, 9, .inl (fun _ => 0))), (q3, .inl (K 0, 3, .inl (fun _ => 0))), (q4, .inl (K 0, 18, .inl (fun _ => 0)))]) := hD
  refine x_putF (fs' := [.ref q1, .ref q2, .int 0, .int 0, .int (-1), .int 0, .null, .ref q3, .int 0, .int 0, .ref q4, .null, .null, .null]) hE hinn hK hP hD hS rfl hin7 tyX7 tyX7_ok nmX7 10 (by decide) mw_319 rfl rfl rfl rfl (Nat.le_of_ble_eq_true rfl) rfl dX7_init_37 (fun H locs hP hD hS => ?_)
  refine lv_aload_n hE.1 hE.2.1 dX7_init_40 rfl (lv_at hl 0 rfl) ?_
  refine lv_bipush (v := 18) hE.1 hE.2.1 dX7_init_41 (by decide) ?_
  refine x_newa (atype := .int) (ty := .int) (a0 := (18, .inl (fun _ => 0))) (N' := 18) (k := 5) (z := 66) hE mw_288 rfl hK 0 rfl hP hD hS hA (fun _ => rfl) (by decide) (by decide) (Nat.le_of_ble_eq_true rfl) rfl rfl (Nat.le_of_ble_eq_true rfl) (Nat.le_of_ble_eq_true rfl) dX7_init_43 (fun q5 H hP hD hS => ?_)
  have hP : va_P D xcl ((q, .inr (7, [.ref q1, .ref q2, .int 0, .int 0, .int (-1), .int 0, .null, .ref q3, .int 0, .int 0, .ref q4, .null, .null, .null])) :: [(q1, .inl (K 0, 18, .inl (fun _ => 0))), (q2, .inl (K 0, 9, .inl (fun _ => 0))), (q3, .inl (K 0, 3, .inl (fun _ => 0))), (q4, .inl (K 0, 18, .inl (fun _ => 0))), (q5, .inl (K 0, 18, .inl (fun _ => 0)))]) _ := hP
  have hD : va_D A ((q, .inr (7, [.ref q1, .ref q2, .int 0, .int 0, .int (-1), .int 0, .null, .ref q3, .int 0, .int 0, .ref q4, .null, .null, .null])) :: [(q1, .inl (K 0, 18, .inl (fun _ => 0))), (q2, .inl (K 0, 9, .inl (fun _ => 0))), (q3, .inl (K 0, 3, .inl (fun _ => 0))), (q4, .inl (K 0, 18, .inl (fun _ => 0))), (q5, .inl (K 0, 18, .inl (fun _ => 0)))]) := hD
  refine x_putF (fs' := [.ref q1, .ref q2, .int 0, .int 0, .int (-1), .int 0, .null, .ref q3, .int 0, .int 0, .ref q4, .ref q5, .null, .null]) hE hinn hK hP hD hS rfl hin7 tyX7 tyX7_ok nmX7 11 (by decide) mw_320 rfl rfl rfl rfl (Nat.le_of_ble_eq_true rfl) rfl dX7_init_45 (fun H locs hP hD hS => ?_)
  refine lv_aload_n hE.1 hE.2.1 dX7_init_48 rfl (lv_at hl 0 rfl) ?_
  refine lv_bipush (v := 18) hE.1 hE.2.1 dX7_init_49 (by decide) ?_
  refine x_newa (atype := .int) (ty := .int) (a0 := (18, .inl (fun _ => 0))) (N' := 18) (k := 6) (z := 84) hE mw_288 rfl hK 0 rfl hP hD hS hA (fun _ => rfl) (by decide) (by decide) (Nat.le_of_ble_eq_true rfl) rfl rfl (Nat.le_of_ble_eq_true rfl) (Nat.le_of_ble_eq_true rfl) dX7_init_51 (fun q6 H hP hD hS => ?_)
  have hP : va_P D xcl ((q, .inr (7, [.ref q1, .ref q2, .int 0, .int 0, .int (-1), .int 0, .null, .ref q3, .int 0, .int 0, .ref q4, .ref q5, .null, .null])) :: [(q1, .inl (K 0, 18, .inl (fun _ => 0))), (q2, .inl (K 0, 9, .inl (fun _ => 0))), (q3, .inl (K 0, 3, .inl (fun _ => 0))), (q4, .inl (K 0, 18, .inl (fun _ => 0))), (q5, .inl (K 0, 18, .inl (fun _ => 0))), (q6, .inl (K 0, 18, .inl (fun _ => 0)))]) _ := hP
  have hD : va_D A ((q, .inr (7, [.ref q1, .ref q2, .int 0, .int 0, .int (-1), .int 0, .null, .ref q3, .int 0, .int 0, .ref q4, .ref q5, .null, .null])) :: [(q1, .inl (K 0, 18, .inl (fun _ => 0))), (q2, .inl (K 0, 9, .inl (fun _ => 0))), (q3, .inl (K 0, 3, .inl (fun _ => 0))), (q4, .inl (K 0, 18, .inl (fun _ => 0))), (q5, .inl (K 0, 18, .inl (fun _ => 0))), (q6, .inl (K 0, 18, .inl (fun _ => 0)))]) := hD
  refine x_putF (fs' := [.ref q1, .ref q2, .int 0, .int 0, .int (-1), .int 0, .null, .ref q3, .int 0, .int 0, .ref q4, .ref q5, .ref q6, .null]) hE hinn hK hP hD hS rfl hin7 tyX7 tyX7_ok nmX7 12 (by decide) mw_321 rfl rfl rfl rfl (Nat.le_of_ble_eq_true rfl) rfl dX7_init_53 (fun H locs hP hD hS => ?_)
  refine lv_aload_n hE.1 hE.2.1 dX7_init_56 rfl (lv_at hl 0 rfl) ?_
  refine lv_bipush (v := 18) hE.1 hE.2.1 dX7_init_57 (by decide) ?_
  refine x_newa (atype := .int) (ty := .int) (a0 := (18, .inl (fun _ => 0))) (N' := 18) (k := 7) (z := 102) hE mw_288 rfl hK 0 rfl hP hD hS hA (fun _ => rfl) (by decide) (by decide) (Nat.le_of_ble_eq_true rfl) rfl rfl (Nat.le_of_ble_eq_true rfl) (Nat.le_of_ble_eq_true rfl) dX7_init_59 (fun q7 H hP hD hS => ?_)
  have hP : va_P D xcl ((q, .inr (7, [.ref q1, .ref q2, .int 0, .int 0, .int (-1), .int 0, .null, .ref q3, .int 0, .int 0, .ref q4, .ref q5, .ref q6, .null])) :: [(q1, .inl (K 0, 18, .inl (fun _ => 0))), (q2, .inl (K 0, 9, .inl (fun _ => 0))), (q3, .inl (K 0, 3, .inl (fun _ => 0))), (q4, .inl (K 0, 18, .inl (fun _ => 0))), (q5, .inl (K 0, 18, .inl (fun _ => 0))), (q6, .inl (K 0, 18, .inl (fun _ => 0))), (q7, .inl (K 0, 18, .inl (fun _ => 0)))]) _ := hP
  have hD : va_D A ((q, .inr (7, [.ref q1, .ref q2, .int 0, .int 0, .int (-1), .int 0, .null, .ref q3, .int 0, .int 0, .ref q4, .ref q5, .ref q6, .null])) :: [(q1, .inl (K 0, 18, .inl (fun _ => 0))), (q2, .inl (K 0, 9, .inl (fun _ => 0))), (q3, .inl (K 0, 3, .inl (fun _ => 0))), (q4, .inl (K 0, 18, .inl (fun _ => 0))), (q5, .inl (K 0, 18, .inl (fun _ => 0))), (q6, .inl (K 0, 18, .inl (fun _ => 0))), (q7, .inl (K 0, 18, .inl (fun _ => 0)))]) := hD
  refine x_putF (fs' := [.ref q1, .ref q2, .int 0, .int 0, .int (-1), .int 0, .null, .ref q3, .int 0, .int 0, .ref q4, .ref q5, .ref q6, .ref q7]) hE hinn hK hP hD hS rfl hin7 tyX7 tyX7_ok nmX7 13 (by decide) mw_322 rfl rfl rfl rfl (Nat.le_of_ble_eq_true rfl) rfl dX7_init_61 (fun H locs hP hD hS => ?_)
  refine lv_aload_n hE.1 hE.2.1 dX7_init_64 rfl (lv_at hl 0 rfl) ?_
  refine lv_aload_n hE.1 hE.2.1 dX7_init_65 rfl (lv_at hl 1 rfl) ?_
  refine x_putF (fs' := [.ref q1, .ref q2, .int 0, .int 0, .int (-1), .int 0, .ref cq, .ref q3, .int 0, .int 0, .ref q4, .ref q5, .ref q6, .ref q7]) hE hinn hK hP hD hS rfl hin7 tyX7 tyX7_ok nmX7 6 (by decide) mw_315 rfl rfl rfl rfl (Nat.le_of_ble_eq_true rfl) rfl dX7_init_66 (fun H locs hP hD hS => ?_)
  exact kE (fun j => if j < 1 then q else if j < 2 then q1 else if j < 3 then q2 else if j < 4 then q3 else if j < 5 then q4 else if j < 6 then q5 else if j < 7 then q6 else q7) 69 _ _ _ 7 102 (Nat.le_of_ble_eq_true rfl) (Nat.le_of_ble_eq_true rfl) rfl hP hD hS dX7_init_69

def bX0 (K : Nat → ClassId) (a : Nat → Nat) : va_W := [((a 0), .inr (0, [.int 0, .ref (a 1), .ref (a 2), .ref (a 3), .ref (a 4), .ref (a 5)])), ((a 1), .inl (K 0, 81, .inl (fun _ => 0))), ((a 2), .inl (K 0, 9, .inl (fun _ => 0))), ((a 3), .inl (K 0, 72, .inl (fun _ => 0))), ((a 4), .inl (K 0, 512, .inl (fun _ => 0))), ((a 5), .inl (K 0, 512, .inl (fun _ => 0)))]
theorem dX0_init_0 : decode cX0_init 0 = .ok (.aload_n 0, 1) := by decide +kernel
theorem dX0_init_1 : decode cX0_init 1 = .ok (.invokespecial 3, 3) := by decide +kernel
theorem dX0_init_4 : decode cX0_init 4 = .ok (.aload_n 0, 1) := by decide +kernel
theorem dX0_init_5 : decode cX0_init 5 = .ok (.bipush 81, 2) := by decide +kernel
theorem dX0_init_7 : decode cX0_init 7 = .ok (.newarray .int, 2) := by decide +kernel
theorem dX0_init_9 : decode cX0_init 9 = .ok (.putfield 9, 3) := by decide +kernel
theorem dX0_init_12 : decode cX0_init 12 = .ok (.aload_n 0, 1) := by decide +kernel
theorem dX0_init_13 : decode cX0_init 13 = .ok (.bipush 9, 2) := by decide +kernel
theorem dX0_init_15 : decode cX0_init 15 = .ok (.newarray .int, 2) := by decide +kernel
theorem dX0_init_17 : decode cX0_init 17 = .ok (.putfield 15, 3) := by decide +kernel
theorem dX0_init_20 : decode cX0_init 20 = .ok (.aload_n 0, 1) := by decide +kernel
theorem dX0_init_21 : decode cX0_init 21 = .ok (.bipush 72, 2) := by decide +kernel
theorem dX0_init_23 : decode cX0_init 23 = .ok (.newarray .int, 2) := by decide +kernel
theorem dX0_init_25 : decode cX0_init 25 = .ok (.putfield 18, 3) := by decide +kernel
theorem dX0_init_28 : decode cX0_init 28 = .ok (.aload_n 0, 1) := by decide +kernel
theorem dX0_init_29 : decode cX0_init 29 = .ok (.sipush 512, 3) := by decide +kernel
theorem dX0_init_32 : decode cX0_init 32 = .ok (.newarray .int, 2) := by decide +kernel
theorem dX0_init_34 : decode cX0_init 34 = .ok (.putfield 21, 3) := by decide +kernel
theorem dX0_init_37 : decode cX0_init 37 = .ok (.aload_n 0, 1) := by decide +kernel
theorem dX0_init_38 : decode cX0_init 38 = .ok (.sipush 512, 3) := by decide +kernel
theorem dX0_init_41 : decode cX0_init 41 = .ok (.newarray .int, 2) := by decide +kernel
theorem dX0_init_43 : decode cX0_init 43 = .ok (.putfield 24, 3) := by decide +kernel
theorem dX0_init_46 : decode cX0_init 46 = .ok (.return_, 1) := by decide +kernel
set_option maxHeartbeats 4000000 in
set_option maxRecDepth 100000 in
theorem k_X0_init (l : Launch) (D : va_G) (K : Nat → ClassId) (q sz : Nat) : Met l yX0_init (wM yX0_init cX0_init 1 none) (rmC 1 5 1186) (va_Pc [.ref q] (cPre D K q sz (.inr (0, zX0)))) (va_Qv (fun a : Nat → Nat => a 0 = q) (cB D (va_A [(q, (.inr (0, zX0)))] sz) (bX0 K)) (va_A [(q, (.inr (0, zX0)))] sz)) 5 1186 (va_A [(q, (.inr (0, zX0)))] sz) := by
  refine x_cmet (by decide) rfl (Nat.le_of_ble_eq_true rfl) ?_
  intro p e s m below meth c ls A hE hr hlo hinn hP hD hS hA hK hnp hl kE
  have hE : CallFix p m c cX0_init 1 s _ tbG "TaleCourt$Claims" := hE
  have hl : lv_has ls 1 [(0, .ref q)] := hl
  refine lv_aload_n hE.1 hE.2.1 dX0_init_0 rfl (lv_at hl 0 rfl) ?_
  refine x_oinit (a := q) hE mw_357 mw_138 mw_139 hl.1 dX0_init_1 (Nat.le_of_ble_eq_true rfl) (Nat.le_of_ble_eq_true rfl) ?_
  refine lv_aload_n hE.1 hE.2.1 dX0_init_4 rfl (lv_at hl 0 rfl) ?_
  refine lv_bipush (v := 81) hE.1 hE.2.1 dX0_init_5 (by decide) ?_
  refine x_newa (atype := .int) (ty := .int) (a0 := (81, .inl (fun _ => 0))) (N' := 81) (k := 1) (z := 81) hE mw_288 rfl hK 0 rfl hP hD hS hA (fun _ => rfl) (by decide) (by decide) (Nat.le_of_ble_eq_true rfl) rfl rfl (Nat.le_of_ble_eq_true rfl) (Nat.le_of_ble_eq_true rfl) dX0_init_7 (fun q1 H hP hD hS => ?_)
  have hP : va_P D xcl ((q, .inr (0, [.int 0, .null, .null, .null, .null, .null])) :: [(q1, .inl (K 0, 81, .inl (fun _ => 0)))]) _ := hP
  have hD : va_D A ((q, .inr (0, [.int 0, .null, .null, .null, .null, .null])) :: [(q1, .inl (K 0, 81, .inl (fun _ => 0)))]) := hD
  refine x_putF (fs' := [.int 0, .ref q1, .null, .null, .null, .null]) hE hinn hK hP hD hS rfl hin0 tyX0 tyX0_ok nmX0 1 (by decide) mw_360 rfl rfl rfl rfl (Nat.le_of_ble_eq_true rfl) rfl dX0_init_9 (fun H locs hP hD hS => ?_)
  refine lv_aload_n hE.1 hE.2.1 dX0_init_12 rfl (lv_at hl 0 rfl) ?_
  refine lv_bipush (v := 9) hE.1 hE.2.1 dX0_init_13 (by decide) ?_
  refine x_newa (atype := .int) (ty := .int) (a0 := (9, .inl (fun _ => 0))) (N' := 9) (k := 2) (z := 90) hE mw_288 rfl hK 0 rfl hP hD hS hA (fun _ => rfl) (by decide) (by decide) (Nat.le_of_ble_eq_true rfl) rfl rfl (Nat.le_of_ble_eq_true rfl) (Nat.le_of_ble_eq_true rfl) dX0_init_15 (fun q2 H hP hD hS => ?_)
  have hP : va_P D xcl ((q, .inr (0, [.int 0, .ref q1, .null, .null, .null, .null])) :: [(q1, .inl (K 0, 81, .inl (fun _ => 0))), (q2, .inl (K 0, 9, .inl (fun _ => 0)))]) _ := hP
  have hD : va_D A ((q, .inr (0, [.int 0, .ref q1, .null, .null, .null, .null])) :: [(q1, .inl (K 0, 81, .inl (fun _ => 0))), (q2, .inl (K 0, 9, .inl (fun _ => 0)))]) := hD
  refine x_putF (fs' := [.int 0, .ref q1, .ref q2, .null, .null, .null]) hE hinn hK hP hD hS rfl hin0 tyX0 tyX0_ok nmX0 2 (by decide) mw_361 rfl rfl rfl rfl (Nat.le_of_ble_eq_true rfl) rfl dX0_init_17 (fun H locs hP hD hS => ?_)
  refine lv_aload_n hE.1 hE.2.1 dX0_init_20 rfl (lv_at hl 0 rfl) ?_
  refine lv_bipush (v := 72) hE.1 hE.2.1 dX0_init_21 (by decide) ?_
  refine x_newa (atype := .int) (ty := .int) (a0 := (72, .inl (fun _ => 0))) (N' := 72) (k := 3) (z := 162) hE mw_288 rfl hK 0 rfl hP hD hS hA (fun _ => rfl) (by decide) (by decide) (Nat.le_of_ble_eq_true rfl) rfl rfl (Nat.le_of_ble_eq_true rfl) (Nat.le_of_ble_eq_true rfl) dX0_init_23 (fun q3 H hP hD hS => ?_)
  have hP : va_P D xcl ((q, .inr (0, [.int 0, .ref q1, .ref q2, .null, .null, .null])) :: [(q1, .inl (K 0, 81, .inl (fun _ => 0))), (q2, .inl (K 0, 9, .inl (fun _ => 0))), (q3, .inl (K 0, 72, .inl (fun _ => 0)))]) _ := hP
  have hD : va_D A ((q, .inr (0, [.int 0, .ref q1, .ref q2, .null, .null, .null])) :: [(q1, .inl (K 0, 81, .inl (fun _ => 0))), (q2, .inl (K 0, 9, .inl (fun _ => 0))), (q3, .inl (K 0, 72, .inl (fun _ => 0)))]) := hD
  refine x_putF (fs' := [.int 0, .ref q1, .ref q2, .ref q3, .null, .null]) hE hinn hK hP hD hS rfl hin0 tyX0 tyX0_ok nmX0 3 (by decide) mw_362 rfl rfl rfl rfl (Nat.le_of_ble_eq_true rfl) rfl dX0_init_25 (fun H locs hP hD hS => ?_)
  refine lv_aload_n hE.1 hE.2.1 dX0_init_28 rfl (lv_at hl 0 rfl) ?_
  refine lv_sipush (v := 512) hE.1 hE.2.1 dX0_init_29 (by decide) ?_
  refine x_newa (atype := .int) (ty := .int) (a0 := (512, .inl (fun _ => 0))) (N' := 512) (k := 4) (z := 674) hE mw_288 rfl hK 0 rfl hP hD hS hA (fun _ => rfl) (by decide) (by decide) (Nat.le_of_ble_eq_true rfl) rfl rfl (Nat.le_of_ble_eq_true rfl) (Nat.le_of_ble_eq_true rfl) dX0_init_32 (fun q4 H hP hD hS => ?_)
  have hP : va_P D xcl ((q, .inr (0, [.int 0, .ref q1, .ref q2, .ref q3, .null, .null])) :: [(q1, .inl (K 0, 81, .inl (fun _ => 0))), (q2, .inl (K 0, 9, .inl (fun _ => 0))), (q3, .inl (K 0, 72, .inl (fun _ => 0))), (q4, .inl (K 0, 512, .inl (fun _ => 0)))]) _ := hP
  have hD : va_D A ((q, .inr (0, [.int 0, .ref q1, .ref q2, .ref q3, .null, .null])) :: [(q1, .inl (K 0, 81, .inl (fun _ => 0))), (q2, .inl (K 0, 9, .inl (fun _ => 0))), (q3, .inl (K 0, 72, .inl (fun _ => 0))), (q4, .inl (K 0, 512, .inl (fun _ => 0)))]) := hD
  refine x_putF (fs' := [.int 0, .ref q1, .ref q2, .ref q3, .ref q4, .null]) hE hinn hK hP hD hS rfl hin0 tyX0 tyX0_ok nmX0 4 (by decide) mw_363 rfl rfl rfl rfl (Nat.le_of_ble_eq_true rfl) rfl dX0_init_34 (fun H locs hP hD hS => ?_)
  refine lv_aload_n hE.1 hE.2.1 dX0_init_37 rfl (lv_at hl 0 rfl) ?_
  refine lv_sipush (v := 512) hE.1 hE.2.1 dX0_init_38 (by decide) ?_
  refine x_newa (atype := .int) (ty := .int) (a0 := (512, .inl (fun _ => 0))) (N' := 512) (k := 5) (z := 1186) hE mw_288 rfl hK 0 rfl hP hD hS hA (fun _ => rfl) (by decide) (by decide) (Nat.le_of_ble_eq_true rfl) rfl rfl (Nat.le_of_ble_eq_true rfl) (Nat.le_of_ble_eq_true rfl) dX0_init_41 (fun q5 H hP hD hS => ?_)
  have hP : va_P D xcl ((q, .inr (0, [.int 0, .ref q1, .ref q2, .ref q3, .ref q4, .null])) :: [(q1, .inl (K 0, 81, .inl (fun _ => 0))), (q2, .inl (K 0, 9, .inl (fun _ => 0))), (q3, .inl (K 0, 72, .inl (fun _ => 0))), (q4, .inl (K 0, 512, .inl (fun _ => 0))), (q5, .inl (K 0, 512, .inl (fun _ => 0)))]) _ := hP
  have hD : va_D A ((q, .inr (0, [.int 0, .ref q1, .ref q2, .ref q3, .ref q4, .null])) :: [(q1, .inl (K 0, 81, .inl (fun _ => 0))), (q2, .inl (K 0, 9, .inl (fun _ => 0))), (q3, .inl (K 0, 72, .inl (fun _ => 0))), (q4, .inl (K 0, 512, .inl (fun _ => 0))), (q5, .inl (K 0, 512, .inl (fun _ => 0)))]) := hD
  refine x_putF (fs' := [.int 0, .ref q1, .ref q2, .ref q3, .ref q4, .ref q5]) hE hinn hK hP hD hS rfl hin0 tyX0 tyX0_ok nmX0 5 (by decide) mw_364 rfl rfl rfl rfl (Nat.le_of_ble_eq_true rfl) rfl dX0_init_43 (fun H locs hP hD hS => ?_)
  exact kE (fun j => if j < 1 then q else if j < 2 then q1 else if j < 3 then q2 else if j < 4 then q3 else if j < 5 then q4 else q5) 46 _ _ _ 5 1186 (Nat.le_of_ble_eq_true rfl) (Nat.le_of_ble_eq_true rfl) rfl hP hD hS dX0_init_46

def bX6 (K : Nat → ClassId) (cq : Nat) (kq : Nat) (a : Nat → Nat) : va_W := [((a 0), .inr (6, [.ref (a 3), .ref kq, .ref (a 1), .ref (a 2), .int 0, .int 0, .int 0, .int 0])), ((a 1), .inl (K 1, 4096, .inr (.inl (fun _ => 0)))), ((a 2), .inl (K 0, 4096, .inl (fun _ => 0)))] ++ bX7 K cq (fun j => a (3 + j))
theorem dX6_init_0 : decode cX6_init 0 = .ok (.aload_n 0, 1) := by decide +kernel
theorem dX6_init_1 : decode cX6_init 1 = .ok (.invokespecial 3, 3) := by decide +kernel
theorem dX6_init_4 : decode cX6_init 4 = .ok (.aload_n 0, 1) := by decide +kernel
theorem dX6_init_5 : decode cX6_init 5 = .ok (.sipush 4096, 3) := by decide +kernel
theorem dX6_init_8 : decode cX6_init 8 = .ok (.newarray .long, 2) := by decide +kernel
theorem dX6_init_10 : decode cX6_init 10 = .ok (.putfield 11, 3) := by decide +kernel
theorem dX6_init_13 : decode cX6_init 13 = .ok (.aload_n 0, 1) := by decide +kernel
theorem dX6_init_14 : decode cX6_init 14 = .ok (.sipush 4096, 3) := by decide +kernel
theorem dX6_init_17 : decode cX6_init 17 = .ok (.newarray .int, 2) := by decide +kernel
theorem dX6_init_19 : decode cX6_init 19 = .ok (.putfield 15, 3) := by decide +kernel
theorem dX6_init_22 : decode cX6_init 22 = .ok (.aload_n 0, 1) := by decide +kernel
theorem dX6_init_23 : decode cX6_init 23 = .ok (.new 19, 3) := by decide +kernel
theorem dX6_init_26 : decode cX6_init 26 = .ok (.dup, 1) := by decide +kernel
theorem dX6_init_27 : decode cX6_init 27 = .ok (.aload_n 1, 1) := by decide +kernel
theorem dX6_init_28 : decode cX6_init 28 = .ok (.invokespecial 21, 3) := by decide +kernel
theorem dX6_init_31 : decode cX6_init 31 = .ok (.putfield 24, 3) := by decide +kernel
theorem dX6_init_34 : decode cX6_init 34 = .ok (.aload_n 0, 1) := by decide +kernel
theorem dX6_init_35 : decode cX6_init 35 = .ok (.aload_n 2, 1) := by decide +kernel
theorem dX6_init_36 : decode cX6_init 36 = .ok (.putfield 28, 3) := by decide +kernel
theorem dX6_init_39 : decode cX6_init 39 = .ok (.return_, 1) := by decide +kernel
set_option maxHeartbeats 4000000 in
set_option maxRecDepth 100000 in
theorem k_X6_init (l : Launch) (D : va_G) (K : Nat → ClassId) (cq : Nat) (kq : Nat) (q sz : Nat) : Met l yX6_init (wM yX6_init cX6_init 3 none) (rmC 2 10 8308) (va_Pc [.ref q, .ref cq, .ref kq] (cPre D K q sz (.inr (6, zX6)))) (va_Qv (fun a : Nat → Nat => a 0 = q) (cB D (va_A [(q, (.inr (6, zX6)))] sz) (bX6 K cq kq)) (va_A [(q, (.inr (6, zX6)))] sz)) 10 8308 (va_A [(q, (.inr (6, zX6)))] sz) := by
  refine x_cmet (by decide) rfl (Nat.le_of_ble_eq_true rfl) ?_
  intro p e s m below meth c ls A hE hr hlo hinn hP hD hS hA hK hnp hl kE
  have hE : CallFix p m c cX6_init 3 s _ tbG "TaleCourt$Survey" := hE
  have hl : lv_has ls 3 [(0, .ref q), (1, .ref cq), (2, .ref kq)] := hl
  refine lv_aload_n hE.1 hE.2.1 dX6_init_0 rfl (lv_at hl 0 rfl) ?_
  refine x_oinit (a := q) hE mw_383 mw_138 mw_139 hl.1 dX6_init_1 (Nat.le_of_ble_eq_true rfl) (Nat.le_of_ble_eq_true rfl) ?_
  refine lv_aload_n hE.1 hE.2.1 dX6_init_4 rfl (lv_at hl 0 rfl) ?_
  refine lv_sipush (v := 4096) hE.1 hE.2.1 dX6_init_5 (by decide) ?_
  refine x_newa (atype := .long) (ty := .long) (a0 := (4096, .inr (.inl (fun _ => 0)))) (N' := 4096) (k := 1) (z := 4096) hE mw_411 rfl hK 1 rfl hP hD hS hA (fun _ => rfl) (by decide) (by decide) (Nat.le_of_ble_eq_true rfl) rfl rfl (Nat.le_of_ble_eq_true rfl) (Nat.le_of_ble_eq_true rfl) dX6_init_8 (fun q1 H hP hD hS => ?_)
  have hP : va_P D xcl ((q, .inr (6, [.null, .null, .null, .null, .int 0, .int 0, .int 0, .int 0])) :: [(q1, .inl (K 1, 4096, .inr (.inl (fun _ => 0))))]) _ := hP
  have hD : va_D A ((q, .inr (6, [.null, .null, .null, .null, .int 0, .int 0, .int 0, .int 0])) :: [(q1, .inl (K 1, 4096, .inr (.inl (fun _ => 0))))]) := hD
  refine x_putF (fs' := [.null, .null, .ref q1, .null, .int 0, .int 0, .int 0, .int 0]) hE hinn hK hP hD hS rfl hin6 tyX6 tyX6_ok nmX6 2 (by decide) mw_388 rfl rfl rfl rfl (Nat.le_of_ble_eq_true rfl) rfl dX6_init_10 (fun H locs hP hD hS => ?_)
  refine lv_aload_n hE.1 hE.2.1 dX6_init_13 rfl (lv_at hl 0 rfl) ?_
  refine lv_sipush (v := 4096) hE.1 hE.2.1 dX6_init_14 (by decide) ?_
  refine x_newa (atype := .int) (ty := .int) (a0 := (4096, .inl (fun _ => 0))) (N' := 4096) (k := 2) (z := 8192) hE mw_288 rfl hK 0 rfl hP hD hS hA (fun _ => rfl) (by decide) (by decide) (Nat.le_of_ble_eq_true rfl) rfl rfl (Nat.le_of_ble_eq_true rfl) (Nat.le_of_ble_eq_true rfl) dX6_init_17 (fun q2 H hP hD hS => ?_)
  have hP : va_P D xcl ((q, .inr (6, [.null, .null, .ref q1, .null, .int 0, .int 0, .int 0, .int 0])) :: [(q1, .inl (K 1, 4096, .inr (.inl (fun _ => 0)))), (q2, .inl (K 0, 4096, .inl (fun _ => 0)))]) _ := hP
  have hD : va_D A ((q, .inr (6, [.null, .null, .ref q1, .null, .int 0, .int 0, .int 0, .int 0])) :: [(q1, .inl (K 1, 4096, .inr (.inl (fun _ => 0)))), (q2, .inl (K 0, 4096, .inl (fun _ => 0)))]) := hD
  refine x_putF (fs' := [.null, .null, .ref q1, .ref q2, .int 0, .int 0, .int 0, .int 0]) hE hinn hK hP hD hS rfl hin6 tyX6 tyX6_ok nmX6 3 (by decide) mw_389 rfl rfl rfl rfl (Nat.le_of_ble_eq_true rfl) rfl dX6_init_19 (fun H locs hP hD hS => ?_)
  refine lv_aload_n hE.1 hE.2.1 dX6_init_22 rfl (lv_at hl 0 rfl) ?_
  refine x_newo (ci := 7) (fs := zX7) (k := 3) (z := 8206) hE hin7 tyX7 tyX7_ok mw_384 mw_290 mw_117 hK hP hD hS hA rfl zX7_ok rfl rfl (Nat.le_of_ble_eq_true rfl) (Nat.le_of_ble_eq_true rfl) dX6_init_23 (fun q3 H hP hD hS => ?_)
  have hP : va_P D xcl (((q, .inr (6, [.null, .null, .ref q1, .ref q2, .int 0, .int 0, .int 0, .int 0])) :: [(q1, .inl (K 1, 4096, .inr (.inl (fun _ => 0)))), (q2, .inl (K 0, 4096, .inl (fun _ => 0)))]) ++ [(q3, .inr (7, zX7))]) _ := hP
  have hD : va_D A (((q, .inr (6, [.null, .null, .ref q1, .ref q2, .int 0, .int 0, .int 0, .int 0])) :: [(q1, .inl (K 1, 4096, .inr (.inl (fun _ => 0)))), (q2, .inl (K 0, 4096, .inl (fun _ => 0)))]) ++ [(q3, .inr (7, zX7))]) := hD
  refine lv_dup hE.1 hE.2.1 dX6_init_26 rfl ?_
  refine lv_aload_n hE.1 hE.2.1 dX6_init_27 rfl (lv_at hl 1 rfl) ?_
  refine x_ctor (nn := 1) (As := [.ref cq]) (rest := [.ref q3, .ref q]) (k := 10) (z := 8308) hE hK hnp hP hD hS hA (k_X7_init l D K cq q3 _) rfl mw_385 mw_292 mw_117 mw_293 rfl (by decide +kernel) ⟨by decide, by decide⟩ hl.1 rfl (Nat.le_of_ble_eq_true rfl) rfl rfl (Nat.le_of_ble_eq_true rfl) (Nat.le_of_ble_eq_true rfl) dX6_init_28 (fun a3 H locs ha3 hPn hDn hSn => ?_)
  subst ha3
  have hS := hSn
  have hP : va_P D xcl ((q, .inr (6, [.null, .null, .ref q1, .ref q2, .int 0, .int 0, .int 0, .int 0])) :: ([(q1, .inl (K 1, 4096, .inr (.inl (fun _ => 0)))), (q2, .inl (K 0, 4096, .inl (fun _ => 0)))] ++ bX7 K cq a3)) _ := hPn
  have hD : va_D A ((q, .inr (6, [.null, .null, .ref q1, .ref q2, .int 0, .int 0, .int 0, .int 0])) :: ([(q1, .inl (K 1, 4096, .inr (.inl (fun _ => 0)))), (q2, .inl (K 0, 4096, .inl (fun _ => 0)))] ++ bX7 K cq a3)) := hDn
  refine x_putF (fs' := [.ref (a3 0), .null, .ref q1, .ref q2, .int 0, .int 0, .int 0, .int 0]) hE hinn hK hP hD hS rfl hin6 tyX6 tyX6_ok nmX6 0 (by decide) mw_386 rfl rfl rfl rfl (Nat.le_of_ble_eq_true rfl) rfl dX6_init_31 (fun H locs hP hD hS => ?_)
  refine lv_aload_n hE.1 hE.2.1 dX6_init_34 rfl (lv_at hl 0 rfl) ?_
  refine lv_aload_n hE.1 hE.2.1 dX6_init_35 rfl (lv_at hl 2 rfl) ?_
  refine x_putF (fs' := [.ref (a3 0), .ref kq, .ref q1, .ref q2, .int 0, .int 0, .int 0, .int 0]) hE hinn hK hP hD hS rfl hin6 tyX6 tyX6_ok nmX6 1 (by decide) mw_387 rfl rfl rfl rfl (Nat.le_of_ble_eq_true rfl) rfl dX6_init_36 (fun H locs hP hD hS => ?_)
  exact kE (fun j => if j < 1 then q else if j < 2 then q1 else if j < 3 then q2 else a3 (j - 3)) 39 _ _ _ 10 8308 (Nat.le_of_ble_eq_true rfl) (Nat.le_of_ble_eq_true rfl) rfl hP hD hS dX6_init_39

def bX2 (K : Nat → ClassId) (cq : Nat) (a : Nat → Nat) : va_W := [((a 0), .inr (2, [.ref cq, .ref (a 1), .null, .int 0, .int 0]))] ++ bX7 K cq (fun j => a (1 + j))
theorem dX2_init_0 : decode cX2_init 0 = .ok (.aload_n 0, 1) := by decide +kernel
theorem dX2_init_1 : decode cX2_init 1 = .ok (.invokespecial 5, 3) := by decide +kernel
theorem dX2_init_4 : decode cX2_init 4 = .ok (.aload_n 0, 1) := by decide +kernel
theorem dX2_init_5 : decode cX2_init 5 = .ok (.aconst_null, 1) := by decide +kernel
theorem dX2_init_6 : decode cX2_init 6 = .ok (.putfield 11, 3) := by decide +kernel
theorem dX2_init_9 : decode cX2_init 9 = .ok (.aload_n 0, 1) := by decide +kernel
theorem dX2_init_10 : decode cX2_init 10 = .ok (.aload_n 1, 1) := by decide +kernel
theorem dX2_init_11 : decode cX2_init 11 = .ok (.putfield 15, 3) := by decide +kernel
theorem dX2_init_14 : decode cX2_init 14 = .ok (.aload_n 0, 1) := by decide +kernel
theorem dX2_init_15 : decode cX2_init 15 = .ok (.new 19, 3) := by decide +kernel
theorem dX2_init_18 : decode cX2_init 18 = .ok (.dup, 1) := by decide +kernel
theorem dX2_init_19 : decode cX2_init 19 = .ok (.aload_n 1, 1) := by decide +kernel
theorem dX2_init_20 : decode cX2_init 20 = .ok (.invokespecial 21, 3) := by decide +kernel
theorem dX2_init_23 : decode cX2_init 23 = .ok (.putfield 24, 3) := by decide +kernel
theorem dX2_init_26 : decode cX2_init 26 = .ok (.return_, 1) := by decide +kernel
set_option maxHeartbeats 4000000 in
set_option maxRecDepth 100000 in
theorem k_X2_init (l : Launch) (D : va_G) (K : Nat → ClassId) (cq : Nat) (q sz : Nat) : Met l yX2_init (wM yX2_init cX2_init 2 none) (rmC 2 8 116) (va_Pc [.ref q, .ref cq] (cPre D K q sz (.inr (2, zX2)))) (va_Qv (fun a : Nat → Nat => a 0 = q) (cB D (va_A [(q, (.inr (2, zX2)))] sz) (bX2 K cq)) (va_A [(q, (.inr (2, zX2)))] sz)) 8 116 (va_A [(q, (.inr (2, zX2)))] sz) := by
  refine x_cmet (by decide) rfl (Nat.le_of_ble_eq_true rfl) ?_
  intro p e s m below meth c ls A hE hr hlo hinn hP hD hS hA hK hnp hl kE
  have hE : CallFix p m c cX2_init 2 s _ tbG "TaleCourt$Game" := hE
  have hl : lv_has ls 2 [(0, .ref q), (1, .ref cq)] := hl
  refine lv_aload_n hE.1 hE.2.1 dX2_init_0 rfl (lv_at hl 0 rfl) ?_
  refine x_oinit (a := q) hE mw_417 mw_138 mw_139 hl.1 dX2_init_1 (Nat.le_of_ble_eq_true rfl) (Nat.le_of_ble_eq_true rfl) ?_
  refine lv_aload_n hE.1 hE.2.1 dX2_init_4 rfl (lv_at hl 0 rfl) ?_
  refine lv_null hE.1 hE.2.1 dX2_init_5 ?_
  refine x_putN (fs' := [.null, .null, .null, .int 0, .int 0]) hE hK hP hD hS rfl hin2 tyX2 tyX2_ok nmX2 2 (by decide) mw_422 rfl rfl rfl (Nat.le_of_ble_eq_true rfl) rfl dX2_init_6 (fun H locs hP hD hS => ?_)
  refine lv_aload_n hE.1 hE.2.1 dX2_init_9 rfl (lv_at hl 0 rfl) ?_
  refine lv_aload_n hE.1 hE.2.1 dX2_init_10 rfl (lv_at hl 1 rfl) ?_
  refine x_putF (fs' := [.ref cq, .null, .null, .int 0, .int 0]) hE hinn hK hP hD hS rfl hin2 tyX2 tyX2_ok nmX2 0 (by decide) mw_420 rfl rfl rfl rfl (Nat.le_of_ble_eq_true rfl) rfl dX2_init_11 (fun H locs hP hD hS => ?_)
  refine lv_aload_n hE.1 hE.2.1 dX2_init_14 rfl (lv_at hl 0 rfl) ?_
  refine x_newo (ci := 7) (fs := zX7) (k := 1) (z := 14) hE hin7 tyX7 tyX7_ok mw_418 mw_290 mw_117 hK hP hD hS hA rfl zX7_ok rfl rfl (Nat.le_of_ble_eq_true rfl) (Nat.le_of_ble_eq_true rfl) dX2_init_15 (fun q1 H hP hD hS => ?_)
  have hP : va_P D xcl (((q, .inr (2, [.ref cq, .null, .null, .int 0, .int 0])) :: []) ++ [(q1, .inr (7, zX7))]) _ := hP
  have hD : va_D A (((q, .inr (2, [.ref cq, .null, .null, .int 0, .int 0])) :: []) ++ [(q1, .inr (7, zX7))]) := hD
  refine lv_dup hE.1 hE.2.1 dX2_init_18 rfl ?_
  refine lv_aload_n hE.1 hE.2.1 dX2_init_19 rfl (lv_at hl 1 rfl) ?_
  refine x_ctor (nn := 1) (As := [.ref cq]) (rest := [.ref q1, .ref q]) (k := 8) (z := 116) hE hK hnp hP hD hS hA (k_X7_init l D K cq q1 _) rfl mw_419 mw_292 mw_117 mw_293 rfl (by decide +kernel) ⟨by decide, by decide⟩ hl.1 rfl (Nat.le_of_ble_eq_true rfl) rfl rfl (Nat.le_of_ble_eq_true rfl) (Nat.le_of_ble_eq_true rfl) dX2_init_20 (fun a1 H locs ha1 hPn hDn hSn => ?_)
  subst ha1
  have hS := hSn
  have hP : va_P D xcl ((q, .inr (2, [.ref cq, .null, .null, .int 0, .int 0])) :: bX7 K cq a1) _ := hPn
  have hD : va_D A ((q, .inr (2, [.ref cq, .null, .null, .int 0, .int 0])) :: bX7 K cq a1) := hDn
  refine x_putF (fs' := [.ref cq, .ref (a1 0), .null, .int 0, .int 0]) hE hinn hK hP hD hS rfl hin2 tyX2 tyX2_ok nmX2 1 (by decide) mw_421 rfl rfl rfl rfl (Nat.le_of_ble_eq_true rfl) rfl dX2_init_23 (fun H locs hP hD hS => ?_)
  exact kE (fun j => if j < 1 then q else a1 (j - 1)) 26 _ _ _ 8 116 (Nat.le_of_ble_eq_true rfl) (Nat.le_of_ble_eq_true rfl) rfl hP hD hS dX2_init_26

def bX5 (K : Nat → ClassId) (a : Nat → Nat) : va_W := [((a 0), .inr (5, [.ref (a 1), .int 0, .int (-1)])), ((a 1), .inl (K 1, 60, .inr (.inl (fun _ => 0))))]
theorem dX5_init_0 : decode cX5_init 0 = .ok (.aload_n 0, 1) := by decide +kernel
theorem dX5_init_1 : decode cX5_init 1 = .ok (.invokespecial 3, 3) := by decide +kernel
theorem dX5_init_4 : decode cX5_init 4 = .ok (.aload_n 0, 1) := by decide +kernel
theorem dX5_init_5 : decode cX5_init 5 = .ok (.bipush 60, 2) := by decide +kernel
theorem dX5_init_7 : decode cX5_init 7 = .ok (.newarray .long, 2) := by decide +kernel
theorem dX5_init_9 : decode cX5_init 9 = .ok (.putfield 9, 3) := by decide +kernel
theorem dX5_init_12 : decode cX5_init 12 = .ok (.aload_n 0, 1) := by decide +kernel
theorem dX5_init_13 : decode cX5_init 13 = .ok (.iconst (-1), 1) := by decide +kernel
theorem dX5_init_14 : decode cX5_init 14 = .ok (.putfield 15, 3) := by decide +kernel
theorem dX5_init_17 : decode cX5_init 17 = .ok (.return_, 1) := by decide +kernel
set_option maxHeartbeats 4000000 in
set_option maxRecDepth 100000 in
theorem k_X5_init (l : Launch) (D : va_G) (K : Nat → ClassId) (q sz : Nat) : Met l yX5_init (wM yX5_init cX5_init 1 none) (rmC 1 1 60) (va_Pc [.ref q] (cPre D K q sz (.inr (5, zX5)))) (va_Qv (fun a : Nat → Nat => a 0 = q) (cB D (va_A [(q, (.inr (5, zX5)))] sz) (bX5 K)) (va_A [(q, (.inr (5, zX5)))] sz)) 1 60 (va_A [(q, (.inr (5, zX5)))] sz) := by
  refine x_cmet (by decide) rfl (Nat.le_of_ble_eq_true rfl) ?_
  intro p e s m below meth c ls A hE hr hlo hinn hP hD hS hA hK hnp hl kE
  have hE : CallFix p m c cX5_init 1 s _ tbG "TaleCourt$Row" := hE
  have hl : lv_has ls 1 [(0, .ref q)] := hl
  refine lv_aload_n hE.1 hE.2.1 dX5_init_0 rfl (lv_at hl 0 rfl) ?_
  refine x_oinit (a := q) hE mw_444 mw_138 mw_139 hl.1 dX5_init_1 (Nat.le_of_ble_eq_true rfl) (Nat.le_of_ble_eq_true rfl) ?_
  refine lv_aload_n hE.1 hE.2.1 dX5_init_4 rfl (lv_at hl 0 rfl) ?_
  refine lv_bipush (v := 60) hE.1 hE.2.1 dX5_init_5 (by decide) ?_
  refine x_newa (atype := .long) (ty := .long) (a0 := (60, .inr (.inl (fun _ => 0)))) (N' := 60) (k := 1) (z := 60) hE mw_411 rfl hK 1 rfl hP hD hS hA (fun _ => rfl) (by decide) (by decide) (Nat.le_of_ble_eq_true rfl) rfl rfl (Nat.le_of_ble_eq_true rfl) (Nat.le_of_ble_eq_true rfl) dX5_init_7 (fun q1 H hP hD hS => ?_)
  have hP : va_P D xcl ((q, .inr (5, [.null, .int 0, .int 0])) :: [(q1, .inl (K 1, 60, .inr (.inl (fun _ => 0))))]) _ := hP
  have hD : va_D A ((q, .inr (5, [.null, .int 0, .int 0])) :: [(q1, .inl (K 1, 60, .inr (.inl (fun _ => 0))))]) := hD
  refine x_putF (fs' := [.ref q1, .int 0, .int 0]) hE hinn hK hP hD hS rfl hin5 tyX5 tyX5_ok nmX5 0 (by decide) mw_445 rfl rfl rfl rfl (Nat.le_of_ble_eq_true rfl) rfl dX5_init_9 (fun H locs hP hD hS => ?_)
  refine lv_aload_n hE.1 hE.2.1 dX5_init_12 rfl (lv_at hl 0 rfl) ?_
  refine lv_iconst (v := (-1)) hE.1 hE.2.1 dX5_init_13 (by decide) ?_
  refine x_putN (fs' := [.ref q1, .int 0, .int (-1)]) hE hK hP hD hS rfl hin5 tyX5 tyX5_ok nmX5 2 (by decide) mw_449 rfl rfl rfl (Nat.le_of_ble_eq_true rfl) rfl dX5_init_14 (fun H locs hP hD hS => ?_)
  exact kE (fun j => if j < 1 then q else q1) 17 _ _ _ 1 60 (Nat.le_of_ble_eq_true rfl) (Nat.le_of_ble_eq_true rfl) rfl hP hD hS dX5_init_17

def bX3 (K : Nat → ClassId) (a : Nat → Nat) : va_W := [((a 0), .inr (3, [.ref (a 1), .ref (a 11), .int 0]))] ++ bX1 K (fun j => a (1 + j)) ++ bX7 K (a 1) (fun j => a (11 + j))
theorem dX3_init_0 : decode cX3_init 0 = .ok (.aload_n 0, 1) := by decide +kernel
theorem dX3_init_1 : decode cX3_init 1 = .ok (.invokespecial 1, 3) := by decide +kernel
theorem dX3_init_4 : decode cX3_init 4 = .ok (.aload_n 0, 1) := by decide +kernel
theorem dX3_init_5 : decode cX3_init 5 = .ok (.new 7, 3) := by decide +kernel
theorem dX3_init_8 : decode cX3_init 8 = .ok (.dup, 1) := by decide +kernel
theorem dX3_init_9 : decode cX3_init 9 = .ok (.invokespecial 9, 3) := by decide +kernel
theorem dX3_init_12 : decode cX3_init 12 = .ok (.putfield 10, 3) := by decide +kernel
theorem dX3_init_15 : decode cX3_init 15 = .ok (.aload_n 0, 1) := by decide +kernel
theorem dX3_init_16 : decode cX3_init 16 = .ok (.new 16, 3) := by decide +kernel
theorem dX3_init_19 : decode cX3_init 19 = .ok (.dup, 1) := by decide +kernel
theorem dX3_init_20 : decode cX3_init 20 = .ok (.aload_n 0, 1) := by decide +kernel
theorem dX3_init_21 : decode cX3_init 21 = .ok (.getfield 10, 3) := by decide +kernel
theorem dX3_init_24 : decode cX3_init 24 = .ok (.invokespecial 18, 3) := by decide +kernel
theorem dX3_init_27 : decode cX3_init 27 = .ok (.putfield 21, 3) := by decide +kernel
theorem dX3_init_30 : decode cX3_init 30 = .ok (.return_, 1) := by decide +kernel
set_option maxHeartbeats 4000000 in
set_option maxRecDepth 100000 in
theorem k_X3_init (l : Launch) (D : va_G) (K : Nat → ClassId) (q sz : Nat) : Met l yX3_init (wM yX3_init cX3_init 1 none) (rmC 2 18 209) (va_Pc [.ref q] (cPre D K q sz (.inr (3, zX3)))) (va_Qv (fun a : Nat → Nat => a 0 = q) (cB D (va_A [(q, (.inr (3, zX3)))] sz) (bX3 K)) (va_A [(q, (.inr (3, zX3)))] sz)) 18 209 (va_A [(q, (.inr (3, zX3)))] sz) := by
  refine x_cmet (by decide) rfl (Nat.le_of_ble_eq_true rfl) ?_
  intro p e s m below meth c ls A hE hr hlo hinn hP hD hS hA hK hnp hl kE
  have hE : CallFix p m c cX3_init 1 s _ tbG "TaleCourt$Image" := hE
  have hl : lv_has ls 1 [(0, .ref q)] := hl
  refine lv_aload_n hE.1 hE.2.1 dX3_init_0 rfl (lv_at hl 0 rfl) ?_
  refine x_oinit (a := q) hE mw_463 mw_138 mw_139 hl.1 dX3_init_1 (Nat.le_of_ble_eq_true rfl) (Nat.le_of_ble_eq_true rfl) ?_
  refine lv_aload_n hE.1 hE.2.1 dX3_init_4 rfl (lv_at hl 0 rfl) ?_
  refine x_newo (ci := 1) (fs := zX1) (k := 1) (z := 20) hE hin1 tyX1 tyX1_ok mw_464 mw_173 mw_116 hK hP hD hS hA rfl zX1_ok rfl rfl (Nat.le_of_ble_eq_true rfl) (Nat.le_of_ble_eq_true rfl) dX3_init_5 (fun q1 H hP hD hS => ?_)
  have hP : va_P D xcl (((q, .inr (3, [.null, .null, .int 0])) :: []) ++ [(q1, .inr (1, zX1))]) _ := hP
  have hD : va_D A (((q, .inr (3, [.null, .null, .int 0])) :: []) ++ [(q1, .inr (1, zX1))]) := hD
  refine lv_dup hE.1 hE.2.1 dX3_init_8 rfl ?_
  refine x_ctorN (nn := 0) (As := []) (rest := [.ref q1, .ref q]) (k := 10) (z := 93) hE hK hnp hP hD hS hA (k_X1_init l D K q1 _) rfl hnp.2.2.2.2.2.1 mw_175 mw_116 mw_176 rfl (by decide +kernel) ⟨by decide, by decide⟩ hl.1 rfl (Nat.le_of_ble_eq_true rfl) rfl rfl (Nat.le_of_ble_eq_true rfl) (Nat.le_of_ble_eq_true rfl) dX3_init_9 (fun a1 H locs ha1 hPn hDn hSn => ?_)
  subst ha1
  have hS := hSn
  have hP : va_P D xcl ((q, .inr (3, [.null, .null, .int 0])) :: bX1 K a1) _ := hPn
  have hD : va_D A ((q, .inr (3, [.null, .null, .int 0])) :: bX1 K a1) := hDn
  refine x_putF (fs' := [.ref (a1 0), .null, .int 0]) hE hinn hK hP hD hS rfl hin3 tyX3 tyX3_ok nmX3 0 (by decide) mw_468 rfl rfl rfl rfl (Nat.le_of_ble_eq_true rfl) rfl dX3_init_12 (fun H locs hP hD hS => ?_)
  refine lv_aload_n hE.1 hE.2.1 dX3_init_15 rfl (lv_at hl 0 rfl) ?_
  refine x_newo (ci := 7) (fs := zX7) (k := 11) (z := 107) hE hin7 tyX7 tyX7_ok mw_466 mw_290 mw_117 hK hP hD hS hA rfl zX7_ok rfl rfl (Nat.le_of_ble_eq_true rfl) (Nat.le_of_ble_eq_true rfl) dX3_init_16 (fun q2 H hP hD hS => ?_)
  have hP : va_P D xcl (((q, .inr (3, [.ref (a1 0), .null, .int 0])) :: bX1 K a1) ++ [(q2, .inr (7, zX7))]) _ := hP
  have hD : va_D A (((q, .inr (3, [.ref (a1 0), .null, .int 0])) :: bX1 K a1) ++ [(q2, .inr (7, zX7))]) := hD
  refine lv_dup hE.1 hE.2.1 dX3_init_19 rfl ?_
  refine lv_aload_n hE.1 hE.2.1 dX3_init_20 rfl (lv_at hl 0 rfl) ?_
  refine x_getN (v := .ref (a1 0)) hE hK hP rfl hin3 0 (by decide) mw_468 rfl dX3_init_21 ?_
  refine x_ctor (nn := 1) (As := [.ref (a1 0)]) (rest := [.ref q2, .ref q]) (k := 18) (z := 209) hE hK hnp hP hD hS hA (k_X7_init l D K (a1 0) q2 _) rfl mw_467 mw_292 mw_117 mw_293 rfl (by decide +kernel) ⟨by decide, by decide⟩ hl.1 rfl (Nat.le_of_ble_eq_true rfl) rfl rfl (Nat.le_of_ble_eq_true rfl) (Nat.le_of_ble_eq_true rfl) dX3_init_24 (fun a2 H locs ha2 hPn hDn hSn => ?_)
  subst ha2
  have hS := hSn
  have hP : va_P D xcl ((q, .inr (3, [.ref (a1 0), .null, .int 0])) :: (bX1 K a1 ++ bX7 K (a1 0) a2)) _ := hPn
  have hD : va_D A ((q, .inr (3, [.ref (a1 0), .null, .int 0])) :: (bX1 K a1 ++ bX7 K (a1 0) a2)) := hDn
  refine x_putF (fs' := [.ref (a1 0), .ref (a2 0), .int 0]) hE hinn hK hP hD hS rfl hin3 tyX3 tyX3_ok nmX3 1 (by decide) mw_470 rfl rfl rfl rfl (Nat.le_of_ble_eq_true rfl) rfl dX3_init_27 (fun H locs hP hD hS => ?_)
  exact kE (fun j => if j < 1 then q else if j < 11 then a1 (j - 1) else a2 (j - 11)) 30 _ _ _ 18 209 (Nat.le_of_ble_eq_true rfl) (Nat.le_of_ble_eq_true rfl) rfl hP hD hS dX3_init_30

