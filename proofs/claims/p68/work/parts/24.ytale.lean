theorem dX9_isCourt_0 : decode cX9_isCourt 0 = .ok (.aload_n 0, 1) := by decide +kernel
theorem dX9_isCourt_1 : decode cX9_isCourt 1 = .ok (.getfield 31, 3) := by decide +kernel
theorem dX9_isCourt_4 : decode cX9_isCourt 4 = .ok (.iconst 0, 1) := by decide +kernel
theorem dX9_isCourt_5 : decode cX9_isCourt 5 = .ok (.iaload, 1) := by decide +kernel
theorem dX9_isCourt_6 : decode cX9_isCourt 6 = .ok (.ifCond .le 7, 3) := by decide +kernel
theorem dX9_isCourt_9 : decode cX9_isCourt 9 = .ok (.iconst 1, 1) := by decide +kernel
theorem dX9_isCourt_10 : decode cX9_isCourt 10 = .ok (.goto 4, 3) := by decide +kernel
theorem dX9_isCourt_13 : decode cX9_isCourt 13 = .ok (.iconst 0, 1) := by decide +kernel
theorem dX9_isCourt_14 : decode cX9_isCourt 14 = .ok (.ireturn, 1) := by decide +kernel
set_option maxHeartbeats 4000000 in
set_option maxRecDepth 100000 in
theorem s_X9_isCourt (l : Launch) (D : va_G) (K : Nat → ClassId) (ad : Nat → Nat) (v ar : sI) (al : sL) (hI : YI v ar) (w_1 : Int) (hw_1 : -2147483648 ≤ w_1 ∧ w_1 ≤ 2147483647) (ew_1 : ar 6 0 = iI w_1) : Met l yX9_isCourt (wM yX9_isCourt cX9_isCourt 1 (some .boolean)) (rmD 0) (va_Pc [.ref (ad 0)] (wPre D K ad (yG ad K) 21 v ar al)) (vp_Si (fun r => ∃ z : Int, ((z = 0 ∧ w_1 ≤ 0) ∨ (z = 1 ∧ 0 < w_1)) ∧ r = iI z)) 0 0 (fun _ => False) := by
  refine s_metP (by decide) (Nat.le_of_ble_eq_true rfl) ?_
  intro p e s m below meth c ls args Q hE hB hl kr
  have hE : CallFix p m c cX9_isCourt 1 s args tbG "TaleCourtModel" := hE
  obtain ⟨hP, hK, hN⟩ := hB
  have hl : lv_has ls 1 [(0, .ref (ad 0))] := hl
  refine lv_aload_n hE.1 hE.2.1 dX9_isCourt_0 rfl (lv_at hl 0 rfl) ?_
  refine x_get (x := .ref (ad 6)) hE hK hP 0 (by decide) (yG_9 rfl) rfl hin9 16 (by decide) mw_1350 rfl dX9_isCourt_1 ?_
  refine lv_iconst (v := iI (0)) hE.1 hE.2.1 dX9_isCourt_4 (by decide) ?_
  refine x_iald (j := iI (0)) hE hK hP 6 (by decide) (yG_10 rfl) (iI_in (n := 5) (by omega)) dX9_isCourt_5 ?_
  refine x_top (y := iI (w_1)) (by rw [show (iI (0)).toNatClampNeg = 0 from by decide]; exact ew_1) ?_
  refine s_if_le (a := w_1) (tgt := 13) hE.1 hE.2.1 (by omega) dX9_isCourt_6 (by decide) (fun c2 => ?_) (fun c2 => ?_)
  · skip
    refine lv_iconst (v := iI (0)) hE.1 hE.2.1 dX9_isCourt_13 (by decide) ?_
    exact kr _ _ _ (nar01 (by omega)) ⟨0, by omega, rfl⟩ dX9_isCourt_14
  · skip
    refine lv_iconst (v := iI (1)) hE.1 hE.2.1 dX9_isCourt_9 (by decide) ?_
    refine lv_goto (tgt := 14) hE.1 hE.2.1 dX9_isCourt_10 (by decide) ?_
    exact kr _ _ _ (nar01 (by omega)) ⟨1, by omega, rfl⟩ dX9_isCourt_14

theorem dX9_told_0 : decode cX9_told 0 = .ok (.aload_n 0, 1) := by decide +kernel
theorem dX9_told_1 : decode cX9_told 1 = .ok (.iconst 0, 1) := by decide +kernel
theorem dX9_told_2 : decode cX9_told 2 = .ok (.putfield 81, 3) := by decide +kernel
theorem dX9_told_5 : decode cX9_told 5 = .ok (.aload_n 0, 1) := by decide +kernel
theorem dX9_told_6 : decode cX9_told 6 = .ok (.invokevirtual 301, 3) := by decide +kernel
theorem dX9_told_9 : decode cX9_told 9 = .ok (.ifCond .ne 8, 3) := by decide +kernel
theorem dX9_told_12 : decode cX9_told 12 = .ok (.bipush (-2), 2) := by decide +kernel
theorem dX9_told_14 : decode cX9_told 14 = .ok (.goto 31, 3) := by decide +kernel
theorem dX9_told_17 : decode cX9_told 17 = .ok (.iload_n 1, 1) := by decide +kernel
theorem dX9_told_18 : decode cX9_told 18 = .ok (.i2l, 1) := by decide +kernel
theorem dX9_told_19 : decode cX9_told 19 = .ok (.lconst 0, 1) := by decide +kernel
theorem dX9_told_20 : decode cX9_told 20 = .ok (.aload_n 0, 1) := by decide +kernel
theorem dX9_told_21 : decode cX9_told 21 = .ok (.getfield 34, 3) := by decide +kernel
theorem dX9_told_24 : decode cX9_told 24 = .ok (.iconst 5, 1) := by decide +kernel
theorem dX9_told_25 : decode cX9_told 25 = .ok (.iaload, 1) := by decide +kernel
theorem dX9_told_26 : decode cX9_told 26 = .ok (.iconst 1, 1) := by decide +kernel
theorem dX9_told_27 : decode cX9_told 27 = .ok (.isub, 1) := by decide +kernel
theorem dX9_told_28 : decode cX9_told 28 = .ok (.i2l, 1) := by decide +kernel
theorem dX9_told_29 : decode cX9_told 29 = .ok (.invokestatic 86, 3) := by decide +kernel
theorem dX9_told_32 : decode cX9_told 32 = .ok (.ifCond .eq 12, 3) := by decide +kernel
theorem dX9_told_35 : decode cX9_told 35 = .ok (.aload_n 0, 1) := by decide +kernel
theorem dX9_told_36 : decode cX9_told 36 = .ok (.getfield 43, 3) := by decide +kernel
theorem dX9_told_39 : decode cX9_told 39 = .ok (.iload_n 1, 1) := by decide +kernel
theorem dX9_told_40 : decode cX9_told 40 = .ok (.iaload, 1) := by decide +kernel
theorem dX9_told_41 : decode cX9_told 41 = .ok (.goto 4, 3) := by decide +kernel
theorem dX9_told_44 : decode cX9_told 44 = .ok (.iconst (-1), 1) := by decide +kernel
theorem dX9_told_45 : decode cX9_told 45 = .ok (.ireturn, 1) := by decide +kernel
set_option maxHeartbeats 4000000 in
set_option maxRecDepth 100000 in
theorem s_X9_told (l : Launch) (D : va_G) (K : Nat → ClassId) (ad : Nat → Nat) (v ar : sI) (al : sL) (hI : YI v ar) (z_1 : Int) (hz_1 : -2147483648 ≤ z_1 ∧ z_1 ≤ 2147483647) : Met l yX9_told (wM yX9_told cX9_told 2 (some .int)) (rmD 1) (va_Pc [.ref (ad 0), .int (iI (z_1))] (wPre D K ad (yG ad K) 21 v ar al)) (va_Qi (fun (r : Int32) (u : sT) => (∃ z : Int, (-2147483648 ≤ z ∧ z ≤ 2147483647) ∧ r = iI z) ∧ YI u.1 u.2.1 ∧ (∀ i j : Nat, (i, j) ∉ ([(0, 0)] : List (Nat × Nat)) → u.1 i j = v i j) ∧ (∀ i : Nat, i ∉ ([] : List Nat) → u.2.1 i = ar i) ∧ (∀ i : Nat, i ∉ ([] : List Nat) → u.2.2 i = al i)) (wB D ad (yG ad K) 21) (inW ad 21)) 0 0 (inW ad 21) := by
  refine s_metI (by decide) (Nat.le_of_ble_eq_true rfl) ?_
  intro p e s m below meth c ls args Q hE hB hl kr
  have hE : CallFix p m c cX9_told 2 s args tbG "TaleCourtModel" := hE
  obtain ⟨hP, hK, hN⟩ := hB
  have hS : va_S (inW ad 21) s.heap s.heap [] := va_S.rf
  have hl : lv_has ls 2 [(0, .ref (ad 0)), (1, .int (iI (z_1)))] := hl
  obtain ⟨z1, hz1, ez1⟩ := iI_of (ar 6 0)
  obtain ⟨z2, hz2, ez2⟩ := YI_h2 hI 2 (by decide)
  obtain ⟨z3, hz3, ez3⟩ := YI_h5 hI 5 (by decide)
  obtain ⟨z4, hz4, ez4⟩ := YI_h0 hI 0 (by decide)
  have ht0 := YI_t0 hI ez1 (by omega) ez2 (by omega) ez3 (by omega) ez4 (by omega)
  refine lv_aload_n hE.1 hE.2.1 dX9_told_0 rfl (lv_at hl 0 rfl) ?_
  refine lv_iconst (v := iI (0)) hE.1 hE.2.1 dX9_told_1 (by decide) ?_
  refine x_put (x := iI (0)) hE hK hN hP hS 0 (by decide) (yG_9 rfl) rfl hin9 tyX9 tyX9_ok nmX9 0 (by decide) mw_1334 rfl rfl rfl (Nat.le_of_ble_eq_true rfl) (yG_9 rfl) dX9_told_2 (fun v5 H locs hv5 hP hS => ?_)
  have hI := YI_putN hI hv5 (by decide)
  refine lv_aload_n hE.1 hE.2.1 dX9_told_5 rfl (lv_at hl 0 rfl) ?_
  refine x_vp (nn := 0) (As := []) (rest := []) hE (s_X9_isCourt l D K ad v5 ar al hI (z1) (by omega) ez1 ) wPre_blind (wPre_now hK hN hP) (x_recv hK hP 0 (by decide) (yG_9 rfl) rfl) rfl mw_1718 mw_1720 mw_79 mw_123 mw_1721 (by decide +kernel) ⟨by decide, by decide⟩ hl.1 rfl (Nat.le_of_ble_eq_true rfl) ⟨Nat.zero_le _, Nat.zero_le _⟩ dX9_told_6 (fun r6 hr6 => ?_)
  obtain ⟨z6, hz6, rfl⟩ := hr6
  refine s_if_ne (a := z6) (tgt := 17) hE.1 hE.2.1 (by omega) dX9_told_9 (by decide) (fun c7 => ?_) (fun c7 => ?_)
  · skip
    refine lv_iload_n hE.1 hE.2.1 dX9_told_17 rfl (lv_at hl 1 rfl) ?_
    refine lv_i2l (v := lI (z_1)) hE.1 hE.2.1 dX9_told_18 (iI_i2l (by omega)) ?_
    refine lv_lconst (v := lI (0)) hE.1 hE.2.1 dX9_told_19 (by decide) ?_
    refine lv_aload_n hE.1 hE.2.1 dX9_told_20 rfl (lv_at hl 0 rfl) ?_
    refine x_get (x := .ref (ad 7)) hE hK hP 0 (by decide) (yG_9 rfl) rfl hin9 17 (by decide) mw_1351 rfl dX9_told_21 ?_
    refine lv_iconst (v := iI (5)) hE.1 hE.2.1 dX9_told_24 (by decide) ?_
    refine x_iald (j := iI (5)) hE hK hP 7 (by decide) (yG_10 rfl) (iI_in (n := 30) (by omega)) dX9_told_25 ?_
    refine x_top (y := iI (z3)) (by rw [show (iI (5)).toNatClampNeg = 5 from by decide]; exact ez3) ?_
    refine lv_iconst (v := iI (1)) hE.1 hE.2.1 dX9_told_26 (by decide) ?_
    refine lv_isub hE.1 hE.2.1 dX9_told_27 ?_
    refine x_top (y := iI (z3 - 1)) ((iI_sub (z3) (1)).trans (congrArg iI (by omega))) ?_
    refine lv_i2l (v := lI (z3 - 1)) hE.1 hE.2.1 dX9_told_28 (iI_i2l (by omega)) ?_
    refine x_sp (nn := 3) (As := [.long (lI (z_1)), .long (lI (0)), .long (lI (z3 - 1))]) (rest := []) hE (s_X9_in l (z_1) (by omega) (0) (by omega) (z3 - 1) (by omega)) tt_blind (fun _ _ _ => trivial) rfl mw_1494 mw_1495 mw_123 mw_1496 (by decide +kernel) ⟨by decide, by decide⟩ hl.1 rfl (Nat.le_of_ble_eq_true rfl) ⟨Nat.zero_le _, Nat.zero_le _⟩ dX9_told_29 (fun r9 hr9 => ?_)
    obtain ⟨z9, hz9, rfl⟩ := hr9
    refine s_if_eq (a := z9) (tgt := 44) hE.1 hE.2.1 (by omega) dX9_told_32 (by decide) (fun c10 => ?_) (fun c10 => ?_)
    · skip
      refine lv_iconst (v := iI (-1)) hE.1 hE.2.1 dX9_told_44 (by decide) ?_
      exact kr _ v5 ar al _ _ _ _ rfl ⟨⟨-1, by omega, rfl⟩, hI, fun i j h => (up_oth hv5 (fun q => h (by rcases q with ⟨rfl, rfl⟩; decide))), fun i h => rfl, fun i h => rfl⟩ hP hS dX9_told_45
    · skip
      refine lv_aload_n hE.1 hE.2.1 dX9_told_35 rfl (lv_at hl 0 rfl) ?_
      refine x_get (x := .ref (ad 10)) hE hK hP 0 (by decide) (yG_9 rfl) rfl hin9 20 (by decide) mw_1354 rfl dX9_told_36 ?_
      refine lv_iload_n hE.1 hE.2.1 dX9_told_39 rfl (lv_at hl 1 rfl) ?_
      refine x_iald (j := iI (z_1)) hE hK hP 10 (by decide) (yG_10 rfl) (iI_in (n := 90) (by omega)) dX9_told_40 ?_
      obtain ⟨z12, hz12, ez12⟩ := YI_a10 hI ((iI (z_1)).toNatClampNeg)
      refine x_top ez12 ?_
      refine lv_goto (tgt := 45) hE.1 hE.2.1 dX9_told_41 (by decide) ?_
      exact kr _ v5 ar al _ _ _ _ rfl ⟨⟨z12, by omega, rfl⟩, hI, fun i j h => (up_oth hv5 (fun q => h (by rcases q with ⟨rfl, rfl⟩; decide))), fun i h => rfl, fun i h => rfl⟩ hP hS dX9_told_45
  · skip
    refine lv_bipush (v := iI (-2)) hE.1 hE.2.1 dX9_told_12 (by decide) ?_
    refine lv_goto (tgt := 45) hE.1 hE.2.1 dX9_told_14 (by decide) ?_
    exact kr _ v5 ar al _ _ _ _ rfl ⟨⟨-2, by omega, rfl⟩, hI, fun i j h => (up_oth hv5 (fun q => h (by rcases q with ⟨rfl, rfl⟩; decide))), fun i h => rfl, fun i h => rfl⟩ hP hS dX9_told_45

theorem dX9_length_0 : decode cX9_length 0 = .ok (.aload_n 0, 1) := by decide +kernel
theorem dX9_length_1 : decode cX9_length 1 = .ok (.iconst 0, 1) := by decide +kernel
theorem dX9_length_2 : decode cX9_length 2 = .ok (.putfield 81, 3) := by decide +kernel
theorem dX9_length_5 : decode cX9_length 5 = .ok (.aload_n 0, 1) := by decide +kernel
theorem dX9_length_6 : decode cX9_length 6 = .ok (.invokevirtual 301, 3) := by decide +kernel
theorem dX9_length_9 : decode cX9_length 9 = .ok (.ifCond .eq 12, 3) := by decide +kernel
theorem dX9_length_12 : decode cX9_length 12 = .ok (.aload_n 0, 1) := by decide +kernel
theorem dX9_length_13 : decode cX9_length 13 = .ok (.getfield 34, 3) := by decide +kernel
theorem dX9_length_16 : decode cX9_length 16 = .ok (.iconst 5, 1) := by decide +kernel
theorem dX9_length_17 : decode cX9_length 17 = .ok (.iaload, 1) := by decide +kernel
theorem dX9_length_18 : decode cX9_length 18 = .ok (.goto 5, 3) := by decide +kernel
theorem dX9_length_21 : decode cX9_length 21 = .ok (.bipush (-2), 2) := by decide +kernel
theorem dX9_length_23 : decode cX9_length 23 = .ok (.ireturn, 1) := by decide +kernel
set_option maxHeartbeats 4000000 in
set_option maxRecDepth 100000 in
theorem s_X9_length (l : Launch) (D : va_G) (K : Nat → ClassId) (ad : Nat → Nat) (v ar : sI) (al : sL) (hI : YI v ar) : Met l yX9_length (wM yX9_length cX9_length 1 (some .int)) (rmD 1) (va_Pc [.ref (ad 0)] (wPre D K ad (yG ad K) 21 v ar al)) (va_Qi (fun (r : Int32) (u : sT) => (∃ z : Int, (-2147483648 ≤ z ∧ z ≤ 2147483647) ∧ r = iI z) ∧ YI u.1 u.2.1 ∧ (∀ i j : Nat, (i, j) ∉ ([(0, 0)] : List (Nat × Nat)) → u.1 i j = v i j) ∧ (∀ i : Nat, i ∉ ([] : List Nat) → u.2.1 i = ar i) ∧ (∀ i : Nat, i ∉ ([] : List Nat) → u.2.2 i = al i)) (wB D ad (yG ad K) 21) (inW ad 21)) 0 0 (inW ad 21) := by
  refine s_metI (by decide) (Nat.le_of_ble_eq_true rfl) ?_
  intro p e s m below meth c ls args Q hE hB hl kr
  have hE : CallFix p m c cX9_length 1 s args tbG "TaleCourtModel" := hE
  obtain ⟨hP, hK, hN⟩ := hB
  have hS : va_S (inW ad 21) s.heap s.heap [] := va_S.rf
  have hl : lv_has ls 1 [(0, .ref (ad 0))] := hl
  obtain ⟨z1, hz1, ez1⟩ := iI_of (ar 6 0)
  obtain ⟨z2, hz2, ez2⟩ := YI_h2 hI 2 (by decide)
  obtain ⟨z3, hz3, ez3⟩ := YI_h5 hI 5 (by decide)
  obtain ⟨z4, hz4, ez4⟩ := YI_h0 hI 0 (by decide)
  have ht0 := YI_t0 hI ez1 (by omega) ez2 (by omega) ez3 (by omega) ez4 (by omega)
  refine lv_aload_n hE.1 hE.2.1 dX9_length_0 rfl (lv_at hl 0 rfl) ?_
  refine lv_iconst (v := iI (0)) hE.1 hE.2.1 dX9_length_1 (by decide) ?_
  refine x_put (x := iI (0)) hE hK hN hP hS 0 (by decide) (yG_9 rfl) rfl hin9 tyX9 tyX9_ok nmX9 0 (by decide) mw_1334 rfl rfl rfl (Nat.le_of_ble_eq_true rfl) (yG_9 rfl) dX9_length_2 (fun v5 H locs hv5 hP hS => ?_)
  have hI := YI_putN hI hv5 (by decide)
  refine lv_aload_n hE.1 hE.2.1 dX9_length_5 rfl (lv_at hl 0 rfl) ?_
  refine x_vp (nn := 0) (As := []) (rest := []) hE (s_X9_isCourt l D K ad v5 ar al hI (z1) (by omega) ez1 ) wPre_blind (wPre_now hK hN hP) (x_recv hK hP 0 (by decide) (yG_9 rfl) rfl) rfl mw_1718 mw_1720 mw_79 mw_123 mw_1721 (by decide +kernel) ⟨by decide, by decide⟩ hl.1 rfl (Nat.le_of_ble_eq_true rfl) ⟨Nat.zero_le _, Nat.zero_le _⟩ dX9_length_6 (fun r6 hr6 => ?_)
  obtain ⟨z6, hz6, rfl⟩ := hr6
  refine s_if_eq (a := z6) (tgt := 21) hE.1 hE.2.1 (by omega) dX9_length_9 (by decide) (fun c7 => ?_) (fun c7 => ?_)
  · skip
    refine lv_bipush (v := iI (-2)) hE.1 hE.2.1 dX9_length_21 (by decide) ?_
    exact kr _ v5 ar al _ _ _ _ rfl ⟨⟨-2, by omega, rfl⟩, hI, fun i j h => (up_oth hv5 (fun q => h (by rcases q with ⟨rfl, rfl⟩; decide))), fun i h => rfl, fun i h => rfl⟩ hP hS dX9_length_23
  · skip
    refine lv_aload_n hE.1 hE.2.1 dX9_length_12 rfl (lv_at hl 0 rfl) ?_
    refine x_get (x := .ref (ad 7)) hE hK hP 0 (by decide) (yG_9 rfl) rfl hin9 17 (by decide) mw_1351 rfl dX9_length_13 ?_
    refine lv_iconst (v := iI (5)) hE.1 hE.2.1 dX9_length_16 (by decide) ?_
    refine x_iald (j := iI (5)) hE hK hP 7 (by decide) (yG_10 rfl) (iI_in (n := 30) (by omega)) dX9_length_17 ?_
    refine x_top (y := iI (z3)) (by rw [show (iI (5)).toNatClampNeg = 5 from by decide]; exact ez3) ?_
    refine lv_goto (tgt := 23) hE.1 hE.2.1 dX9_length_18 (by decide) ?_
    exact kr _ v5 ar al _ _ _ _ rfl ⟨⟨z3, by omega, rfl⟩, hI, fun i j h => (up_oth hv5 (fun q => h (by rcases q with ⟨rfl, rfl⟩; decide))), fun i h => rfl, fun i h => rfl⟩ hP hS dX9_length_23

theorem dX9_whose_0 : decode cX9_whose 0 = .ok (.aload_n 0, 1) := by decide +kernel
theorem dX9_whose_1 : decode cX9_whose 1 = .ok (.iconst 0, 1) := by decide +kernel
theorem dX9_whose_2 : decode cX9_whose 2 = .ok (.putfield 81, 3) := by decide +kernel
theorem dX9_whose_5 : decode cX9_whose 5 = .ok (.aload_n 0, 1) := by decide +kernel
theorem dX9_whose_6 : decode cX9_whose 6 = .ok (.invokevirtual 301, 3) := by decide +kernel
theorem dX9_whose_9 : decode cX9_whose 9 = .ok (.ifCond .eq 19, 3) := by decide +kernel
theorem dX9_whose_12 : decode cX9_whose 12 = .ok (.aload_n 0, 1) := by decide +kernel
theorem dX9_whose_13 : decode cX9_whose 13 = .ok (.getfield 34, 3) := by decide +kernel
theorem dX9_whose_16 : decode cX9_whose 16 = .ok (.iconst 5, 1) := by decide +kernel
theorem dX9_whose_17 : decode cX9_whose 17 = .ok (.iaload, 1) := by decide +kernel
theorem dX9_whose_18 : decode cX9_whose 18 = .ok (.aload_n 0, 1) := by decide +kernel
theorem dX9_whose_19 : decode cX9_whose 19 = .ok (.getfield 34, 3) := by decide +kernel
theorem dX9_whose_22 : decode cX9_whose 22 = .ok (.iconst 0, 1) := by decide +kernel
theorem dX9_whose_23 : decode cX9_whose 23 = .ok (.iaload, 1) := by decide +kernel
theorem dX9_whose_24 : decode cX9_whose 24 = .ok (.irem, 1) := by decide +kernel
theorem dX9_whose_25 : decode cX9_whose 25 = .ok (.goto 5, 3) := by decide +kernel
theorem dX9_whose_28 : decode cX9_whose 28 = .ok (.bipush (-2), 2) := by decide +kernel
theorem dX9_whose_30 : decode cX9_whose 30 = .ok (.ireturn, 1) := by decide +kernel
set_option maxHeartbeats 4000000 in
set_option maxRecDepth 100000 in
theorem s_X9_whose (l : Launch) (D : va_G) (K : Nat → ClassId) (ad : Nat → Nat) (v ar : sI) (al : sL) (hI : YI v ar) : Met l yX9_whose (wM yX9_whose cX9_whose 1 (some .int)) (rmD 1) (va_Pc [.ref (ad 0)] (wPre D K ad (yG ad K) 21 v ar al)) (va_Qi (fun (r : Int32) (u : sT) => (∃ z : Int, (-2147483648 ≤ z ∧ z ≤ 2147483647) ∧ r = iI z) ∧ YI u.1 u.2.1 ∧ (∀ i j : Nat, (i, j) ∉ ([(0, 0)] : List (Nat × Nat)) → u.1 i j = v i j) ∧ (∀ i : Nat, i ∉ ([] : List Nat) → u.2.1 i = ar i) ∧ (∀ i : Nat, i ∉ ([] : List Nat) → u.2.2 i = al i)) (wB D ad (yG ad K) 21) (inW ad 21)) 0 0 (inW ad 21) := by
  refine s_metI (by decide) (Nat.le_of_ble_eq_true rfl) ?_
  intro p e s m below meth c ls args Q hE hB hl kr
  have hE : CallFix p m c cX9_whose 1 s args tbG "TaleCourtModel" := hE
  obtain ⟨hP, hK, hN⟩ := hB
  have hS : va_S (inW ad 21) s.heap s.heap [] := va_S.rf
  have hl : lv_has ls 1 [(0, .ref (ad 0))] := hl
  obtain ⟨z1, hz1, ez1⟩ := iI_of (ar 6 0)
  obtain ⟨z2, hz2, ez2⟩ := YI_h2 hI 2 (by decide)
  obtain ⟨z3, hz3, ez3⟩ := YI_h5 hI 5 (by decide)
  obtain ⟨z4, hz4, ez4⟩ := YI_h0 hI 0 (by decide)
  have ht0 := YI_t0 hI ez1 (by omega) ez2 (by omega) ez3 (by omega) ez4 (by omega)
  refine lv_aload_n hE.1 hE.2.1 dX9_whose_0 rfl (lv_at hl 0 rfl) ?_
  refine lv_iconst (v := iI (0)) hE.1 hE.2.1 dX9_whose_1 (by decide) ?_
  refine x_put (x := iI (0)) hE hK hN hP hS 0 (by decide) (yG_9 rfl) rfl hin9 tyX9 tyX9_ok nmX9 0 (by decide) mw_1334 rfl rfl rfl (Nat.le_of_ble_eq_true rfl) (yG_9 rfl) dX9_whose_2 (fun v5 H locs hv5 hP hS => ?_)
  have hI := YI_putN hI hv5 (by decide)
  refine lv_aload_n hE.1 hE.2.1 dX9_whose_5 rfl (lv_at hl 0 rfl) ?_
  refine x_vp (nn := 0) (As := []) (rest := []) hE (s_X9_isCourt l D K ad v5 ar al hI (z1) (by omega) ez1 ) wPre_blind (wPre_now hK hN hP) (x_recv hK hP 0 (by decide) (yG_9 rfl) rfl) rfl mw_1718 mw_1720 mw_79 mw_123 mw_1721 (by decide +kernel) ⟨by decide, by decide⟩ hl.1 rfl (Nat.le_of_ble_eq_true rfl) ⟨Nat.zero_le _, Nat.zero_le _⟩ dX9_whose_6 (fun r6 hr6 => ?_)
  obtain ⟨z6, hz6, rfl⟩ := hr6
  refine s_if_eq (a := z6) (tgt := 28) hE.1 hE.2.1 (by omega) dX9_whose_9 (by decide) (fun c7 => ?_) (fun c7 => ?_)
  · skip
    refine lv_bipush (v := iI (-2)) hE.1 hE.2.1 dX9_whose_28 (by decide) ?_
    exact kr _ v5 ar al _ _ _ _ rfl ⟨⟨-2, by omega, rfl⟩, hI, fun i j h => (up_oth hv5 (fun q => h (by rcases q with ⟨rfl, rfl⟩; decide))), fun i h => rfl, fun i h => rfl⟩ hP hS dX9_whose_30
  · skip
    refine lv_aload_n hE.1 hE.2.1 dX9_whose_12 rfl (lv_at hl 0 rfl) ?_
    refine x_get (x := .ref (ad 7)) hE hK hP 0 (by decide) (yG_9 rfl) rfl hin9 17 (by decide) mw_1351 rfl dX9_whose_13 ?_
    refine lv_iconst (v := iI (5)) hE.1 hE.2.1 dX9_whose_16 (by decide) ?_
    refine x_iald (j := iI (5)) hE hK hP 7 (by decide) (yG_10 rfl) (iI_in (n := 30) (by omega)) dX9_whose_17 ?_
    refine x_top (y := iI (z3)) (by rw [show (iI (5)).toNatClampNeg = 5 from by decide]; exact ez3) ?_
    refine lv_aload_n hE.1 hE.2.1 dX9_whose_18 rfl (lv_at hl 0 rfl) ?_
    refine x_get (x := .ref (ad 7)) hE hK hP 0 (by decide) (yG_9 rfl) rfl hin9 17 (by decide) mw_1351 rfl dX9_whose_19 ?_
    refine lv_iconst (v := iI (0)) hE.1 hE.2.1 dX9_whose_22 (by decide) ?_
    refine x_iald (j := iI (0)) hE hK hP 7 (by decide) (yG_10 rfl) (iI_in (n := 30) (by omega)) dX9_whose_23 ?_
    refine x_top (y := iI (z4)) (by rw [show (iI (0)).toNatClampNeg = 0 from by decide]; exact ez4) ?_
    refine lv_irem hE.1 hE.2.1 dX9_whose_24 (iI_ne0 (by omega) (by omega)) ?_
    obtain ⟨z10, hz10⟩ : ∃ z : Int, z = (z3) % (z4) ∧ 0 ≤ z ∧ z < z4 := ⟨_, rfl, Int.emod_nonneg _ (by omega), Int.emod_lt_of_pos _ (by omega)⟩
    refine x_top (y := iI (z10)) ((iI_rem (by omega) (by omega)).trans (congrArg iI hz10.1.symm)) ?_
    replace hz10 := hz10.2
    refine lv_goto (tgt := 30) hE.1 hE.2.1 dX9_whose_25 (by decide) ?_
    exact kr _ v5 ar al _ _ _ _ rfl ⟨⟨z10, by omega, rfl⟩, hI, fun i j h => (up_oth hv5 (fun q => h (by rcases q with ⟨rfl, rfl⟩; decide))), fun i h => rfl, fun i h => rfl⟩ hP hS dX9_whose_30

theorem dX9_empties_0 : decode cX9_empties 0 = .ok (.aload_n 0, 1) := by decide +kernel
theorem dX9_empties_1 : decode cX9_empties 1 = .ok (.iconst 0, 1) := by decide +kernel
theorem dX9_empties_2 : decode cX9_empties 2 = .ok (.putfield 265, 3) := by decide +kernel
theorem dX9_empties_5 : decode cX9_empties 5 = .ok (.aload_n 0, 1) := by decide +kernel
theorem dX9_empties_6 : decode cX9_empties 6 = .ok (.iconst 0, 1) := by decide +kernel
theorem dX9_empties_7 : decode cX9_empties 7 = .ok (.putfield 268, 3) := by decide +kernel
theorem dX9_empties_10 : decode cX9_empties 10 = .ok (.aload_n 0, 1) := by decide +kernel
theorem dX9_empties_11 : decode cX9_empties 11 = .ok (.iconst (-1), 1) := by decide +kernel
theorem dX9_empties_12 : decode cX9_empties 12 = .ok (.putfield 277, 3) := by decide +kernel
theorem dX9_empties_15 : decode cX9_empties 15 = .ok (.aload_n 0, 1) := by decide +kernel
theorem dX9_empties_16 : decode cX9_empties 16 = .ok (.iconst 0, 1) := by decide +kernel
theorem dX9_empties_17 : decode cX9_empties 17 = .ok (.putfield 271, 3) := by decide +kernel
theorem dX9_empties_20 : decode cX9_empties 20 = .ok (.iconst 0, 1) := by decide +kernel
theorem dX9_empties_21 : decode cX9_empties 21 = .ok (.istore_n 1, 1) := by decide +kernel
theorem dX9_empties_22 : decode cX9_empties 22 = .ok (.iload_n 1, 1) := by decide +kernel
theorem dX9_empties_23 : decode cX9_empties 23 = .ok (.iconst 3, 1) := by decide +kernel
theorem dX9_empties_24 : decode cX9_empties 24 = .ok (.if_icmp .ge 16, 3) := by decide +kernel
theorem dX9_empties_27 : decode cX9_empties 27 = .ok (.aload_n 0, 1) := by decide +kernel
theorem dX9_empties_28 : decode cX9_empties 28 = .ok (.getfield 56, 3) := by decide +kernel
theorem dX9_empties_31 : decode cX9_empties 31 = .ok (.iload_n 1, 1) := by decide +kernel
theorem dX9_empties_32 : decode cX9_empties 32 = .ok (.iconst 0, 1) := by decide +kernel
theorem dX9_empties_33 : decode cX9_empties 33 = .ok (.iastore, 1) := by decide +kernel
theorem dX9_empties_34 : decode cX9_empties 34 = .ok (.iinc 1 1, 3) := by decide +kernel
theorem dX9_empties_37 : decode cX9_empties 37 = .ok (.goto (-15), 3) := by decide +kernel
theorem dX9_empties_40 : decode cX9_empties 40 = .ok (.return_, 1) := by decide +kernel
set_option maxHeartbeats 4000000 in
set_option maxRecDepth 100000 in
theorem s_X9_empties (l : Launch) (D : va_G) (K : Nat → ClassId) (ad : Nat → Nat) (v ar : sI) (al : sL) (hI : YI v ar) : Met l yX9_empties (wM yX9_empties cX9_empties 2 none) (rmD 0) (va_Pc [.ref (ad 0)] (wPre D K ad (yG ad K) 21 v ar al)) (va_Qv (fun u : sT => YI u.1 u.2.1 ∧ (∀ i j : Nat, (i, j) ∉ ([(0, 24), (0, 25), (0, 26), (0, 27)] : List (Nat × Nat)) → u.1 i j = v i j) ∧ (∀ i : Nat, i ∉ ([14] : List Nat) → u.2.1 i = ar i) ∧ (∀ i : Nat, i ∉ ([] : List Nat) → u.2.2 i = al i) ∧ (∃ x_1 x_2 x_3 : Int, (0 ≤ x_1 ∧ x_1 ≤ 0 ∧ 0 ≤ x_2 ∧ x_2 ≤ 0 ∧ -1 ≤ x_3 ∧ x_3 ≤ -1 ∧ (x_1 = 0 ∧ x_2 = 0 ∧ x_3 = -1)) ∧ u.1 0 24 = iI x_1 ∧ u.1 0 25 = iI x_2 ∧ u.1 0 26 = iI x_3)) (wB D ad (yG ad K) 21) (inW ad 21)) 0 0 (inW ad 21) := by
  refine s_metV (by decide) (Nat.le_of_ble_eq_true rfl) ?_
  intro p e s m below meth c ls args Q hE hB hl kr
  have hE : CallFix p m c cX9_empties 2 s args tbG "TaleCourtModel" := hE
  obtain ⟨hP, hK, hN⟩ := hB
  have hS : va_S (inW ad 21) s.heap s.heap [] := va_S.rf
  have hl : lv_has ls 2 [(0, .ref (ad 0))] := hl
  refine lv_aload_n hE.1 hE.2.1 dX9_empties_0 rfl (lv_at hl 0 rfl) ?_
  refine lv_iconst (v := iI (0)) hE.1 hE.2.1 dX9_empties_1 (by decide) ?_
  refine x_put (x := iI (0)) hE hK hN hP hS 0 (by decide) (yG_9 rfl) rfl hin9 tyX9 tyX9_ok nmX9 24 (by decide) mw_1358 rfl rfl rfl (Nat.le_of_ble_eq_true rfl) (yG_9 rfl) dX9_empties_2 (fun v1 H locs hv1 hP hS => ?_)
  have hI := YI_putB (z := 0) hI hv1 0 60 (by omega) (by decide) (by omega)
  refine lv_aload_n hE.1 hE.2.1 dX9_empties_5 rfl (lv_at hl 0 rfl) ?_
  refine lv_iconst (v := iI (0)) hE.1 hE.2.1 dX9_empties_6 (by decide) ?_
  refine x_put (x := iI (0)) hE hK hN hP hS 0 (by decide) (yG_9 rfl) rfl hin9 tyX9 tyX9_ok nmX9 25 (by decide) mw_1359 rfl rfl rfl (Nat.le_of_ble_eq_true rfl) (yG_9 rfl) dX9_empties_7 (fun v2 H locs hv2 hP hS => ?_)
  have hI := YI_putB (z := 0) hI hv2 0 511 (by omega) (by decide) (by omega)
  refine lv_aload_n hE.1 hE.2.1 dX9_empties_10 rfl (lv_at hl 0 rfl) ?_
  refine lv_iconst (v := iI (-1)) hE.1 hE.2.1 dX9_empties_11 (by decide) ?_
  refine x_put (x := iI (-1)) hE hK hN hP hS 0 (by decide) (yG_9 rfl) rfl hin9 tyX9 tyX9_ok nmX9 26 (by decide) mw_1360 rfl rfl rfl (Nat.le_of_ble_eq_true rfl) (yG_9 rfl) dX9_empties_12 (fun v3 H locs hv3 hP hS => ?_)
  have hI := YI_putB (z := -1) hI hv3 (-1) 8 (by omega) (by decide) (by omega)
  refine lv_aload_n hE.1 hE.2.1 dX9_empties_15 rfl (lv_at hl 0 rfl) ?_
  refine lv_iconst (v := iI (0)) hE.1 hE.2.1 dX9_empties_16 (by decide) ?_
  refine x_put (x := iI (0)) hE hK hN hP hS 0 (by decide) (yG_9 rfl) rfl hin9 tyX9 tyX9_ok nmX9 27 (by decide) mw_1361 rfl rfl rfl (Nat.le_of_ble_eq_true rfl) (yG_9 rfl) dX9_empties_17 (fun v4 H locs hv4 hP hS => ?_)
  have hI := YI_putN hI hv4 (by decide)
  refine lv_iconst (v := iI (0)) hE.1 hE.2.1 dX9_empties_20 (by decide) ?_
  refine lv_istore_n (lv' := [(1, .int (iI (0))), (0, .ref (ad 0))]) hE.1 hE.2.1 dX9_empties_21 rfl hl (by decide) rfl (fun ls hl => ?_)
  refine lv_iload_n hE.1 hE.2.1 dX9_empties_22 rfl (lv_at hl 0 rfl) ?_
  refine lv_iconst (v := iI (3)) hE.1 hE.2.1 dX9_empties_23 (by decide) ?_
  refine s_icmp_ge (a := 0) (b := 3) (tgt := 40) hE.1 hE.2.1 (by omega) (by omega) dX9_empties_24 (by decide) (fun c5 => False.elim (by omega)) (fun _ => ?_)
  refine lv_aload_n hE.1 hE.2.1 dX9_empties_27 rfl (lv_at hl 1 rfl) ?_
  refine x_get (x := .ref (ad 14)) hE hK hP 0 (by decide) (yG_9 rfl) rfl hin9 28 (by decide) mw_1362 rfl dX9_empties_28 ?_
  refine lv_iload_n hE.1 hE.2.1 dX9_empties_31 rfl (lv_at hl 0 rfl) ?_
  refine lv_iconst (v := iI (0)) hE.1 hE.2.1 dX9_empties_32 (by decide) ?_
  refine x_iast (j := iI (0)) hE hK hN hP hS 14 (by decide) (fun _ => yG_10 rfl) (iI_in (n := 3) (by omega)) dX9_empties_33 (fun ar6 H locs ha6 hP hS => ?_)
  have hI := YI_ast hI ha6 (by decide)
  refine lv_iinc (v := iI (1)) (lv' := [(1, .int (iI (1))), (0, .ref (ad 0))]) hE.1 hE.2.1 dX9_empties_34 hl (k := 0) rfl ((iI_add (0) (1)).trans (congrArg iI (by omega))) (by decide) rfl (fun ls hl => ?_)
  refine lv_goto (tgt := 22) hE.1 hE.2.1 dX9_empties_37 (by decide) ?_
  refine lv_iload_n hE.1 hE.2.1 dX9_empties_22 rfl (lv_at hl 0 rfl) ?_
  refine lv_iconst (v := iI (3)) hE.1 hE.2.1 dX9_empties_23 (by decide) ?_
  refine s_icmp_ge (a := 1) (b := 3) (tgt := 40) hE.1 hE.2.1 (by omega) (by omega) dX9_empties_24 (by decide) (fun c7 => False.elim (by omega)) (fun _ => ?_)
  refine lv_aload_n hE.1 hE.2.1 dX9_empties_27 rfl (lv_at hl 1 rfl) ?_
  refine x_get (x := .ref (ad 14)) hE hK hP 0 (by decide) (yG_9 rfl) rfl hin9 28 (by decide) mw_1362 rfl dX9_empties_28 ?_
  refine lv_iload_n hE.1 hE.2.1 dX9_empties_31 rfl (lv_at hl 0 rfl) ?_
  refine lv_iconst (v := iI (0)) hE.1 hE.2.1 dX9_empties_32 (by decide) ?_
  refine x_iast (j := iI (1)) hE hK hN hP hS 14 (by decide) (fun _ => yG_10 rfl) (iI_in (n := 3) (by omega)) dX9_empties_33 (fun ar8 H locs ha8 hP hS => ?_)
  have hI := YI_ast hI ha8 (by decide)
  refine lv_iinc (v := iI (2)) (lv' := [(1, .int (iI (2))), (0, .ref (ad 0))]) hE.1 hE.2.1 dX9_empties_34 hl (k := 0) rfl ((iI_add (1) (1)).trans (congrArg iI (by omega))) (by decide) rfl (fun ls hl => ?_)
  refine lv_goto (tgt := 22) hE.1 hE.2.1 dX9_empties_37 (by decide) ?_
  refine lv_iload_n hE.1 hE.2.1 dX9_empties_22 rfl (lv_at hl 0 rfl) ?_
  refine lv_iconst (v := iI (3)) hE.1 hE.2.1 dX9_empties_23 (by decide) ?_
  refine s_icmp_ge (a := 2) (b := 3) (tgt := 40) hE.1 hE.2.1 (by omega) (by omega) dX9_empties_24 (by decide) (fun c9 => False.elim (by omega)) (fun _ => ?_)
  refine lv_aload_n hE.1 hE.2.1 dX9_empties_27 rfl (lv_at hl 1 rfl) ?_
  refine x_get (x := .ref (ad 14)) hE hK hP 0 (by decide) (yG_9 rfl) rfl hin9 28 (by decide) mw_1362 rfl dX9_empties_28 ?_
  refine lv_iload_n hE.1 hE.2.1 dX9_empties_31 rfl (lv_at hl 0 rfl) ?_
  refine lv_iconst (v := iI (0)) hE.1 hE.2.1 dX9_empties_32 (by decide) ?_
  refine x_iast (j := iI (2)) hE hK hN hP hS 14 (by decide) (fun _ => yG_10 rfl) (iI_in (n := 3) (by omega)) dX9_empties_33 (fun ar10 H locs ha10 hP hS => ?_)
  have hI := YI_ast hI ha10 (by decide)
  refine lv_iinc (v := iI (3)) (lv' := [(1, .int (iI (3))), (0, .ref (ad 0))]) hE.1 hE.2.1 dX9_empties_34 hl (k := 0) rfl ((iI_add (2) (1)).trans (congrArg iI (by omega))) (by decide) rfl (fun ls hl => ?_)
  refine lv_goto (tgt := 22) hE.1 hE.2.1 dX9_empties_37 (by decide) ?_
  refine lv_iload_n hE.1 hE.2.1 dX9_empties_22 rfl (lv_at hl 0 rfl) ?_
  refine lv_iconst (v := iI (3)) hE.1 hE.2.1 dX9_empties_23 (by decide) ?_
  refine s_icmp_ge (a := 3) (b := 3) (tgt := 40) hE.1 hE.2.1 (by omega) (by omega) dX9_empties_24 (by decide) (fun _ => ?_) (fun c11 => False.elim (by omega))
  exact kr v4 ar10 al _ _ _ _ ⟨hI, fun i j h => ((up_oth hv4 (fun q => h (by rcases q with ⟨rfl, rfl⟩; decide))).trans ((up_oth hv3 (fun q => h (by rcases q with ⟨rfl, rfl⟩; decide))).trans ((up_oth hv2 (fun q => h (by rcases q with ⟨rfl, rfl⟩; decide))).trans (up_oth hv1 (fun q => h (by rcases q with ⟨rfl, rfl⟩; decide)))))), fun i h => ((upx_ne ha10 i (fun q => h (by rw [q]; decide))).trans ((upx_ne ha8 i (fun q => h (by rw [q]; decide))).trans (upx_ne ha6 i (fun q => h (by rw [q]; decide))))), fun i h => rfl, 0, 0, -1, by omega, ((up_oth hv4 (by decide)).trans ((up_oth hv3 (by decide)).trans ((up_oth hv2 (by decide)).trans (up_eq hv1)))), ((up_oth hv4 (by decide)).trans ((up_oth hv3 (by decide)).trans (up_eq hv2))), ((up_oth hv4 (by decide)).trans (up_eq hv3))⟩ hP hS dX9_empties_40

theorem dX9_pointsOf_0 : decode cX9_pointsOf 0 = .ok (.aload_n 0, 1) := by decide +kernel
theorem dX9_pointsOf_1 : decode cX9_pointsOf 1 = .ok (.iload_n 1, 1) := by decide +kernel
theorem dX9_pointsOf_2 : decode cX9_pointsOf 2 = .ok (.iconst 0, 1) := by decide +kernel
theorem dX9_pointsOf_3 : decode cX9_pointsOf 3 = .ok (.invokevirtual 258, 3) := by decide +kernel
theorem dX9_pointsOf_6 : decode cX9_pointsOf 6 = .ok (.aload_n 0, 1) := by decide +kernel
theorem dX9_pointsOf_7 : decode cX9_pointsOf 7 = .ok (.iload_n 1, 1) := by decide +kernel
theorem dX9_pointsOf_8 : decode cX9_pointsOf 8 = .ok (.iconst 3, 1) := by decide +kernel
theorem dX9_pointsOf_9 : decode cX9_pointsOf 9 = .ok (.invokevirtual 258, 3) := by decide +kernel
theorem dX9_pointsOf_12 : decode cX9_pointsOf 12 = .ok (.iconst 1, 1) := by decide +kernel
theorem dX9_pointsOf_13 : decode cX9_pointsOf 13 = .ok (.if_icmp .ne 7, 3) := by decide +kernel
theorem dX9_pointsOf_16 : decode cX9_pointsOf 16 = .ok (.iconst 3, 1) := by decide +kernel
theorem dX9_pointsOf_17 : decode cX9_pointsOf 17 = .ok (.goto 4, 3) := by decide +kernel
theorem dX9_pointsOf_20 : decode cX9_pointsOf 20 = .ok (.iconst 1, 1) := by decide +kernel
theorem dX9_pointsOf_21 : decode cX9_pointsOf 21 = .ok (.imul, 1) := by decide +kernel
theorem dX9_pointsOf_22 : decode cX9_pointsOf 22 = .ok (.ireturn, 1) := by decide +kernel
set_option maxHeartbeats 4000000 in
set_option maxRecDepth 100000 in
theorem s_X9_pointsOf (l : Launch) (D : va_G) (K : Nat → ClassId) (ad : Nat → Nat) (v ar : sI) (al : sL) (hI : YI v ar) (z_1 : Int) (hz_1 : 0 ≤ z_1 ∧ z_1 ≤ 8) : Met l yX9_pointsOf (wM yX9_pointsOf cX9_pointsOf 2 (some .int)) (rmD 1) (va_Pc [.ref (ad 0), .int (iI (z_1))] (wPre D K ad (yG ad K) 21 v ar al)) (vp_Si (fun r => ∃ z : Int, (-2147483648 ≤ z ∧ z ≤ 2147483647) ∧ r = iI z)) 0 0 (fun _ => False) := by
  refine s_metP (by decide) (Nat.le_of_ble_eq_true rfl) ?_
  intro p e s m below meth c ls args Q hE hB hl kr
  have hE : CallFix p m c cX9_pointsOf 2 s args tbG "TaleCourtModel" := hE
  obtain ⟨hP, hK, hN⟩ := hB
  have hl : lv_has ls 2 [(0, .ref (ad 0)), (1, .int (iI (z_1)))] := hl
  refine lv_aload_n hE.1 hE.2.1 dX9_pointsOf_0 rfl (lv_at hl 0 rfl) ?_
  refine lv_iload_n hE.1 hE.2.1 dX9_pointsOf_1 rfl (lv_at hl 1 rfl) ?_
  refine lv_iconst (v := iI (0)) hE.1 hE.2.1 dX9_pointsOf_2 (by decide) ?_
  refine x_vp (nn := 2) (As := [.int (iI (z_1)), .int (iI (0))]) (rest := []) hE (s_X9_of l D K ad v ar al hI  (z_1) (by omega) (0) (by omega)) wPre_blind (wPre_now hK hN hP) (x_recv hK hP 0 (by decide) (yG_9 rfl) rfl) rfl mw_1654 mw_1656 mw_73 mw_123 mw_1657 (by decide +kernel) ⟨by decide, by decide⟩ hl.1 rfl (Nat.le_of_ble_eq_true rfl) ⟨Nat.zero_le _, Nat.zero_le _⟩ dX9_pointsOf_3 (fun r1 hr1 => ?_)
  obtain ⟨z1, hz1, rfl⟩ := hr1
  refine lv_aload_n hE.1 hE.2.1 dX9_pointsOf_6 rfl (lv_at hl 0 rfl) ?_
  refine lv_iload_n hE.1 hE.2.1 dX9_pointsOf_7 rfl (lv_at hl 1 rfl) ?_
  refine lv_iconst (v := iI (3)) hE.1 hE.2.1 dX9_pointsOf_8 (by decide) ?_
  refine x_vp (nn := 2) (As := [.int (iI (z_1)), .int (iI (3))]) (rest := [.int (iI (z1))]) hE (s_X9_of l D K ad v ar al hI  (z_1) (by omega) (3) (by omega)) wPre_blind (wPre_now hK hN hP) (x_recv hK hP 0 (by decide) (yG_9 rfl) rfl) rfl mw_1654 mw_1656 mw_73 mw_123 mw_1657 (by decide +kernel) ⟨by decide, by decide⟩ hl.1 rfl (Nat.le_of_ble_eq_true rfl) ⟨Nat.zero_le _, Nat.zero_le _⟩ dX9_pointsOf_9 (fun r2 hr2 => ?_)
  obtain ⟨z2, hz2, rfl⟩ := hr2
  refine lv_iconst (v := iI (1)) hE.1 hE.2.1 dX9_pointsOf_12 (by decide) ?_
  refine s_icmp_ne (a := z2) (b := 1) (tgt := 20) hE.1 hE.2.1 (by omega) (by omega) dX9_pointsOf_13 (by decide) (fun c3 => ?_) (fun c3 => ?_)
  · skip
    refine lv_iconst (v := iI (1)) hE.1 hE.2.1 dX9_pointsOf_20 (by decide) ?_
    refine lv_imul hE.1 hE.2.1 dX9_pointsOf_21 ?_
    refine x_top (y := iI (z1)) ((iI_mul (z1) (1)).trans (congrArg iI (by omega))) ?_
    exact kr _ _ _ rfl ⟨z1, by omega, rfl⟩ dX9_pointsOf_22
  · skip
    refine lv_iconst (v := iI (3)) hE.1 hE.2.1 dX9_pointsOf_16 (by decide) ?_
    refine lv_goto (tgt := 21) hE.1 hE.2.1 dX9_pointsOf_17 (by decide) ?_
    refine lv_imul hE.1 hE.2.1 dX9_pointsOf_21 ?_
    obtain ⟨z4, hz4, ez4⟩ := iI_of (iI (z1) * iI (3))
    refine x_top ez4 ?_
    exact kr _ _ _ rfl ⟨z4, by omega, rfl⟩ dX9_pointsOf_22

theorem dX9_puts_0 : decode cX9_puts 0 = .ok (.aload_n 0, 1) := by decide +kernel
theorem dX9_puts_1 : decode cX9_puts 1 = .ok (.getfield 50, 3) := by decide +kernel
theorem dX9_puts_4 : decode cX9_puts 4 = .ok (.aload_n 0, 1) := by decide +kernel
theorem dX9_puts_5 : decode cX9_puts 5 = .ok (.getfield 265, 3) := by decide +kernel
theorem dX9_puts_8 : decode cX9_puts 8 = .ok (.iload_n 1, 1) := by decide +kernel
theorem dX9_puts_9 : decode cX9_puts 9 = .ok (.iastore, 1) := by decide +kernel
theorem dX9_puts_10 : decode cX9_puts 10 = .ok (.iload_n 1, 1) := by decide +kernel
theorem dX9_puts_11 : decode cX9_puts 11 = .ok (.bipush 9, 2) := by decide +kernel
theorem dX9_puts_13 : decode cX9_puts 13 = .ok (.if_icmp .ne 26, 3) := by decide +kernel
theorem dX9_puts_16 : decode cX9_puts 16 = .ok (.aload_n 0, 1) := by decide +kernel
theorem dX9_puts_17 : decode cX9_puts 17 = .ok (.getfield 56, 3) := by decide +kernel
theorem dX9_puts_20 : decode cX9_puts 20 = .ok (.aload_n 0, 1) := by decide +kernel
theorem dX9_puts_21 : decode cX9_puts 21 = .ok (.getfield 265, 3) := by decide +kernel
theorem dX9_puts_24 : decode cX9_puts 24 = .ok (.aload_n 0, 1) := by decide +kernel
theorem dX9_puts_25 : decode cX9_puts 25 = .ok (.getfield 34, 3) := by decide +kernel
theorem dX9_puts_28 : decode cX9_puts 28 = .ok (.iconst 0, 1) := by decide +kernel
theorem dX9_puts_29 : decode cX9_puts 29 = .ok (.iaload, 1) := by decide +kernel
theorem dX9_puts_30 : decode cX9_puts 30 = .ok (.irem, 1) := by decide +kernel
theorem dX9_puts_31 : decode cX9_puts 31 = .ok (.dup2, 1) := by decide +kernel
theorem dX9_puts_32 : decode cX9_puts 32 = .ok (.iaload, 1) := by decide +kernel
theorem dX9_puts_33 : decode cX9_puts 33 = .ok (.iconst 1, 1) := by decide +kernel
theorem dX9_puts_34 : decode cX9_puts 34 = .ok (.iadd, 1) := by decide +kernel
theorem dX9_puts_35 : decode cX9_puts 35 = .ok (.iastore, 1) := by decide +kernel
theorem dX9_puts_36 : decode cX9_puts 36 = .ok (.goto 44, 3) := by decide +kernel
theorem dX9_puts_39 : decode cX9_puts 39 = .ok (.aload_n 0, 1) := by decide +kernel
theorem dX9_puts_40 : decode cX9_puts 40 = .ok (.dup, 1) := by decide +kernel
theorem dX9_puts_41 : decode cX9_puts 41 = .ok (.getfield 268, 3) := by decide +kernel
theorem dX9_puts_44 : decode cX9_puts 44 = .ok (.iconst 1, 1) := by decide +kernel
theorem dX9_puts_45 : decode cX9_puts 45 = .ok (.iload_n 1, 1) := by decide +kernel
theorem dX9_puts_46 : decode cX9_puts 46 = .ok (.ishl, 1) := by decide +kernel
theorem dX9_puts_47 : decode cX9_puts 47 = .ok (.ior, 1) := by decide +kernel
theorem dX9_puts_48 : decode cX9_puts 48 = .ok (.putfield 268, 3) := by decide +kernel
theorem dX9_puts_51 : decode cX9_puts 51 = .ok (.aload_n 0, 1) := by decide +kernel
theorem dX9_puts_52 : decode cX9_puts 52 = .ok (.getfield 53, 3) := by decide +kernel
theorem dX9_puts_55 : decode cX9_puts 55 = .ok (.iload_n 1, 1) := by decide +kernel
theorem dX9_puts_56 : decode cX9_puts 56 = .ok (.aload_n 0, 1) := by decide +kernel
theorem dX9_puts_57 : decode cX9_puts 57 = .ok (.getfield 265, 3) := by decide +kernel
theorem dX9_puts_60 : decode cX9_puts 60 = .ok (.iastore, 1) := by decide +kernel
theorem dX9_puts_61 : decode cX9_puts 61 = .ok (.aload_n 0, 1) := by decide +kernel
theorem dX9_puts_62 : decode cX9_puts 62 = .ok (.dup, 1) := by decide +kernel
theorem dX9_puts_63 : decode cX9_puts 63 = .ok (.getfield 271, 3) := by decide +kernel
theorem dX9_puts_66 : decode cX9_puts 66 = .ok (.aload_n 0, 1) := by decide +kernel
theorem dX9_puts_67 : decode cX9_puts 67 = .ok (.iload_n 1, 1) := by decide +kernel
theorem dX9_puts_68 : decode cX9_puts 68 = .ok (.invokevirtual 274, 3) := by decide +kernel
theorem dX9_puts_71 : decode cX9_puts 71 = .ok (.iadd, 1) := by decide +kernel
theorem dX9_puts_72 : decode cX9_puts 72 = .ok (.putfield 271, 3) := by decide +kernel
theorem dX9_puts_75 : decode cX9_puts 75 = .ok (.aload_n 0, 1) := by decide +kernel
theorem dX9_puts_76 : decode cX9_puts 76 = .ok (.iload_n 1, 1) := by decide +kernel
theorem dX9_puts_77 : decode cX9_puts 77 = .ok (.putfield 277, 3) := by decide +kernel
theorem dX9_puts_80 : decode cX9_puts 80 = .ok (.aload_n 0, 1) := by decide +kernel
theorem dX9_puts_81 : decode cX9_puts 81 = .ok (.dup, 1) := by decide +kernel
theorem dX9_puts_82 : decode cX9_puts 82 = .ok (.getfield 265, 3) := by decide +kernel
theorem dX9_puts_85 : decode cX9_puts 85 = .ok (.iconst 1, 1) := by decide +kernel
theorem dX9_puts_86 : decode cX9_puts 86 = .ok (.iadd, 1) := by decide +kernel
theorem dX9_puts_87 : decode cX9_puts 87 = .ok (.putfield 265, 3) := by decide +kernel
theorem dX9_puts_90 : decode cX9_puts 90 = .ok (.return_, 1) := by decide +kernel
set_option maxHeartbeats 4000000 in
set_option maxRecDepth 100000 in
theorem s_X9_puts (l : Launch) (D : va_G) (K : Nat → ClassId) (ad : Nat → Nat) (v ar : sI) (al : sL) (hI : YI v ar) (w_1 : Int) (hw_1 : 0 ≤ w_1 ∧ w_1 ≤ 59) (ew_1 : v 0 24 = iI w_1) (w_2 : Int) (hw_2 : 0 ≤ w_2 ∧ w_2 ≤ 511) (ew_2 : v 0 25 = iI w_2) (w_3 : Int) (hw_3 : -1 ≤ w_3 ∧ w_3 ≤ 8) (ew_3 : v 0 26 = iI w_3) (w_4 : Int) (hw_4 : 1 ≤ w_4 ∧ w_4 ≤ 3) (ew_4 : ar 7 0 = iI w_4) (z_1 : Int) (hz_1 : 0 ≤ z_1 ∧ z_1 ≤ 9) : Met l yX9_puts (wM yX9_puts cX9_puts 2 none) (rmD 2) (va_Pc [.ref (ad 0), .int (iI (z_1))] (wPre D K ad (yG ad K) 21 v ar al)) (va_Qv (fun u : sT => YI u.1 u.2.1 ∧ (∀ i j : Nat, (i, j) ∉ ([(0, 24), (0, 25), (0, 26), (0, 27)] : List (Nat × Nat)) → u.1 i j = v i j) ∧ (∀ i : Nat, i ∉ ([12, 13, 14] : List Nat) → u.2.1 i = ar i) ∧ (∀ i : Nat, i ∉ ([] : List Nat) → u.2.2 i = al i) ∧ (∃ x_1 x_2 x_3 : Int, (0 ≤ x_1 ∧ x_1 ≤ 60 ∧ 0 ≤ x_2 ∧ x_2 ≤ 511 ∧ -1 ≤ x_3 ∧ x_3 ≤ 8 ∧ (x_1 = w_1 + 1 ∧ ((z_1 = 9 ∧ x_2 = w_2 ∧ x_3 = w_3) ∨ (z_1 ≠ 9 ∧ x_3 = z_1)))) ∧ u.1 0 24 = iI x_1 ∧ u.1 0 25 = iI x_2 ∧ u.1 0 26 = iI x_3)) (wB D ad (yG ad K) 21) (inW ad 21)) 0 0 (inW ad 21) := by
  refine s_metV (by decide) (Nat.le_of_ble_eq_true rfl) ?_
  intro p e s m below meth c ls args Q hE hB hl kr
  have hE : CallFix p m c cX9_puts 2 s args tbG "TaleCourtModel" := hE
  obtain ⟨hP, hK, hN⟩ := hB
  have hS : va_S (inW ad 21) s.heap s.heap [] := va_S.rf
  have hl : lv_has ls 2 [(0, .ref (ad 0)), (1, .int (iI (z_1)))] := hl
  refine lv_aload_n hE.1 hE.2.1 dX9_puts_0 rfl (lv_at hl 0 rfl) ?_
  refine x_get (x := .ref (ad 12)) hE hK hP 0 (by decide) (yG_9 rfl) rfl hin9 22 (by decide) mw_1356 rfl dX9_puts_1 ?_
  refine lv_aload_n hE.1 hE.2.1 dX9_puts_4 rfl (lv_at hl 0 rfl) ?_
  refine x_get (x := .int (v 0 24)) hE hK hP 0 (by decide) (yG_9 rfl) rfl hin9 24 (by decide) mw_1358 rfl dX9_puts_5 ?_
  refine x_top (y := iI (w_1)) ew_1 ?_
  refine lv_iload_n hE.1 hE.2.1 dX9_puts_8 rfl (lv_at hl 1 rfl) ?_
  refine x_iast (j := iI (w_1)) hE hK hN hP hS 12 (by decide) (fun _ => yG_10 rfl) (iI_in (n := 60) (by omega)) dX9_puts_9 (fun ar1 H locs ha1 hP hS => ?_)
  have hI := YI_ast12 (z := z_1) hI ha1 (by omega)
  refine lv_iload_n hE.1 hE.2.1 dX9_puts_10 rfl (lv_at hl 1 rfl) ?_
  refine lv_bipush (v := iI (9)) hE.1 hE.2.1 dX9_puts_11 (by decide) ?_
  refine s_icmp_ne (a := z_1) (b := 9) (tgt := 39) hE.1 hE.2.1 (by omega) (by omega) dX9_puts_13 (by decide) (fun c2 => ?_) (fun c2 => ?_)
  · skip
    refine lv_aload_n hE.1 hE.2.1 dX9_puts_39 rfl (lv_at hl 0 rfl) ?_
    refine lv_dup hE.1 hE.2.1 dX9_puts_40 rfl ?_
    refine x_get (x := .int (v 0 25)) hE hK hP 0 (by decide) (yG_9 rfl) rfl hin9 25 (by decide) mw_1359 rfl dX9_puts_41 ?_
    refine x_top (y := iI (w_2)) ew_2 ?_
    refine lv_iconst (v := iI (1)) hE.1 hE.2.1 dX9_puts_44 (by decide) ?_
    refine lv_iload_n hE.1 hE.2.1 dX9_puts_45 rfl (lv_at hl 1 rfl) ?_
    refine lv_ishl hE.1 hE.2.1 dX9_puts_46 ?_
    obtain ⟨z3, hz3, ez3⟩ := iI_shl8 (a := z_1) (by omega)
    refine x_top ez3 ?_
    refine lv_ior hE.1 hE.2.1 dX9_puts_47 ?_
    obtain ⟨z4, hz4, ez4⟩ := iI_or9 (a := w_2) (b := z3) (by omega) (by omega)
    refine x_top ez4 ?_
    refine x_put (x := iI (z4)) hE hK hN hP hS 0 (by decide) (yG_9 rfl) rfl hin9 tyX9 tyX9_ok nmX9 25 (by decide) mw_1359 rfl rfl rfl (Nat.le_of_ble_eq_true rfl) (yG_9 rfl) dX9_puts_48 (fun v5 H locs hv5 hP hS => ?_)
    have hI := YI_putB (z := z4) hI hv5 0 511 (by omega) (by decide) (by omega)
    refine lv_aload_n hE.1 hE.2.1 dX9_puts_51 rfl (lv_at hl 0 rfl) ?_
    refine x_get (x := .ref (ad 13)) hE hK hP 0 (by decide) (yG_9 rfl) rfl hin9 23 (by decide) mw_1357 rfl dX9_puts_52 ?_
    refine lv_iload_n hE.1 hE.2.1 dX9_puts_55 rfl (lv_at hl 1 rfl) ?_
    refine lv_aload_n hE.1 hE.2.1 dX9_puts_56 rfl (lv_at hl 0 rfl) ?_
    refine x_get (x := .int (v5 0 24)) hE hK hP 0 (by decide) (yG_9 rfl) rfl hin9 24 (by decide) mw_1358 rfl dX9_puts_57 ?_
    refine x_top (y := iI (w_1)) ((up_oth hv5 (by decide)).trans ew_1) ?_
    refine x_iast (j := iI (z_1)) hE hK hN hP hS 13 (by decide) (fun _ => yG_10 rfl) (iI_in (n := 9) (by omega)) dX9_puts_60 (fun ar6 H locs ha6 hP hS => ?_)
    have hI := YI_ast hI ha6 (by decide)
    refine lv_aload_n hE.1 hE.2.1 dX9_puts_61 rfl (lv_at hl 0 rfl) ?_
    refine lv_dup hE.1 hE.2.1 dX9_puts_62 rfl ?_
    obtain ⟨z7, hz7, ez7⟩ := iI_of (v5 0 27)
    refine x_get (x := .int (v5 0 27)) hE hK hP 0 (by decide) (yG_9 rfl) rfl hin9 27 (by decide) mw_1361 rfl dX9_puts_63 ?_
    refine x_top (y := iI (z7)) ez7 ?_
    refine lv_aload_n hE.1 hE.2.1 dX9_puts_66 rfl (lv_at hl 0 rfl) ?_
    refine lv_iload_n hE.1 hE.2.1 dX9_puts_67 rfl (lv_at hl 1 rfl) ?_
    refine x_vp (nn := 1) (As := [.int (iI (z_1))]) (rest := [.int (iI (z7)), .ref (ad 0)]) hE (s_X9_pointsOf l D K ad v5 ar6 al hI  (z_1) (by omega)) wPre_blind (wPre_now hK hN hP) (x_recv hK hP 0 (by decide) (yG_9 rfl) rfl) rfl mw_1650 mw_1652 mw_72 mw_123 mw_1653 (by decide +kernel) ⟨by decide, by decide⟩ hl.1 rfl (Nat.le_of_ble_eq_true rfl) ⟨Nat.zero_le _, Nat.zero_le _⟩ dX9_puts_68 (fun r8 hr8 => ?_)
    obtain ⟨z8, hz8, rfl⟩ := hr8
    refine lv_iadd hE.1 hE.2.1 dX9_puts_71 ?_
    obtain ⟨z9, hz9, ez9⟩ := iI_of (iI (z7) + iI (z8))
    refine x_top ez9 ?_
    refine x_put (x := iI (z9)) hE hK hN hP hS 0 (by decide) (yG_9 rfl) rfl hin9 tyX9 tyX9_ok nmX9 27 (by decide) mw_1361 rfl rfl rfl (Nat.le_of_ble_eq_true rfl) (yG_9 rfl) dX9_puts_72 (fun v10 H locs hv10 hP hS => ?_)
    have hI := YI_putN hI hv10 (by decide)
    refine lv_aload_n hE.1 hE.2.1 dX9_puts_75 rfl (lv_at hl 0 rfl) ?_
    refine lv_iload_n hE.1 hE.2.1 dX9_puts_76 rfl (lv_at hl 1 rfl) ?_
    refine x_put (x := iI (z_1)) hE hK hN hP hS 0 (by decide) (yG_9 rfl) rfl hin9 tyX9 tyX9_ok nmX9 26 (by decide) mw_1360 rfl rfl rfl (Nat.le_of_ble_eq_true rfl) (yG_9 rfl) dX9_puts_77 (fun v11 H locs hv11 hP hS => ?_)
    have hI := YI_putB (z := z_1) hI hv11 (-1) 8 (by omega) (by decide) (by omega)
    refine lv_aload_n hE.1 hE.2.1 dX9_puts_80 rfl (lv_at hl 0 rfl) ?_
    refine lv_dup hE.1 hE.2.1 dX9_puts_81 rfl ?_
    refine x_get (x := .int (v11 0 24)) hE hK hP 0 (by decide) (yG_9 rfl) rfl hin9 24 (by decide) mw_1358 rfl dX9_puts_82 ?_
    refine x_top (y := iI (w_1)) ((up_oth hv11 (by decide)).trans ((up_oth hv10 (by decide)).trans ((up_oth hv5 (by decide)).trans ew_1))) ?_
    refine lv_iconst (v := iI (1)) hE.1 hE.2.1 dX9_puts_85 (by decide) ?_
    refine lv_iadd hE.1 hE.2.1 dX9_puts_86 ?_
    refine x_top (y := iI (w_1 + 1)) ((iI_add (w_1) (1)).trans (congrArg iI (by omega))) ?_
    refine x_put (x := iI (w_1 + 1)) hE hK hN hP hS 0 (by decide) (yG_9 rfl) rfl hin9 tyX9 tyX9_ok nmX9 24 (by decide) mw_1358 rfl rfl rfl (Nat.le_of_ble_eq_true rfl) (yG_9 rfl) dX9_puts_87 (fun v12 H locs hv12 hP hS => ?_)
    have hI := YI_putB (z := w_1 + 1) hI hv12 0 60 (by omega) (by decide) (by omega)
    exact kr v12 ar6 al _ _ _ _ ⟨hI, fun i j h => ((up_oth hv12 (fun q => h (by rcases q with ⟨rfl, rfl⟩; decide))).trans ((up_oth hv11 (fun q => h (by rcases q with ⟨rfl, rfl⟩; decide))).trans ((up_oth hv10 (fun q => h (by rcases q with ⟨rfl, rfl⟩; decide))).trans (up_oth hv5 (fun q => h (by rcases q with ⟨rfl, rfl⟩; decide)))))), fun i h => ((upx_ne ha6 i (fun q => h (by rw [q]; decide))).trans (upx_ne ha1 i (fun q => h (by rw [q]; decide)))), fun i h => rfl, w_1 + 1, z4, z_1, by omega, (up_eq hv12), ((up_oth hv12 (by decide)).trans ((up_oth hv11 (by decide)).trans ((up_oth hv10 (by decide)).trans (up_eq hv5)))), ((up_oth hv12 (by decide)).trans (up_eq hv11))⟩ hP hS dX9_puts_90
  · skip
    refine lv_aload_n hE.1 hE.2.1 dX9_puts_16 rfl (lv_at hl 0 rfl) ?_
    refine x_get (x := .ref (ad 14)) hE hK hP 0 (by decide) (yG_9 rfl) rfl hin9 28 (by decide) mw_1362 rfl dX9_puts_17 ?_
    refine lv_aload_n hE.1 hE.2.1 dX9_puts_20 rfl (lv_at hl 0 rfl) ?_
    refine x_get (x := .int (v 0 24)) hE hK hP 0 (by decide) (yG_9 rfl) rfl hin9 24 (by decide) mw_1358 rfl dX9_puts_21 ?_
    refine x_top (y := iI (w_1)) ew_1 ?_
    refine lv_aload_n hE.1 hE.2.1 dX9_puts_24 rfl (lv_at hl 0 rfl) ?_
    refine x_get (x := .ref (ad 7)) hE hK hP 0 (by decide) (yG_9 rfl) rfl hin9 17 (by decide) mw_1351 rfl dX9_puts_25 ?_
    refine lv_iconst (v := iI (0)) hE.1 hE.2.1 dX9_puts_28 (by decide) ?_
    refine x_iald (j := iI (0)) hE hK hP 7 (by decide) (yG_10 rfl) (iI_in (n := 30) (by omega)) dX9_puts_29 ?_
    refine x_top (y := iI (w_4)) (by rw [show (iI (0)).toNatClampNeg = 0 from by decide]; exact ((congrFun (upa_ne ha1 7 (by decide)) 0).trans ew_4)) ?_
    refine lv_irem hE.1 hE.2.1 dX9_puts_30 (iI_ne0 (by omega) (by omega)) ?_
    obtain ⟨z14, hz14⟩ : ∃ z : Int, z = (w_1) % (w_4) ∧ 0 ≤ z ∧ z < w_4 := ⟨_, rfl, Int.emod_nonneg _ (by omega), Int.emod_lt_of_pos _ (by omega)⟩
    refine x_top (y := iI (z14)) ((iI_rem (by omega) (by omega)).trans (congrArg iI hz14.1.symm)) ?_
    replace hz14 := hz14.2
    refine lv_dup2_11 hE.1 hE.2.1 dX9_puts_31 rfl rfl ?_
    refine x_iald (j := iI (z14)) hE hK hP 14 (by decide) (yG_10 rfl) (iI_in (n := 3) (by omega)) dX9_puts_32 ?_
    obtain ⟨z16, hz16, ez16⟩ := iI_of (ar1 14 (iI (z14)).toNatClampNeg)
    refine x_top ez16 ?_
    refine lv_iconst (v := iI (1)) hE.1 hE.2.1 dX9_puts_33 (by decide) ?_
    refine lv_iadd hE.1 hE.2.1 dX9_puts_34 ?_
    obtain ⟨z17, hz17, ez17⟩ := iI_of (iI (z16) + iI (1))
    refine x_top ez17 ?_
    refine x_iast (j := iI (z14)) hE hK hN hP hS 14 (by decide) (fun _ => yG_10 rfl) (iI_in (n := 3) (by omega)) dX9_puts_35 (fun ar18 H locs ha18 hP hS => ?_)
    have hI := YI_ast hI ha18 (by decide)
    refine lv_goto (tgt := 80) hE.1 hE.2.1 dX9_puts_36 (by decide) ?_
    refine lv_aload_n hE.1 hE.2.1 dX9_puts_80 rfl (lv_at hl 0 rfl) ?_
    refine lv_dup hE.1 hE.2.1 dX9_puts_81 rfl ?_
    refine x_get (x := .int (v 0 24)) hE hK hP 0 (by decide) (yG_9 rfl) rfl hin9 24 (by decide) mw_1358 rfl dX9_puts_82 ?_
    refine x_top (y := iI (w_1)) ew_1 ?_
    refine lv_iconst (v := iI (1)) hE.1 hE.2.1 dX9_puts_85 (by decide) ?_
    refine lv_iadd hE.1 hE.2.1 dX9_puts_86 ?_
    refine x_top (y := iI (w_1 + 1)) ((iI_add (w_1) (1)).trans (congrArg iI (by omega))) ?_
    refine x_put (x := iI (w_1 + 1)) hE hK hN hP hS 0 (by decide) (yG_9 rfl) rfl hin9 tyX9 tyX9_ok nmX9 24 (by decide) mw_1358 rfl rfl rfl (Nat.le_of_ble_eq_true rfl) (yG_9 rfl) dX9_puts_87 (fun v19 H locs hv19 hP hS => ?_)
    have hI := YI_putB (z := w_1 + 1) hI hv19 0 60 (by omega) (by decide) (by omega)
    exact kr v19 ar18 al _ _ _ _ ⟨hI, fun i j h => (up_oth hv19 (fun q => h (by rcases q with ⟨rfl, rfl⟩; decide))), fun i h => ((upx_ne ha18 i (fun q => h (by rw [q]; decide))).trans (upx_ne ha1 i (fun q => h (by rw [q]; decide)))), fun i h => rfl, w_1 + 1, w_2, w_3, by omega, (up_eq hv19), ((up_oth hv19 (by decide)).trans ew_2), ((up_oth hv19 (by decide)).trans ew_3)⟩ hP hS dX9_puts_90

theorem dX9_lays_0 : decode cX9_lays 0 = .ok (.aload_n 0, 1) := by decide +kernel
theorem dX9_lays_1 : decode cX9_lays 1 = .ok (.invokevirtual 280, 3) := by decide +kernel
theorem dX9_lays_4 : decode cX9_lays 4 = .ok (.iconst 0, 1) := by decide +kernel
theorem dX9_lays_5 : decode cX9_lays 5 = .ok (.istore_n 1, 1) := by decide +kernel
theorem dX9_lays_6 : decode cX9_lays 6 = .ok (.iload_n 1, 1) := by decide +kernel
theorem dX9_lays_7 : decode cX9_lays 7 = .ok (.aload_n 0, 1) := by decide +kernel
theorem dX9_lays_8 : decode cX9_lays 8 = .ok (.getfield 34, 3) := by decide +kernel
theorem dX9_lays_11 : decode cX9_lays 11 = .ok (.iconst 5, 1) := by decide +kernel
theorem dX9_lays_12 : decode cX9_lays 12 = .ok (.iaload, 1) := by decide +kernel
theorem dX9_lays_13 : decode cX9_lays 13 = .ok (.if_icmp .ge 19, 3) := by decide +kernel
theorem dX9_lays_16 : decode cX9_lays 16 = .ok (.aload_n 0, 1) := by decide +kernel
theorem dX9_lays_17 : decode cX9_lays 17 = .ok (.aload_n 0, 1) := by decide +kernel
theorem dX9_lays_18 : decode cX9_lays 18 = .ok (.getfield 43, 3) := by decide +kernel
theorem dX9_lays_21 : decode cX9_lays 21 = .ok (.iload_n 1, 1) := by decide +kernel
theorem dX9_lays_22 : decode cX9_lays 22 = .ok (.iaload, 1) := by decide +kernel
theorem dX9_lays_23 : decode cX9_lays 23 = .ok (.invokevirtual 283, 3) := by decide +kernel
theorem dX9_lays_26 : decode cX9_lays 26 = .ok (.iinc 1 1, 3) := by decide +kernel
theorem dX9_lays_29 : decode cX9_lays 29 = .ok (.goto (-23), 3) := by decide +kernel
theorem dX9_lays_32 : decode cX9_lays 32 = .ok (.return_, 1) := by decide +kernel
set_option maxHeartbeats 4000000 in
set_option maxRecDepth 100000 in
theorem s_X9_lays (l : Launch) (D : va_G) (K : Nat → ClassId) (ad : Nat → Nat) (v ar : sI) (al : sL) (hI : YI v ar) (w_1 : Int) (hw_1 : 0 ≤ w_1 ∧ w_1 ≤ 18) (ew_1 : ar 7 5 = iI w_1) : Met l yX9_lays (wM yX9_lays cX9_lays 2 none) (rmD 3) (va_Pc [.ref (ad 0)] (wPre D K ad (yG ad K) 21 v ar al)) (va_Qv (fun u : sT => YI u.1 u.2.1 ∧ (∀ i j : Nat, (i, j) ∉ ([(0, 24), (0, 25), (0, 26), (0, 27)] : List (Nat × Nat)) → u.1 i j = v i j) ∧ (∀ i : Nat, i ∉ ([12, 13, 14] : List Nat) → u.2.1 i = ar i) ∧ (∀ i : Nat, i ∉ ([] : List Nat) → u.2.2 i = al i) ∧ (∃ x_1 x_2 x_3 : Int, (0 ≤ x_1 ∧ x_1 ≤ 18 ∧ 0 ≤ x_2 ∧ x_2 ≤ 511 ∧ -1 ≤ x_3 ∧ x_3 ≤ 8 ∧ (x_1 = w_1 ∧ (x_2 = 0 ∨ 0 ≤ x_3))) ∧ u.1 0 24 = iI x_1 ∧ u.1 0 25 = iI x_2 ∧ u.1 0 26 = iI x_3)) (wB D ad (yG ad K) 21) (inW ad 21)) 0 0 (inW ad 21) := by
  refine s_metV (by decide) (Nat.le_of_ble_eq_true rfl) ?_
  intro p e s m below meth c ls args Q hE hB hl kr
  have hE : CallFix p m c cX9_lays 2 s args tbG "TaleCourtModel" := hE
  obtain ⟨hP, hK, hN⟩ := hB
  have hS : va_S (inW ad 21) s.heap s.heap [] := va_S.rf
  have hl : lv_has ls 2 [(0, .ref (ad 0))] := hl
  obtain ⟨z1, hz1, ez1⟩ := iI_of (ar 6 0)
  obtain ⟨z2, hz2, ez2⟩ := YI_h2 hI 2 (by decide)
  obtain ⟨z3, hz3, ez3⟩ := YI_h0 hI 0 (by decide)
  have ht0 := YI_t0 hI ez1 (by omega) ez2 (by omega) ew_1 (by omega) ez3 (by omega)
  refine lv_aload_n hE.1 hE.2.1 dX9_lays_0 rfl (lv_at hl 0 rfl) ?_
  refine x_vv (nn := 0) (As := []) (rest := []) hE hK hN hP hS (s_X9_empties l D K ad v ar al hI  ) (x_recv hK hP 0 (by decide) (yG_9 rfl) rfl) rfl mw_1642 mw_1644 mw_70 mw_123 mw_1645 (by decide +kernel) ⟨by decide, by decide⟩ hl.1 rfl (Nat.le_of_ble_eq_true rfl) ⟨Nat.zero_le _, Nat.zero_le _⟩ dX9_lays_1 (fun v4 ar4 al4 H locs hq4 hP hS => ?_)
  obtain ⟨hI, hq4, hqa4, hql4, x4_1, x4_2, x4_3, hx4, ex4_1, ex4_2, ex4_3⟩ := hq4
  have hI : YI v4 ar4 := hI
  refine lv_iconst (v := iI (0)) hE.1 hE.2.1 dX9_lays_4 (by decide) ?_
  refine lv_istore_n (lv' := [(1, .int (iI (0))), (0, .ref (ad 0))]) hE.1 hE.2.1 dX9_lays_5 rfl hl (by decide) rfl (fun ls hl => ?_)
  have loop5 : ∀ (k5 : Nat) (y5_1 : Int) (yf5_0 : Int) (yf5_1 : Int) (yf5_2 : Int) (vl5 arl5 : sI) (all5 : sL) (H : Heap) (locs : List Loc) (ls : Array Slot), (18 - y5_1).toNat = k5 → (0 ≤ y5_1 ∧ y5_1 ≤ 18) → (0 ≤ yf5_0 ∧ yf5_0 ≤ 18 ∧ 0 ≤ yf5_1 ∧ yf5_1 ≤ 511 ∧ -1 ≤ yf5_2 ∧ yf5_2 ≤ 8 ∧ (yf5_0 = y5_1 ∧ y5_1 ≤ w_1 ∧ (yf5_1 = 0 ∨ 0 ≤ yf5_2))) → (vl5 0 24 = iI yf5_0) → (vl5 0 25 = iI yf5_1) → (vl5 0 26 = iI yf5_2) → YI vl5 arl5 → (∀ i j : Nat, (i, j) ∉ ([(0, 24), (0, 25), (0, 26), (0, 27)] : List (Nat × Nat)) → vl5 i j = v4 i j) → (∀ i : Nat, i ∉ ([12, 13, 14] : List Nat) → arl5 i = ar4 i) → (∀ i : Nat, i ∉ ([] : List Nat) → all5 i = al4 i) → va_P D xcl (wW ad (yG ad K) 21 vl5 arl5 all5) H → va_S (inW ad 21) s.heap H locs → lv_has ls 2 [(1, .int (iI (y5_1))), (0, .ref (ad 0))] → W p l e (rmD 3) s m args below meth c H locs 0 0 Q (F0 m 6 ls []) := by
    intro k5
    induction k5 using Nat.strongRecOn with
    | _ k5 ih5 =>
      intro y5_1 yf5_0 yf5_1 yf5_2 vl5 arl5 all5 H locs ls hk5 hb_y5_1 hyf5 eyf5_0 eyf5_1 eyf5_2 hI hfr5 hfa5 hfl5 hP hS hl
      refine lv_iload_n hE.1 hE.2.1 dX9_lays_6 rfl (lv_at hl 0 rfl) ?_
      refine lv_aload_n hE.1 hE.2.1 dX9_lays_7 rfl (lv_at hl 1 rfl) ?_
      refine x_get (x := .ref (ad 7)) hE hK hP 0 (by decide) (yG_9 rfl) rfl hin9 17 (by decide) mw_1351 rfl dX9_lays_8 ?_
      refine lv_iconst (v := iI (5)) hE.1 hE.2.1 dX9_lays_11 (by decide) ?_
      refine x_iald (j := iI (5)) hE hK hP 7 (by decide) (yG_10 rfl) (iI_in (n := 30) (by omega)) dX9_lays_12 ?_
      refine x_top (y := iI (w_1)) (by rw [show (iI (5)).toNatClampNeg = 5 from by decide]; exact ((congrFun (hfa5 7 (by decide)) 5).trans ((congrFun (hqa4 7 (by decide)) 5).trans ew_1))) ?_
      refine s_icmp_ge (a := y5_1) (b := w_1) (tgt := 32) hE.1 hE.2.1 (by omega) (by omega) dX9_lays_13 (by decide) (fun c7 => ?_) (fun c7 => ?_)
      · skip
        exact kr vl5 arl5 all5 _ _ _ _ ⟨hI, fun i j h => ((hfr5 i j (fun q => h (mem_sub (by decide) q))).trans (hq4 i j (fun q => h (mem_sub (by decide) q)))), fun i h => ((hfa5 i (fun q => h (mem_subn (by decide) q))).trans (hqa4 i (fun q => h (mem_subn (by decide) q)))), fun i h => ((hfl5 i (fun q => h (mem_subn (by decide) q))).trans (hql4 i (fun q => h (mem_subn (by decide) q)))), yf5_0, yf5_1, yf5_2, by omega, eyf5_0, eyf5_1, eyf5_2⟩ hP hS dX9_lays_32
      · skip
        refine lv_aload_n hE.1 hE.2.1 dX9_lays_16 rfl (lv_at hl 1 rfl) ?_
        refine lv_aload_n hE.1 hE.2.1 dX9_lays_17 rfl (lv_at hl 1 rfl) ?_
        refine x_get (x := .ref (ad 10)) hE hK hP 0 (by decide) (yG_9 rfl) rfl hin9 20 (by decide) mw_1354 rfl dX9_lays_18 ?_
        refine lv_iload_n hE.1 hE.2.1 dX9_lays_21 rfl (lv_at hl 0 rfl) ?_
        refine x_iald (j := iI (y5_1)) hE hK hP 10 (by decide) (yG_10 rfl) (iI_in (n := 90) (by omega)) dX9_lays_22 ?_
        obtain ⟨z9, hz9, ez9⟩ := YI_a10 hI ((iI (y5_1)).toNatClampNeg)
        refine x_top ez9 ?_
        refine x_vv (nn := 1) (As := [.int (iI (z9))]) (rest := []) hE hK hN hP hS (s_X9_puts l D K ad vl5 arl5 all5 hI (yf5_0) (by omega) eyf5_0 (yf5_1) (by omega) eyf5_1 (yf5_2) (by omega) eyf5_2 (z3) (by omega) ((congrFun (hfa5 7 (by decide)) 0).trans ((congrFun (hqa4 7 (by decide)) 0).trans ez3)) (z9) (by omega)) (x_recv hK hP 0 (by decide) (yG_9 rfl) rfl) rfl mw_1646 mw_1648 mw_71 mw_123 mw_1649 (by decide +kernel) ⟨by decide, by decide⟩ hl.1 rfl (Nat.le_of_ble_eq_true rfl) ⟨Nat.zero_le _, Nat.zero_le _⟩ dX9_lays_23 (fun v10 ar10 al10 H locs hq10 hP hS => ?_)
        obtain ⟨hI, hq10, hqa10, hql10, x10_1, x10_2, x10_3, hx10, ex10_1, ex10_2, ex10_3⟩ := hq10
        have hI : YI v10 ar10 := hI
        refine lv_iinc (v := iI (y5_1 + 1)) (lv' := [(1, .int (iI (y5_1 + 1))), (0, .ref (ad 0))]) hE.1 hE.2.1 dX9_lays_26 hl (k := 0) rfl ((iI_add (y5_1) (1)).trans (congrArg iI (by omega))) (by decide) rfl (fun ls hl => ?_)
        refine lv_goto (tgt := 6) hE.1 hE.2.1 dX9_lays_29 (by decide) ?_
        exact ih5 _ (by omega) (y5_1 + 1) (x10_1) (x10_2) (x10_3) v10 ar10 al10 _ _ _ rfl (by omega) (by omega) ex10_1 ex10_2 ex10_3 hI (fun i j h => ((hq10 i j (fun q => h (mem_sub (by decide) q))).trans (hfr5 i j h))) (fun i h => ((hqa10 i (fun q => h (mem_subn (by decide) q))).trans (hfa5 i h))) (fun i h => ((hql10 i (fun q => h (mem_subn (by decide) q))).trans (hfl5 i h))) hP hS (lv_sub hl [0, 1] rfl)
  exact loop5 _ (0) (x4_1) (x4_2) (x4_3) v4 ar4 al4 _ _ _ rfl (by omega) (by omega) ex4_1 ex4_2 ex4_3 hI (fun _ _ _ => rfl) (fun _ _ => rfl) (fun _ _ => rfl) hP hS hl

theorem dX9_joinsOn_0 : decode cX9_joinsOn 0 = .ok (.aload_n 0, 1) := by decide +kernel
theorem dX9_joinsOn_1 : decode cX9_joinsOn 1 = .ok (.getfield 277, 3) := by decide +kernel
theorem dX9_joinsOn_4 : decode cX9_joinsOn 4 = .ok (.iconst (-1), 1) := by decide +kernel
theorem dX9_joinsOn_5 : decode cX9_joinsOn 5 = .ok (.if_icmp .ne 21, 3) := by decide +kernel
theorem dX9_joinsOn_8 : decode cX9_joinsOn 8 = .ok (.aload_n 0, 1) := by decide +kernel
theorem dX9_joinsOn_9 : decode cX9_joinsOn 9 = .ok (.iload_n 1, 1) := by decide +kernel
theorem dX9_joinsOn_10 : decode cX9_joinsOn 10 = .ok (.iconst 1, 1) := by decide +kernel
theorem dX9_joinsOn_11 : decode cX9_joinsOn 11 = .ok (.invokevirtual 258, 3) := by decide +kernel
theorem dX9_joinsOn_14 : decode cX9_joinsOn 14 = .ok (.iconst 1, 1) := by decide +kernel
theorem dX9_joinsOn_15 : decode cX9_joinsOn 15 = .ok (.if_icmp .ne 7, 3) := by decide +kernel
theorem dX9_joinsOn_18 : decode cX9_joinsOn 18 = .ok (.iconst 1, 1) := by decide +kernel
theorem dX9_joinsOn_19 : decode cX9_joinsOn 19 = .ok (.goto 21, 3) := by decide +kernel
theorem dX9_joinsOn_22 : decode cX9_joinsOn 22 = .ok (.iconst 0, 1) := by decide +kernel
theorem dX9_joinsOn_23 : decode cX9_joinsOn 23 = .ok (.goto 17, 3) := by decide +kernel
theorem dX9_joinsOn_26 : decode cX9_joinsOn 26 = .ok (.aload_n 0, 1) := by decide +kernel
theorem dX9_joinsOn_27 : decode cX9_joinsOn 27 = .ok (.aload_n 0, 1) := by decide +kernel
theorem dX9_joinsOn_28 : decode cX9_joinsOn 28 = .ok (.getfield 277, 3) := by decide +kernel
theorem dX9_joinsOn_31 : decode cX9_joinsOn 31 = .ok (.bipush 7, 2) := by decide +kernel
theorem dX9_joinsOn_33 : decode cX9_joinsOn 33 = .ok (.invokevirtual 258, 3) := by decide +kernel
theorem dX9_joinsOn_36 : decode cX9_joinsOn 36 = .ok (.iload_n 1, 1) := by decide +kernel
theorem dX9_joinsOn_37 : decode cX9_joinsOn 37 = .ok (.invokestatic 261, 3) := by decide +kernel
theorem dX9_joinsOn_40 : decode cX9_joinsOn 40 = .ok (.ireturn, 1) := by decide +kernel
set_option maxHeartbeats 4000000 in
set_option maxRecDepth 100000 in
theorem s_X9_joinsOn (l : Launch) (D : va_G) (K : Nat → ClassId) (ad : Nat → Nat) (v ar : sI) (al : sL) (hI : YI v ar) (z_1 : Int) (hz_1 : 0 ≤ z_1 ∧ z_1 ≤ 8) : Met l yX9_joinsOn (wM yX9_joinsOn cX9_joinsOn 2 (some .boolean)) (rmD 1) (va_Pc [.ref (ad 0), .int (iI (z_1))] (wPre D K ad (yG ad K) 21 v ar al)) (vp_Si (fun r => ∃ z : Int, (0 ≤ z ∧ z ≤ 1) ∧ r = iI z)) 0 0 (fun _ => False) := by
  refine s_metP (by decide) (Nat.le_of_ble_eq_true rfl) ?_
  intro p e s m below meth c ls args Q hE hB hl kr
  have hE : CallFix p m c cX9_joinsOn 2 s args tbG "TaleCourtModel" := hE
  obtain ⟨hP, hK, hN⟩ := hB
  have hl : lv_has ls 2 [(0, .ref (ad 0)), (1, .int (iI (z_1)))] := hl
  refine lv_aload_n hE.1 hE.2.1 dX9_joinsOn_0 rfl (lv_at hl 0 rfl) ?_
  obtain ⟨z1, hz1, ez1⟩ := YI_get hI 0 26 (-1) 8 (by decide)
  refine x_get (x := .int (v 0 26)) hE hK hP 0 (by decide) (yG_9 rfl) rfl hin9 26 (by decide) mw_1360 rfl dX9_joinsOn_1 ?_
  refine x_top (y := iI (z1)) ez1 ?_
  refine lv_iconst (v := iI (-1)) hE.1 hE.2.1 dX9_joinsOn_4 (by decide) ?_
  refine s_icmp_ne (a := z1) (b := -1) (tgt := 26) hE.1 hE.2.1 (by omega) (by omega) dX9_joinsOn_5 (by decide) (fun c2 => ?_) (fun c2 => ?_)
  · skip
    refine lv_aload_n hE.1 hE.2.1 dX9_joinsOn_26 rfl (lv_at hl 0 rfl) ?_
    refine lv_aload_n hE.1 hE.2.1 dX9_joinsOn_27 rfl (lv_at hl 0 rfl) ?_
    refine x_get (x := .int (v 0 26)) hE hK hP 0 (by decide) (yG_9 rfl) rfl hin9 26 (by decide) mw_1360 rfl dX9_joinsOn_28 ?_
    refine x_top (y := iI (z1)) ez1 ?_
    refine lv_bipush (v := iI (7)) hE.1 hE.2.1 dX9_joinsOn_31 (by decide) ?_
    refine x_vp (nn := 2) (As := [.int (iI (z1)), .int (iI (7))]) (rest := []) hE (s_X9_of l D K ad v ar al hI  (z1) (by omega) (7) (by omega)) wPre_blind (wPre_now hK hN hP) (x_recv hK hP 0 (by decide) (yG_9 rfl) rfl) rfl mw_1654 mw_1656 mw_73 mw_123 mw_1657 (by decide +kernel) ⟨by decide, by decide⟩ hl.1 rfl (Nat.le_of_ble_eq_true rfl) ⟨Nat.zero_le _, Nat.zero_le _⟩ dX9_joinsOn_33 (fun r3 hr3 => ?_)
    obtain ⟨z3, hz3, rfl⟩ := hr3
    refine lv_iload_n hE.1 hE.2.1 dX9_joinsOn_36 rfl (lv_at hl 1 rfl) ?_
    refine x_sp (nn := 2) (As := [.int (iI (z3)), .int (iI (z_1))]) (rest := []) hE (s_X9_isBit l (z3) (by omega) (z_1) (by omega)) tt_blind (fun _ _ _ => trivial) rfl mw_1683 mw_1684 mw_123 mw_1685 (by decide +kernel) ⟨by decide, by decide⟩ hl.1 rfl (Nat.le_of_ble_eq_true rfl) ⟨Nat.zero_le _, Nat.zero_le _⟩ dX9_joinsOn_37 (fun r4 hr4 => ?_)
    obtain ⟨z4, hz4, rfl⟩ := hr4
    exact kr _ _ _ (nar01 (by omega)) ⟨z4, by omega, rfl⟩ dX9_joinsOn_40
  · skip
    refine lv_aload_n hE.1 hE.2.1 dX9_joinsOn_8 rfl (lv_at hl 0 rfl) ?_
    refine lv_iload_n hE.1 hE.2.1 dX9_joinsOn_9 rfl (lv_at hl 1 rfl) ?_
    refine lv_iconst (v := iI (1)) hE.1 hE.2.1 dX9_joinsOn_10 (by decide) ?_
    refine x_vp (nn := 2) (As := [.int (iI (z_1)), .int (iI (1))]) (rest := []) hE (s_X9_of l D K ad v ar al hI  (z_1) (by omega) (1) (by omega)) wPre_blind (wPre_now hK hN hP) (x_recv hK hP 0 (by decide) (yG_9 rfl) rfl) rfl mw_1654 mw_1656 mw_73 mw_123 mw_1657 (by decide +kernel) ⟨by decide, by decide⟩ hl.1 rfl (Nat.le_of_ble_eq_true rfl) ⟨Nat.zero_le _, Nat.zero_le _⟩ dX9_joinsOn_11 (fun r5 hr5 => ?_)
    obtain ⟨z5, hz5, rfl⟩ := hr5
    refine lv_iconst (v := iI (1)) hE.1 hE.2.1 dX9_joinsOn_14 (by decide) ?_
    refine s_icmp_ne (a := z5) (b := 1) (tgt := 22) hE.1 hE.2.1 (by omega) (by omega) dX9_joinsOn_15 (by decide) (fun c6 => ?_) (fun c6 => ?_)
    · skip
      refine lv_iconst (v := iI (0)) hE.1 hE.2.1 dX9_joinsOn_22 (by decide) ?_
      refine lv_goto (tgt := 40) hE.1 hE.2.1 dX9_joinsOn_23 (by decide) ?_
      exact kr _ _ _ (nar01 (by omega)) ⟨0, by omega, rfl⟩ dX9_joinsOn_40
    · skip
      refine lv_iconst (v := iI (1)) hE.1 hE.2.1 dX9_joinsOn_18 (by decide) ?_
      refine lv_goto (tgt := 40) hE.1 hE.2.1 dX9_joinsOn_19 (by decide) ?_
      exact kr _ _ _ (nar01 (by omega)) ⟨1, by omega, rfl⟩ dX9_joinsOn_40

theorem dX9_isLate_0 : decode cX9_isLate 0 = .ok (.iload_n 1, 1) := by decide +kernel
theorem dX9_isLate_1 : decode cX9_isLate 1 = .ok (.bipush 9, 2) := by decide +kernel
theorem dX9_isLate_3 : decode cX9_isLate 3 = .ok (.if_icmp .ne 10, 3) := by decide +kernel
theorem dX9_isLate_6 : decode cX9_isLate 6 = .ok (.aload_n 0, 1) := by decide +kernel
theorem dX9_isLate_7 : decode cX9_isLate 7 = .ok (.getfield 268, 3) := by decide +kernel
theorem dX9_isLate_10 : decode cX9_isLate 10 = .ok (.goto 11, 3) := by decide +kernel
theorem dX9_isLate_13 : decode cX9_isLate 13 = .ok (.aload_n 0, 1) := by decide +kernel
theorem dX9_isLate_14 : decode cX9_isLate 14 = .ok (.getfield 268, 3) := by decide +kernel
theorem dX9_isLate_17 : decode cX9_isLate 17 = .ok (.iconst 1, 1) := by decide +kernel
theorem dX9_isLate_18 : decode cX9_isLate 18 = .ok (.iload_n 1, 1) := by decide +kernel
theorem dX9_isLate_19 : decode cX9_isLate 19 = .ok (.ishl, 1) := by decide +kernel
theorem dX9_isLate_20 : decode cX9_isLate 20 = .ok (.ior, 1) := by decide +kernel
theorem dX9_isLate_21 : decode cX9_isLate 21 = .ok (.istore_n 2, 1) := by decide +kernel
theorem dX9_isLate_22 : decode cX9_isLate 22 = .ok (.iconst 0, 1) := by decide +kernel
theorem dX9_isLate_23 : decode cX9_isLate 23 = .ok (.istore_n 3, 1) := by decide +kernel
theorem dX9_isLate_24 : decode cX9_isLate 24 = .ok (.iload_n 3, 1) := by decide +kernel
theorem dX9_isLate_25 : decode cX9_isLate 25 = .ok (.aload_n 0, 1) := by decide +kernel
theorem dX9_isLate_26 : decode cX9_isLate 26 = .ok (.getfield 34, 3) := by decide +kernel
theorem dX9_isLate_29 : decode cX9_isLate 29 = .ok (.iconst 2, 1) := by decide +kernel
theorem dX9_isLate_30 : decode cX9_isLate 30 = .ok (.iaload, 1) := by decide +kernel
theorem dX9_isLate_31 : decode cX9_isLate 31 = .ok (.if_icmp .ge 65, 3) := by decide +kernel
theorem dX9_isLate_34 : decode cX9_isLate 34 = .ok (.aload_n 0, 1) := by decide +kernel
theorem dX9_isLate_35 : decode cX9_isLate 35 = .ok (.getfield 268, 3) := by decide +kernel
theorem dX9_isLate_38 : decode cX9_isLate 38 = .ok (.iload_n 3, 1) := by decide +kernel
theorem dX9_isLate_39 : decode cX9_isLate 39 = .ok (.invokestatic 261, 3) := by decide +kernel
theorem dX9_isLate_42 : decode cX9_isLate 42 = .ok (.ifCond .eq 48, 3) := by decide +kernel
theorem dX9_isLate_45 : decode cX9_isLate 45 = .ok (.aload_n 0, 1) := by decide +kernel
theorem dX9_isLate_46 : decode cX9_isLate 46 = .ok (.iload_n 3, 1) := by decide +kernel
theorem dX9_isLate_47 : decode cX9_isLate 47 = .ok (.iconst 4, 1) := by decide +kernel
theorem dX9_isLate_48 : decode cX9_isLate 48 = .ok (.invokevirtual 258, 3) := by decide +kernel
theorem dX9_isLate_51 : decode cX9_isLate 51 = .ok (.iconst (-1), 1) := by decide +kernel
theorem dX9_isLate_52 : decode cX9_isLate 52 = .ok (.if_icmp .eq 38, 3) := by decide +kernel
theorem dX9_isLate_55 : decode cX9_isLate 55 = .ok (.iload_n 2, 1) := by decide +kernel
theorem dX9_isLate_56 : decode cX9_isLate 56 = .ok (.aload_n 0, 1) := by decide +kernel
theorem dX9_isLate_57 : decode cX9_isLate 57 = .ok (.iload_n 3, 1) := by decide +kernel
theorem dX9_isLate_58 : decode cX9_isLate 58 = .ok (.iconst 4, 1) := by decide +kernel
theorem dX9_isLate_59 : decode cX9_isLate 59 = .ok (.invokevirtual 258, 3) := by decide +kernel
theorem dX9_isLate_62 : decode cX9_isLate 62 = .ok (.invokestatic 261, 3) := by decide +kernel
theorem dX9_isLate_65 : decode cX9_isLate 65 = .ok (.ifCond .ne 25, 3) := by decide +kernel
theorem dX9_isLate_68 : decode cX9_isLate 68 = .ok (.aload_n 0, 1) := by decide +kernel
theorem dX9_isLate_69 : decode cX9_isLate 69 = .ok (.getfield 265, 3) := by decide +kernel
theorem dX9_isLate_72 : decode cX9_isLate 72 = .ok (.aload_n 0, 1) := by decide +kernel
theorem dX9_isLate_73 : decode cX9_isLate 73 = .ok (.getfield 53, 3) := by decide +kernel
theorem dX9_isLate_76 : decode cX9_isLate 76 = .ok (.iload_n 3, 1) := by decide +kernel
theorem dX9_isLate_77 : decode cX9_isLate 77 = .ok (.iaload, 1) := by decide +kernel
theorem dX9_isLate_78 : decode cX9_isLate 78 = .ok (.aload_n 0, 1) := by decide +kernel
theorem dX9_isLate_79 : decode cX9_isLate 79 = .ok (.iload_n 3, 1) := by decide +kernel
theorem dX9_isLate_80 : decode cX9_isLate 80 = .ok (.iconst 5, 1) := by decide +kernel
theorem dX9_isLate_81 : decode cX9_isLate 81 = .ok (.invokevirtual 258, 3) := by decide +kernel
theorem dX9_isLate_84 : decode cX9_isLate 84 = .ok (.iadd, 1) := by decide +kernel
theorem dX9_isLate_85 : decode cX9_isLate 85 = .ok (.if_icmp .lt 5, 3) := by decide +kernel
theorem dX9_isLate_88 : decode cX9_isLate 88 = .ok (.iconst 1, 1) := by decide +kernel
theorem dX9_isLate_89 : decode cX9_isLate 89 = .ok (.ireturn, 1) := by decide +kernel
theorem dX9_isLate_90 : decode cX9_isLate 90 = .ok (.iinc 3 1, 3) := by decide +kernel
theorem dX9_isLate_93 : decode cX9_isLate 93 = .ok (.goto (-69), 3) := by decide +kernel
theorem dX9_isLate_96 : decode cX9_isLate 96 = .ok (.iconst 0, 1) := by decide +kernel
theorem dX9_isLate_97 : decode cX9_isLate 97 = .ok (.ireturn, 1) := by decide +kernel
set_option maxHeartbeats 4000000 in
set_option maxRecDepth 100000 in
theorem s_X9_isLate (l : Launch) (D : va_G) (K : Nat → ClassId) (ad : Nat → Nat) (v ar : sI) (al : sL) (hI : YI v ar) (z_1 : Int) (hz_1 : 0 ≤ z_1 ∧ z_1 ≤ 9) : Met l yX9_isLate (wM yX9_isLate cX9_isLate 4 (some .boolean)) (rmD 1) (va_Pc [.ref (ad 0), .int (iI (z_1))] (wPre D K ad (yG ad K) 21 v ar al)) (vp_Si (fun r => ∃ z : Int, (0 ≤ z ∧ z ≤ 1) ∧ r = iI z)) 0 0 (fun _ => False) := by
  refine s_metP (by decide) (Nat.le_of_ble_eq_true rfl) ?_
  intro p e s m below meth c ls args Q hE hB hl kr
  have hE : CallFix p m c cX9_isLate 4 s args tbG "TaleCourtModel" := hE
  obtain ⟨hP, hK, hN⟩ := hB
  have hl : lv_has ls 4 [(0, .ref (ad 0)), (1, .int (iI (z_1)))] := hl
  refine lv_iload_n hE.1 hE.2.1 dX9_isLate_0 rfl (lv_at hl 1 rfl) ?_
  refine lv_bipush (v := iI (9)) hE.1 hE.2.1 dX9_isLate_1 (by decide) ?_
  refine s_icmp_ne (a := z_1) (b := 9) (tgt := 13) hE.1 hE.2.1 (by omega) (by omega) dX9_isLate_3 (by decide) (fun c1 => ?_) (fun c1 => ?_)
  · skip
    refine lv_aload_n hE.1 hE.2.1 dX9_isLate_13 rfl (lv_at hl 0 rfl) ?_
    obtain ⟨z2, hz2, ez2⟩ := YI_get hI 0 25 0 511 (by decide)
    refine x_get (x := .int (v 0 25)) hE hK hP 0 (by decide) (yG_9 rfl) rfl hin9 25 (by decide) mw_1359 rfl dX9_isLate_14 ?_
    refine x_top (y := iI (z2)) ez2 ?_
    refine lv_iconst (v := iI (1)) hE.1 hE.2.1 dX9_isLate_17 (by decide) ?_
    refine lv_iload_n hE.1 hE.2.1 dX9_isLate_18 rfl (lv_at hl 1 rfl) ?_
    refine lv_ishl hE.1 hE.2.1 dX9_isLate_19 ?_
    obtain ⟨z3, hz3, ez3⟩ := iI_shl8 (a := z_1) (by omega)
    refine x_top ez3 ?_
    refine lv_ior hE.1 hE.2.1 dX9_isLate_20 ?_
    obtain ⟨z4, hz4, ez4⟩ := iI_or9 (a := z2) (b := z3) (by omega) (by omega)
    refine x_top ez4 ?_
    refine lv_istore_n (lv' := [(2, .int (iI (z4))), (0, .ref (ad 0)), (1, .int (iI (z_1)))]) hE.1 hE.2.1 dX9_isLate_21 rfl hl (by decide) rfl (fun ls hl => ?_)
    refine lv_iconst (v := iI (0)) hE.1 hE.2.1 dX9_isLate_22 (by decide) ?_
    refine lv_istore_n (lv' := [(3, .int (iI (0))), (2, .int (iI (z4))), (0, .ref (ad 0)), (1, .int (iI (z_1)))]) hE.1 hE.2.1 dX9_isLate_23 rfl hl (by decide) rfl (fun ls hl => ?_)
    have loop5 : ∀ (k5 : Nat) (y5_3 : Int) (ls : Array Slot), (9 - y5_3).toNat = k5 → (0 ≤ y5_3 ∧ y5_3 ≤ 9) → lv_has ls 4 [(3, .int (iI (y5_3))), (2, .int (iI (z4))), (0, .ref (ad 0)), (1, .int (iI (z_1)))] → W p l e (rmD 1) s m args below meth c s.heap [] 0 0 Q (F0 m 24 ls []) := by
      intro k5
      induction k5 using Nat.strongRecOn with
      | _ k5 ih5 =>
        intro y5_3 ls hk5 hb_y5_3 hl
        refine lv_iload_n hE.1 hE.2.1 dX9_isLate_24 rfl (lv_at hl 0 rfl) ?_
        refine lv_aload_n hE.1 hE.2.1 dX9_isLate_25 rfl (lv_at hl 2 rfl) ?_
        refine x_get (x := .ref (ad 7)) hE hK hP 0 (by decide) (yG_9 rfl) rfl hin9 17 (by decide) mw_1351 rfl dX9_isLate_26 ?_
        refine lv_iconst (v := iI (2)) hE.1 hE.2.1 dX9_isLate_29 (by decide) ?_
        refine x_iald (j := iI (2)) hE hK hP 7 (by decide) (yG_10 rfl) (iI_in (n := 30) (by omega)) dX9_isLate_30 ?_
        obtain ⟨z7, hz7, ez7⟩ := YI_h2 hI 2 (by decide)
        refine x_top (y := iI (z7)) (by rw [show (iI (2)).toNatClampNeg = 2 from by decide]; exact ez7) ?_
        refine s_icmp_ge (a := y5_3) (b := z7) (tgt := 96) hE.1 hE.2.1 (by omega) (by omega) dX9_isLate_31 (by decide) (fun c8 => ?_) (fun c8 => ?_)
        · skip
          refine lv_iconst (v := iI (0)) hE.1 hE.2.1 dX9_isLate_96 (by decide) ?_
          exact kr _ _ _ (nar01 (by omega)) ⟨0, by omega, rfl⟩ dX9_isLate_97
        · skip
          refine lv_aload_n hE.1 hE.2.1 dX9_isLate_34 rfl (lv_at hl 2 rfl) ?_
          refine x_get (x := .int (v 0 25)) hE hK hP 0 (by decide) (yG_9 rfl) rfl hin9 25 (by decide) mw_1359 rfl dX9_isLate_35 ?_
          refine x_top (y := iI (z2)) ez2 ?_
          refine lv_iload_n hE.1 hE.2.1 dX9_isLate_38 rfl (lv_at hl 0 rfl) ?_
          refine x_sp (nn := 2) (As := [.int (iI (z2)), .int (iI (y5_3))]) (rest := []) hE (s_X9_isBit l (z2) (by omega) (y5_3) (by omega)) tt_blind (fun _ _ _ => trivial) rfl mw_1683 mw_1684 mw_123 mw_1685 (by decide +kernel) ⟨by decide, by decide⟩ hl.1 rfl (Nat.le_of_ble_eq_true rfl) ⟨Nat.zero_le _, Nat.zero_le _⟩ dX9_isLate_39 (fun r9 hr9 => ?_)
          obtain ⟨z9, hz9, rfl⟩ := hr9
          refine s_if_eq (a := z9) (tgt := 90) hE.1 hE.2.1 (by omega) dX9_isLate_42 (by decide) (fun c10 => ?_) (fun c10 => ?_)
          · skip
            refine lv_iinc (v := iI (y5_3 + 1)) (lv' := [(3, .int (iI (y5_3 + 1))), (2, .int (iI (z4))), (0, .ref (ad 0)), (1, .int (iI (z_1)))]) hE.1 hE.2.1 dX9_isLate_90 hl (k := 0) rfl ((iI_add (y5_3) (1)).trans (congrArg iI (by omega))) (by decide) rfl (fun ls hl => ?_)
            refine lv_goto (tgt := 24) hE.1 hE.2.1 dX9_isLate_93 (by decide) ?_
            exact ih5 _ (by omega) (y5_3 + 1) _ rfl (by omega) (lv_sub hl [0, 1, 2, 3] rfl)
          · skip
            refine lv_aload_n hE.1 hE.2.1 dX9_isLate_45 rfl (lv_at hl 2 rfl) ?_
            refine lv_iload_n hE.1 hE.2.1 dX9_isLate_46 rfl (lv_at hl 0 rfl) ?_
            refine lv_iconst (v := iI (4)) hE.1 hE.2.1 dX9_isLate_47 (by decide) ?_
            refine x_vp (nn := 2) (As := [.int (iI (y5_3)), .int (iI (4))]) (rest := []) hE (s_X9_of l D K ad v ar al hI  (y5_3) (by omega) (4) (by omega)) wPre_blind (wPre_now hK hN hP) (x_recv hK hP 0 (by decide) (yG_9 rfl) rfl) rfl mw_1654 mw_1656 mw_73 mw_123 mw_1657 (by decide +kernel) ⟨by decide, by decide⟩ hl.1 rfl (Nat.le_of_ble_eq_true rfl) ⟨Nat.zero_le _, Nat.zero_le _⟩ dX9_isLate_48 (fun r11 hr11 => ?_)
            obtain ⟨z11, hz11, rfl⟩ := hr11
            refine lv_iconst (v := iI (-1)) hE.1 hE.2.1 dX9_isLate_51 (by decide) ?_
            refine s_icmp_eq (a := z11) (b := -1) (tgt := 90) hE.1 hE.2.1 (by omega) (by omega) dX9_isLate_52 (by decide) (fun c12 => ?_) (fun c12 => ?_)
            · skip
              refine lv_iinc (v := iI (y5_3 + 1)) (lv' := [(3, .int (iI (y5_3 + 1))), (2, .int (iI (z4))), (0, .ref (ad 0)), (1, .int (iI (z_1)))]) hE.1 hE.2.1 dX9_isLate_90 hl (k := 0) rfl ((iI_add (y5_3) (1)).trans (congrArg iI (by omega))) (by decide) rfl (fun ls hl => ?_)
              refine lv_goto (tgt := 24) hE.1 hE.2.1 dX9_isLate_93 (by decide) ?_
              exact ih5 _ (by omega) (y5_3 + 1) _ rfl (by omega) (lv_sub hl [0, 1, 2, 3] rfl)
            · skip
              refine lv_iload_n hE.1 hE.2.1 dX9_isLate_55 rfl (lv_at hl 1 rfl) ?_
              refine lv_aload_n hE.1 hE.2.1 dX9_isLate_56 rfl (lv_at hl 2 rfl) ?_
              refine lv_iload_n hE.1 hE.2.1 dX9_isLate_57 rfl (lv_at hl 0 rfl) ?_
              refine lv_iconst (v := iI (4)) hE.1 hE.2.1 dX9_isLate_58 (by decide) ?_
              refine x_vp (nn := 2) (As := [.int (iI (y5_3)), .int (iI (4))]) (rest := [.int (iI (z4))]) hE (s_X9_of l D K ad v ar al hI  (y5_3) (by omega) (4) (by omega)) wPre_blind (wPre_now hK hN hP) (x_recv hK hP 0 (by decide) (yG_9 rfl) rfl) rfl mw_1654 mw_1656 mw_73 mw_123 mw_1657 (by decide +kernel) ⟨by decide, by decide⟩ hl.1 rfl (Nat.le_of_ble_eq_true rfl) ⟨Nat.zero_le _, Nat.zero_le _⟩ dX9_isLate_59 (fun r13 hr13 => ?_)
              obtain ⟨z13, hz13, rfl⟩ := hr13
              refine x_sp (nn := 2) (As := [.int (iI (z4)), .int (iI (z13))]) (rest := []) hE (s_X9_isBit l (z4) (by omega) (z13) (by omega)) tt_blind (fun _ _ _ => trivial) rfl mw_1683 mw_1684 mw_123 mw_1685 (by decide +kernel) ⟨by decide, by decide⟩ hl.1 rfl (Nat.le_of_ble_eq_true rfl) ⟨Nat.zero_le _, Nat.zero_le _⟩ dX9_isLate_62 (fun r14 hr14 => ?_)
              obtain ⟨z14, hz14, rfl⟩ := hr14
              refine s_if_ne (a := z14) (tgt := 90) hE.1 hE.2.1 (by omega) dX9_isLate_65 (by decide) (fun c15 => ?_) (fun c15 => ?_)
              · skip
                refine lv_iinc (v := iI (y5_3 + 1)) (lv' := [(3, .int (iI (y5_3 + 1))), (2, .int (iI (z4))), (0, .ref (ad 0)), (1, .int (iI (z_1)))]) hE.1 hE.2.1 dX9_isLate_90 hl (k := 0) rfl ((iI_add (y5_3) (1)).trans (congrArg iI (by omega))) (by decide) rfl (fun ls hl => ?_)
                refine lv_goto (tgt := 24) hE.1 hE.2.1 dX9_isLate_93 (by decide) ?_
                exact ih5 _ (by omega) (y5_3 + 1) _ rfl (by omega) (lv_sub hl [0, 1, 2, 3] rfl)
              · skip
                refine lv_aload_n hE.1 hE.2.1 dX9_isLate_68 rfl (lv_at hl 2 rfl) ?_
                obtain ⟨z16, hz16, ez16⟩ := YI_get hI 0 24 0 60 (by decide)
                refine x_get (x := .int (v 0 24)) hE hK hP 0 (by decide) (yG_9 rfl) rfl hin9 24 (by decide) mw_1358 rfl dX9_isLate_69 ?_
                refine x_top (y := iI (z16)) ez16 ?_
                refine lv_aload_n hE.1 hE.2.1 dX9_isLate_72 rfl (lv_at hl 2 rfl) ?_
                refine x_get (x := .ref (ad 13)) hE hK hP 0 (by decide) (yG_9 rfl) rfl hin9 23 (by decide) mw_1357 rfl dX9_isLate_73 ?_
                refine lv_iload_n hE.1 hE.2.1 dX9_isLate_76 rfl (lv_at hl 0 rfl) ?_
                refine x_iald (j := iI (y5_3)) hE hK hP 13 (by decide) (yG_10 rfl) (iI_in (n := 9) (by omega)) dX9_isLate_77 ?_
                obtain ⟨z18, hz18, ez18⟩ := iI_of (ar 13 (iI (y5_3)).toNatClampNeg)
                refine x_top ez18 ?_
                refine lv_aload_n hE.1 hE.2.1 dX9_isLate_78 rfl (lv_at hl 2 rfl) ?_
                refine lv_iload_n hE.1 hE.2.1 dX9_isLate_79 rfl (lv_at hl 0 rfl) ?_
                refine lv_iconst (v := iI (5)) hE.1 hE.2.1 dX9_isLate_80 (by decide) ?_
                refine x_vp (nn := 2) (As := [.int (iI (y5_3)), .int (iI (5))]) (rest := [.int (iI (z18)), .int (iI (z16))]) hE (s_X9_of l D K ad v ar al hI  (y5_3) (by omega) (5) (by omega)) wPre_blind (wPre_now hK hN hP) (x_recv hK hP 0 (by decide) (yG_9 rfl) rfl) rfl mw_1654 mw_1656 mw_73 mw_123 mw_1657 (by decide +kernel) ⟨by decide, by decide⟩ hl.1 rfl (Nat.le_of_ble_eq_true rfl) ⟨Nat.zero_le _, Nat.zero_le _⟩ dX9_isLate_81 (fun r19 hr19 => ?_)
                obtain ⟨z19, hz19, rfl⟩ := hr19
                refine lv_iadd hE.1 hE.2.1 dX9_isLate_84 ?_
                obtain ⟨z20, hz20, ez20⟩ := iI_of (iI (z18) + iI (z19))
                refine x_top ez20 ?_
                refine s_icmp_lt (a := z16) (b := z20) (tgt := 90) hE.1 hE.2.1 (by omega) (by omega) dX9_isLate_85 (by decide) (fun c21 => ?_) (fun c21 => ?_)
                · skip
                  refine lv_iinc (v := iI (y5_3 + 1)) (lv' := [(3, .int (iI (y5_3 + 1))), (2, .int (iI (z4))), (0, .ref (ad 0)), (1, .int (iI (z_1)))]) hE.1 hE.2.1 dX9_isLate_90 hl (k := 0) rfl ((iI_add (y5_3) (1)).trans (congrArg iI (by omega))) (by decide) rfl (fun ls hl => ?_)
                  refine lv_goto (tgt := 24) hE.1 hE.2.1 dX9_isLate_93 (by decide) ?_
                  exact ih5 _ (by omega) (y5_3 + 1) _ rfl (by omega) (lv_sub hl [0, 1, 2, 3] rfl)
                · skip
                  refine lv_iconst (v := iI (1)) hE.1 hE.2.1 dX9_isLate_88 (by decide) ?_
                  exact kr _ _ _ (nar01 (by omega)) ⟨1, by omega, rfl⟩ dX9_isLate_89
    exact loop5 _ (0) _ rfl (by omega) hl
  · skip
    refine lv_aload_n hE.1 hE.2.1 dX9_isLate_6 rfl (lv_at hl 0 rfl) ?_
    obtain ⟨z22, hz22, ez22⟩ := YI_get hI 0 25 0 511 (by decide)
    refine x_get (x := .int (v 0 25)) hE hK hP 0 (by decide) (yG_9 rfl) rfl hin9 25 (by decide) mw_1359 rfl dX9_isLate_7 ?_
    refine x_top (y := iI (z22)) ez22 ?_
    refine lv_goto (tgt := 21) hE.1 hE.2.1 dX9_isLate_10 (by decide) ?_
    refine lv_istore_n (lv' := [(2, .int (iI (z22))), (0, .ref (ad 0)), (1, .int (iI (z_1)))]) hE.1 hE.2.1 dX9_isLate_21 rfl hl (by decide) rfl (fun ls hl => ?_)
    refine lv_iconst (v := iI (0)) hE.1 hE.2.1 dX9_isLate_22 (by decide) ?_
    refine lv_istore_n (lv' := [(3, .int (iI (0))), (2, .int (iI (z22))), (0, .ref (ad 0)), (1, .int (iI (z_1)))]) hE.1 hE.2.1 dX9_isLate_23 rfl hl (by decide) rfl (fun ls hl => ?_)
    have loop23 : ∀ (k23 : Nat) (y23_3 : Int) (ls : Array Slot), (9 - y23_3).toNat = k23 → (0 ≤ y23_3 ∧ y23_3 ≤ 9) → lv_has ls 4 [(3, .int (iI (y23_3))), (2, .int (iI (z22))), (0, .ref (ad 0)), (1, .int (iI (z_1)))] → W p l e (rmD 1) s m args below meth c s.heap [] 0 0 Q (F0 m 24 ls []) := by
      intro k23
      induction k23 using Nat.strongRecOn with
      | _ k23 ih23 =>
        intro y23_3 ls hk23 hb_y23_3 hl
        refine lv_iload_n hE.1 hE.2.1 dX9_isLate_24 rfl (lv_at hl 0 rfl) ?_
        refine lv_aload_n hE.1 hE.2.1 dX9_isLate_25 rfl (lv_at hl 2 rfl) ?_
        refine x_get (x := .ref (ad 7)) hE hK hP 0 (by decide) (yG_9 rfl) rfl hin9 17 (by decide) mw_1351 rfl dX9_isLate_26 ?_
        refine lv_iconst (v := iI (2)) hE.1 hE.2.1 dX9_isLate_29 (by decide) ?_
        refine x_iald (j := iI (2)) hE hK hP 7 (by decide) (yG_10 rfl) (iI_in (n := 30) (by omega)) dX9_isLate_30 ?_
        obtain ⟨z25, hz25, ez25⟩ := YI_h2 hI 2 (by decide)
        refine x_top (y := iI (z25)) (by rw [show (iI (2)).toNatClampNeg = 2 from by decide]; exact ez25) ?_
        refine s_icmp_ge (a := y23_3) (b := z25) (tgt := 96) hE.1 hE.2.1 (by omega) (by omega) dX9_isLate_31 (by decide) (fun c26 => ?_) (fun c26 => ?_)
        · skip
          refine lv_iconst (v := iI (0)) hE.1 hE.2.1 dX9_isLate_96 (by decide) ?_
          exact kr _ _ _ (nar01 (by omega)) ⟨0, by omega, rfl⟩ dX9_isLate_97
        · skip
          refine lv_aload_n hE.1 hE.2.1 dX9_isLate_34 rfl (lv_at hl 2 rfl) ?_
          refine x_get (x := .int (v 0 25)) hE hK hP 0 (by decide) (yG_9 rfl) rfl hin9 25 (by decide) mw_1359 rfl dX9_isLate_35 ?_
          refine x_top (y := iI (z22)) ez22 ?_
          refine lv_iload_n hE.1 hE.2.1 dX9_isLate_38 rfl (lv_at hl 0 rfl) ?_
          refine x_sp (nn := 2) (As := [.int (iI (z22)), .int (iI (y23_3))]) (rest := []) hE (s_X9_isBit l (z22) (by omega) (y23_3) (by omega)) tt_blind (fun _ _ _ => trivial) rfl mw_1683 mw_1684 mw_123 mw_1685 (by decide +kernel) ⟨by decide, by decide⟩ hl.1 rfl (Nat.le_of_ble_eq_true rfl) ⟨Nat.zero_le _, Nat.zero_le _⟩ dX9_isLate_39 (fun r27 hr27 => ?_)
          obtain ⟨z27, hz27, rfl⟩ := hr27
          refine s_if_eq (a := z27) (tgt := 90) hE.1 hE.2.1 (by omega) dX9_isLate_42 (by decide) (fun c28 => ?_) (fun c28 => ?_)
          · skip
            refine lv_iinc (v := iI (y23_3 + 1)) (lv' := [(3, .int (iI (y23_3 + 1))), (2, .int (iI (z22))), (0, .ref (ad 0)), (1, .int (iI (z_1)))]) hE.1 hE.2.1 dX9_isLate_90 hl (k := 0) rfl ((iI_add (y23_3) (1)).trans (congrArg iI (by omega))) (by decide) rfl (fun ls hl => ?_)
            refine lv_goto (tgt := 24) hE.1 hE.2.1 dX9_isLate_93 (by decide) ?_
            exact ih23 _ (by omega) (y23_3 + 1) _ rfl (by omega) (lv_sub hl [0, 1, 2, 3] rfl)
          · skip
            refine lv_aload_n hE.1 hE.2.1 dX9_isLate_45 rfl (lv_at hl 2 rfl) ?_
            refine lv_iload_n hE.1 hE.2.1 dX9_isLate_46 rfl (lv_at hl 0 rfl) ?_
            refine lv_iconst (v := iI (4)) hE.1 hE.2.1 dX9_isLate_47 (by decide) ?_
            refine x_vp (nn := 2) (As := [.int (iI (y23_3)), .int (iI (4))]) (rest := []) hE (s_X9_of l D K ad v ar al hI  (y23_3) (by omega) (4) (by omega)) wPre_blind (wPre_now hK hN hP) (x_recv hK hP 0 (by decide) (yG_9 rfl) rfl) rfl mw_1654 mw_1656 mw_73 mw_123 mw_1657 (by decide +kernel) ⟨by decide, by decide⟩ hl.1 rfl (Nat.le_of_ble_eq_true rfl) ⟨Nat.zero_le _, Nat.zero_le _⟩ dX9_isLate_48 (fun r29 hr29 => ?_)
            obtain ⟨z29, hz29, rfl⟩ := hr29
            refine lv_iconst (v := iI (-1)) hE.1 hE.2.1 dX9_isLate_51 (by decide) ?_
            refine s_icmp_eq (a := z29) (b := -1) (tgt := 90) hE.1 hE.2.1 (by omega) (by omega) dX9_isLate_52 (by decide) (fun c30 => ?_) (fun c30 => ?_)
            · skip
              refine lv_iinc (v := iI (y23_3 + 1)) (lv' := [(3, .int (iI (y23_3 + 1))), (2, .int (iI (z22))), (0, .ref (ad 0)), (1, .int (iI (z_1)))]) hE.1 hE.2.1 dX9_isLate_90 hl (k := 0) rfl ((iI_add (y23_3) (1)).trans (congrArg iI (by omega))) (by decide) rfl (fun ls hl => ?_)
              refine lv_goto (tgt := 24) hE.1 hE.2.1 dX9_isLate_93 (by decide) ?_
              exact ih23 _ (by omega) (y23_3 + 1) _ rfl (by omega) (lv_sub hl [0, 1, 2, 3] rfl)
            · skip
              refine lv_iload_n hE.1 hE.2.1 dX9_isLate_55 rfl (lv_at hl 1 rfl) ?_
              refine lv_aload_n hE.1 hE.2.1 dX9_isLate_56 rfl (lv_at hl 2 rfl) ?_
              refine lv_iload_n hE.1 hE.2.1 dX9_isLate_57 rfl (lv_at hl 0 rfl) ?_
              refine lv_iconst (v := iI (4)) hE.1 hE.2.1 dX9_isLate_58 (by decide) ?_
              refine x_vp (nn := 2) (As := [.int (iI (y23_3)), .int (iI (4))]) (rest := [.int (iI (z22))]) hE (s_X9_of l D K ad v ar al hI  (y23_3) (by omega) (4) (by omega)) wPre_blind (wPre_now hK hN hP) (x_recv hK hP 0 (by decide) (yG_9 rfl) rfl) rfl mw_1654 mw_1656 mw_73 mw_123 mw_1657 (by decide +kernel) ⟨by decide, by decide⟩ hl.1 rfl (Nat.le_of_ble_eq_true rfl) ⟨Nat.zero_le _, Nat.zero_le _⟩ dX9_isLate_59 (fun r31 hr31 => ?_)
              obtain ⟨z31, hz31, rfl⟩ := hr31
              refine x_sp (nn := 2) (As := [.int (iI (z22)), .int (iI (z31))]) (rest := []) hE (s_X9_isBit l (z22) (by omega) (z31) (by omega)) tt_blind (fun _ _ _ => trivial) rfl mw_1683 mw_1684 mw_123 mw_1685 (by decide +kernel) ⟨by decide, by decide⟩ hl.1 rfl (Nat.le_of_ble_eq_true rfl) ⟨Nat.zero_le _, Nat.zero_le _⟩ dX9_isLate_62 (fun r32 hr32 => ?_)
              obtain ⟨z32, hz32, rfl⟩ := hr32
              refine s_if_ne (a := z32) (tgt := 90) hE.1 hE.2.1 (by omega) dX9_isLate_65 (by decide) (fun c33 => ?_) (fun c33 => ?_)
              · skip
                refine lv_iinc (v := iI (y23_3 + 1)) (lv' := [(3, .int (iI (y23_3 + 1))), (2, .int (iI (z22))), (0, .ref (ad 0)), (1, .int (iI (z_1)))]) hE.1 hE.2.1 dX9_isLate_90 hl (k := 0) rfl ((iI_add (y23_3) (1)).trans (congrArg iI (by omega))) (by decide) rfl (fun ls hl => ?_)
                refine lv_goto (tgt := 24) hE.1 hE.2.1 dX9_isLate_93 (by decide) ?_
                exact ih23 _ (by omega) (y23_3 + 1) _ rfl (by omega) (lv_sub hl [0, 1, 2, 3] rfl)
              · skip
                refine lv_aload_n hE.1 hE.2.1 dX9_isLate_68 rfl (lv_at hl 2 rfl) ?_
                obtain ⟨z34, hz34, ez34⟩ := YI_get hI 0 24 0 60 (by decide)
                refine x_get (x := .int (v 0 24)) hE hK hP 0 (by decide) (yG_9 rfl) rfl hin9 24 (by decide) mw_1358 rfl dX9_isLate_69 ?_
                refine x_top (y := iI (z34)) ez34 ?_
                refine lv_aload_n hE.1 hE.2.1 dX9_isLate_72 rfl (lv_at hl 2 rfl) ?_
                refine x_get (x := .ref (ad 13)) hE hK hP 0 (by decide) (yG_9 rfl) rfl hin9 23 (by decide) mw_1357 rfl dX9_isLate_73 ?_
                refine lv_iload_n hE.1 hE.2.1 dX9_isLate_76 rfl (lv_at hl 0 rfl) ?_
                refine x_iald (j := iI (y23_3)) hE hK hP 13 (by decide) (yG_10 rfl) (iI_in (n := 9) (by omega)) dX9_isLate_77 ?_
                obtain ⟨z36, hz36, ez36⟩ := iI_of (ar 13 (iI (y23_3)).toNatClampNeg)
                refine x_top ez36 ?_
                refine lv_aload_n hE.1 hE.2.1 dX9_isLate_78 rfl (lv_at hl 2 rfl) ?_
                refine lv_iload_n hE.1 hE.2.1 dX9_isLate_79 rfl (lv_at hl 0 rfl) ?_
                refine lv_iconst (v := iI (5)) hE.1 hE.2.1 dX9_isLate_80 (by decide) ?_
                refine x_vp (nn := 2) (As := [.int (iI (y23_3)), .int (iI (5))]) (rest := [.int (iI (z36)), .int (iI (z34))]) hE (s_X9_of l D K ad v ar al hI  (y23_3) (by omega) (5) (by omega)) wPre_blind (wPre_now hK hN hP) (x_recv hK hP 0 (by decide) (yG_9 rfl) rfl) rfl mw_1654 mw_1656 mw_73 mw_123 mw_1657 (by decide +kernel) ⟨by decide, by decide⟩ hl.1 rfl (Nat.le_of_ble_eq_true rfl) ⟨Nat.zero_le _, Nat.zero_le _⟩ dX9_isLate_81 (fun r37 hr37 => ?_)
                obtain ⟨z37, hz37, rfl⟩ := hr37
                refine lv_iadd hE.1 hE.2.1 dX9_isLate_84 ?_
                obtain ⟨z38, hz38, ez38⟩ := iI_of (iI (z36) + iI (z37))
                refine x_top ez38 ?_
                refine s_icmp_lt (a := z34) (b := z38) (tgt := 90) hE.1 hE.2.1 (by omega) (by omega) dX9_isLate_85 (by decide) (fun c39 => ?_) (fun c39 => ?_)
                · skip
                  refine lv_iinc (v := iI (y23_3 + 1)) (lv' := [(3, .int (iI (y23_3 + 1))), (2, .int (iI (z22))), (0, .ref (ad 0)), (1, .int (iI (z_1)))]) hE.1 hE.2.1 dX9_isLate_90 hl (k := 0) rfl ((iI_add (y23_3) (1)).trans (congrArg iI (by omega))) (by decide) rfl (fun ls hl => ?_)
                  refine lv_goto (tgt := 24) hE.1 hE.2.1 dX9_isLate_93 (by decide) ?_
                  exact ih23 _ (by omega) (y23_3 + 1) _ rfl (by omega) (lv_sub hl [0, 1, 2, 3] rfl)
                · skip
                  refine lv_iconst (v := iI (1)) hE.1 hE.2.1 dX9_isLate_88 (by decide) ?_
                  exact kr _ _ _ (nar01 (by omega)) ⟨1, by omega, rfl⟩ dX9_isLate_89
    exact loop23 _ (0) _ rfl (by omega) hl

theorem dX9_whyNot_0 : decode cX9_whyNot 0 = .ok (.aload_n 0, 1) := by decide +kernel
theorem dX9_whyNot_1 : decode cX9_whyNot 1 = .ok (.getfield 268, 3) := by decide +kernel
theorem dX9_whyNot_4 : decode cX9_whyNot 4 = .ok (.iload_n 1, 1) := by decide +kernel
theorem dX9_whyNot_5 : decode cX9_whyNot 5 = .ok (.invokestatic 261, 3) := by decide +kernel
theorem dX9_whyNot_8 : decode cX9_whyNot 8 = .ok (.ifCond .eq 5, 3) := by decide +kernel
theorem dX9_whyNot_11 : decode cX9_whyNot 11 = .ok (.iconst 1, 1) := by decide +kernel
theorem dX9_whyNot_12 : decode cX9_whyNot 12 = .ok (.ireturn, 1) := by decide +kernel
theorem dX9_whyNot_13 : decode cX9_whyNot 13 = .ok (.aload_n 0, 1) := by decide +kernel
theorem dX9_whyNot_14 : decode cX9_whyNot 14 = .ok (.getfield 268, 3) := by decide +kernel
theorem dX9_whyNot_17 : decode cX9_whyNot 17 = .ok (.aload_n 0, 1) := by decide +kernel
theorem dX9_whyNot_18 : decode cX9_whyNot 18 = .ok (.iload_n 1, 1) := by decide +kernel
theorem dX9_whyNot_19 : decode cX9_whyNot 19 = .ok (.bipush 8, 2) := by decide +kernel
theorem dX9_whyNot_21 : decode cX9_whyNot 21 = .ok (.invokevirtual 258, 3) := by decide +kernel
theorem dX9_whyNot_24 : decode cX9_whyNot 24 = .ok (.iand, 1) := by decide +kernel
theorem dX9_whyNot_25 : decode cX9_whyNot 25 = .ok (.ifCond .eq 5, 3) := by decide +kernel
theorem dX9_whyNot_28 : decode cX9_whyNot 28 = .ok (.iconst 2, 1) := by decide +kernel
theorem dX9_whyNot_29 : decode cX9_whyNot 29 = .ok (.ireturn, 1) := by decide +kernel
theorem dX9_whyNot_30 : decode cX9_whyNot 30 = .ok (.aload_n 0, 1) := by decide +kernel
theorem dX9_whyNot_31 : decode cX9_whyNot 31 = .ok (.iload_n 1, 1) := by decide +kernel
theorem dX9_whyNot_32 : decode cX9_whyNot 32 = .ok (.invokevirtual 286, 3) := by decide +kernel
theorem dX9_whyNot_35 : decode cX9_whyNot 35 = .ok (.ifCond .ne 5, 3) := by decide +kernel
theorem dX9_whyNot_38 : decode cX9_whyNot 38 = .ok (.iconst 3, 1) := by decide +kernel
theorem dX9_whyNot_39 : decode cX9_whyNot 39 = .ok (.ireturn, 1) := by decide +kernel
theorem dX9_whyNot_40 : decode cX9_whyNot 40 = .ok (.aload_n 0, 1) := by decide +kernel
theorem dX9_whyNot_41 : decode cX9_whyNot 41 = .ok (.iload_n 1, 1) := by decide +kernel
theorem dX9_whyNot_42 : decode cX9_whyNot 42 = .ok (.iconst 2, 1) := by decide +kernel
theorem dX9_whyNot_43 : decode cX9_whyNot 43 = .ok (.invokevirtual 258, 3) := by decide +kernel
theorem dX9_whyNot_46 : decode cX9_whyNot 46 = .ok (.iconst 1, 1) := by decide +kernel
theorem dX9_whyNot_47 : decode cX9_whyNot 47 = .ok (.if_icmp .ne 14, 3) := by decide +kernel
theorem dX9_whyNot_50 : decode cX9_whyNot 50 = .ok (.aload_n 0, 1) := by decide +kernel
theorem dX9_whyNot_51 : decode cX9_whyNot 51 = .ok (.getfield 265, 3) := by decide +kernel
theorem dX9_whyNot_54 : decode cX9_whyNot 54 = .ok (.iconst 2, 1) := by decide +kernel
theorem dX9_whyNot_55 : decode cX9_whyNot 55 = .ok (.irem, 1) := by decide +kernel
theorem dX9_whyNot_56 : decode cX9_whyNot 56 = .ok (.ifCond .ne 5, 3) := by decide +kernel
theorem dX9_whyNot_59 : decode cX9_whyNot 59 = .ok (.iconst 4, 1) := by decide +kernel
theorem dX9_whyNot_60 : decode cX9_whyNot 60 = .ok (.ireturn, 1) := by decide +kernel
theorem dX9_whyNot_61 : decode cX9_whyNot 61 = .ok (.aload_n 0, 1) := by decide +kernel
theorem dX9_whyNot_62 : decode cX9_whyNot 62 = .ok (.iload_n 1, 1) := by decide +kernel
theorem dX9_whyNot_63 : decode cX9_whyNot 63 = .ok (.invokevirtual 289, 3) := by decide +kernel
theorem dX9_whyNot_66 : decode cX9_whyNot 66 = .ok (.ifCond .eq 5, 3) := by decide +kernel
theorem dX9_whyNot_69 : decode cX9_whyNot 69 = .ok (.iconst 5, 1) := by decide +kernel
theorem dX9_whyNot_70 : decode cX9_whyNot 70 = .ok (.ireturn, 1) := by decide +kernel
theorem dX9_whyNot_71 : decode cX9_whyNot 71 = .ok (.aload_n 0, 1) := by decide +kernel
theorem dX9_whyNot_72 : decode cX9_whyNot 72 = .ok (.iload_n 1, 1) := by decide +kernel
theorem dX9_whyNot_73 : decode cX9_whyNot 73 = .ok (.bipush 6, 2) := by decide +kernel
theorem dX9_whyNot_75 : decode cX9_whyNot 75 = .ok (.invokevirtual 258, 3) := by decide +kernel
theorem dX9_whyNot_78 : decode cX9_whyNot 78 = .ok (.iconst (-1), 1) := by decide +kernel
theorem dX9_whyNot_79 : decode cX9_whyNot 79 = .ok (.if_icmp .eq 29, 3) := by decide +kernel
theorem dX9_whyNot_82 : decode cX9_whyNot 82 = .ok (.aload_n 0, 1) := by decide +kernel
theorem dX9_whyNot_83 : decode cX9_whyNot 83 = .ok (.iload_n 1, 1) := by decide +kernel
theorem dX9_whyNot_84 : decode cX9_whyNot 84 = .ok (.bipush 6, 2) := by decide +kernel
theorem dX9_whyNot_86 : decode cX9_whyNot 86 = .ok (.invokevirtual 258, 3) := by decide +kernel
theorem dX9_whyNot_89 : decode cX9_whyNot 89 = .ok (.aload_n 0, 1) := by decide +kernel
theorem dX9_whyNot_90 : decode cX9_whyNot 90 = .ok (.getfield 265, 3) := by decide +kernel
theorem dX9_whyNot_93 : decode cX9_whyNot 93 = .ok (.aload_n 0, 1) := by decide +kernel
theorem dX9_whyNot_94 : decode cX9_whyNot 94 = .ok (.getfield 34, 3) := by decide +kernel
theorem dX9_whyNot_97 : decode cX9_whyNot 97 = .ok (.iconst 0, 1) := by decide +kernel
theorem dX9_whyNot_98 : decode cX9_whyNot 98 = .ok (.iaload, 1) := by decide +kernel
theorem dX9_whyNot_99 : decode cX9_whyNot 99 = .ok (.irem, 1) := by decide +kernel
theorem dX9_whyNot_100 : decode cX9_whyNot 100 = .ok (.if_icmp .eq 8, 3) := by decide +kernel
theorem dX9_whyNot_103 : decode cX9_whyNot 103 = .ok (.bipush 6, 2) := by decide +kernel
theorem dX9_whyNot_105 : decode cX9_whyNot 105 = .ok (.goto 4, 3) := by decide +kernel
theorem dX9_whyNot_108 : decode cX9_whyNot 108 = .ok (.iconst 0, 1) := by decide +kernel
theorem dX9_whyNot_109 : decode cX9_whyNot 109 = .ok (.ireturn, 1) := by decide +kernel
set_option maxHeartbeats 4000000 in
set_option maxRecDepth 100000 in
theorem s_X9_whyNot (l : Launch) (D : va_G) (K : Nat → ClassId) (ad : Nat → Nat) (v ar : sI) (al : sL) (hI : YI v ar) (w_1 : Int) (hw_1 : 1 ≤ w_1 ∧ w_1 ≤ 3) (ew_1 : ar 7 0 = iI w_1) (z_1 : Int) (hz_1 : 0 ≤ z_1 ∧ z_1 ≤ 8) : Met l yX9_whyNot (wM yX9_whyNot cX9_whyNot 2 (some .int)) (rmD 2) (va_Pc [.ref (ad 0), .int (iI (z_1))] (wPre D K ad (yG ad K) 21 v ar al)) (vp_Si (fun r => ∃ z : Int, (0 ≤ z ∧ z ≤ 6) ∧ r = iI z)) 0 0 (fun _ => False) := by
  refine s_metP (by decide) (Nat.le_of_ble_eq_true rfl) ?_
  intro p e s m below meth c ls args Q hE hB hl kr
  have hE : CallFix p m c cX9_whyNot 2 s args tbG "TaleCourtModel" := hE
  obtain ⟨hP, hK, hN⟩ := hB
  have hl : lv_has ls 2 [(0, .ref (ad 0)), (1, .int (iI (z_1)))] := hl
  refine lv_aload_n hE.1 hE.2.1 dX9_whyNot_0 rfl (lv_at hl 0 rfl) ?_
  obtain ⟨z1, hz1, ez1⟩ := YI_get hI 0 25 0 511 (by decide)
  refine x_get (x := .int (v 0 25)) hE hK hP 0 (by decide) (yG_9 rfl) rfl hin9 25 (by decide) mw_1359 rfl dX9_whyNot_1 ?_
  refine x_top (y := iI (z1)) ez1 ?_
  refine lv_iload_n hE.1 hE.2.1 dX9_whyNot_4 rfl (lv_at hl 1 rfl) ?_
  refine x_sp (nn := 2) (As := [.int (iI (z1)), .int (iI (z_1))]) (rest := []) hE (s_X9_isBit l (z1) (by omega) (z_1) (by omega)) tt_blind (fun _ _ _ => trivial) rfl mw_1683 mw_1684 mw_123 mw_1685 (by decide +kernel) ⟨by decide, by decide⟩ hl.1 rfl (Nat.le_of_ble_eq_true rfl) ⟨Nat.zero_le _, Nat.zero_le _⟩ dX9_whyNot_5 (fun r2 hr2 => ?_)
  obtain ⟨z2, hz2, rfl⟩ := hr2
  refine s_if_eq (a := z2) (tgt := 13) hE.1 hE.2.1 (by omega) dX9_whyNot_8 (by decide) (fun c3 => ?_) (fun c3 => ?_)
  · skip
    refine lv_aload_n hE.1 hE.2.1 dX9_whyNot_13 rfl (lv_at hl 0 rfl) ?_
    refine x_get (x := .int (v 0 25)) hE hK hP 0 (by decide) (yG_9 rfl) rfl hin9 25 (by decide) mw_1359 rfl dX9_whyNot_14 ?_
    refine x_top (y := iI (z1)) ez1 ?_
    refine lv_aload_n hE.1 hE.2.1 dX9_whyNot_17 rfl (lv_at hl 0 rfl) ?_
    refine lv_iload_n hE.1 hE.2.1 dX9_whyNot_18 rfl (lv_at hl 1 rfl) ?_
    refine lv_bipush (v := iI (8)) hE.1 hE.2.1 dX9_whyNot_19 (by decide) ?_
    refine x_vp (nn := 2) (As := [.int (iI (z_1)), .int (iI (8))]) (rest := [.int (iI (z1))]) hE (s_X9_of l D K ad v ar al hI  (z_1) (by omega) (8) (by omega)) wPre_blind (wPre_now hK hN hP) (x_recv hK hP 0 (by decide) (yG_9 rfl) rfl) rfl mw_1654 mw_1656 mw_73 mw_123 mw_1657 (by decide +kernel) ⟨by decide, by decide⟩ hl.1 rfl (Nat.le_of_ble_eq_true rfl) ⟨Nat.zero_le _, Nat.zero_le _⟩ dX9_whyNot_21 (fun r4 hr4 => ?_)
    obtain ⟨z4, hz4, rfl⟩ := hr4
    refine lv_iand hE.1 hE.2.1 dX9_whyNot_24 ?_
    obtain ⟨z5, hz5, ez5⟩ := iI_and9 (a := z1) (by omega) (iI (z4))
    refine x_top ez5 ?_
    refine s_if_eq (a := z5) (tgt := 30) hE.1 hE.2.1 (by omega) dX9_whyNot_25 (by decide) (fun c6 => ?_) (fun c6 => ?_)
    · skip
      refine lv_aload_n hE.1 hE.2.1 dX9_whyNot_30 rfl (lv_at hl 0 rfl) ?_
      refine lv_iload_n hE.1 hE.2.1 dX9_whyNot_31 rfl (lv_at hl 1 rfl) ?_
      refine x_vp (nn := 1) (As := [.int (iI (z_1))]) (rest := []) hE (s_X9_joinsOn l D K ad v ar al hI  (z_1) (by omega)) wPre_blind (wPre_now hK hN hP) (x_recv hK hP 0 (by decide) (yG_9 rfl) rfl) rfl mw_1702 mw_1704 mw_76 mw_123 mw_1705 (by decide +kernel) ⟨by decide, by decide⟩ hl.1 rfl (Nat.le_of_ble_eq_true rfl) ⟨Nat.zero_le _, Nat.zero_le _⟩ dX9_whyNot_32 (fun r7 hr7 => ?_)
      obtain ⟨z7, hz7, rfl⟩ := hr7
      refine s_if_ne (a := z7) (tgt := 40) hE.1 hE.2.1 (by omega) dX9_whyNot_35 (by decide) (fun c8 => ?_) (fun c8 => ?_)
      · skip
        refine lv_aload_n hE.1 hE.2.1 dX9_whyNot_40 rfl (lv_at hl 0 rfl) ?_
        refine lv_iload_n hE.1 hE.2.1 dX9_whyNot_41 rfl (lv_at hl 1 rfl) ?_
        refine lv_iconst (v := iI (2)) hE.1 hE.2.1 dX9_whyNot_42 (by decide) ?_
        refine x_vp (nn := 2) (As := [.int (iI (z_1)), .int (iI (2))]) (rest := []) hE (s_X9_of l D K ad v ar al hI  (z_1) (by omega) (2) (by omega)) wPre_blind (wPre_now hK hN hP) (x_recv hK hP 0 (by decide) (yG_9 rfl) rfl) rfl mw_1654 mw_1656 mw_73 mw_123 mw_1657 (by decide +kernel) ⟨by decide, by decide⟩ hl.1 rfl (Nat.le_of_ble_eq_true rfl) ⟨Nat.zero_le _, Nat.zero_le _⟩ dX9_whyNot_43 (fun r9 hr9 => ?_)
        obtain ⟨z9, hz9, rfl⟩ := hr9
        refine lv_iconst (v := iI (1)) hE.1 hE.2.1 dX9_whyNot_46 (by decide) ?_
        refine s_icmp_ne (a := z9) (b := 1) (tgt := 61) hE.1 hE.2.1 (by omega) (by omega) dX9_whyNot_47 (by decide) (fun c10 => ?_) (fun c10 => ?_)
        · skip
          refine lv_aload_n hE.1 hE.2.1 dX9_whyNot_61 rfl (lv_at hl 0 rfl) ?_
          refine lv_iload_n hE.1 hE.2.1 dX9_whyNot_62 rfl (lv_at hl 1 rfl) ?_
          refine x_vp (nn := 1) (As := [.int (iI (z_1))]) (rest := []) hE (s_X9_isLate l D K ad v ar al hI  (z_1) (by omega)) wPre_blind (wPre_now hK hN hP) (x_recv hK hP 0 (by decide) (yG_9 rfl) rfl) rfl mw_1706 mw_1708 mw_77 mw_123 mw_1709 (by decide +kernel) ⟨by decide, by decide⟩ hl.1 rfl (Nat.le_of_ble_eq_true rfl) ⟨Nat.zero_le _, Nat.zero_le _⟩ dX9_whyNot_63 (fun r11 hr11 => ?_)
          obtain ⟨z11, hz11, rfl⟩ := hr11
          refine s_if_eq (a := z11) (tgt := 71) hE.1 hE.2.1 (by omega) dX9_whyNot_66 (by decide) (fun c12 => ?_) (fun c12 => ?_)
          · skip
            refine lv_aload_n hE.1 hE.2.1 dX9_whyNot_71 rfl (lv_at hl 0 rfl) ?_
            refine lv_iload_n hE.1 hE.2.1 dX9_whyNot_72 rfl (lv_at hl 1 rfl) ?_
            refine lv_bipush (v := iI (6)) hE.1 hE.2.1 dX9_whyNot_73 (by decide) ?_
            refine x_vp (nn := 2) (As := [.int (iI (z_1)), .int (iI (6))]) (rest := []) hE (s_X9_of l D K ad v ar al hI  (z_1) (by omega) (6) (by omega)) wPre_blind (wPre_now hK hN hP) (x_recv hK hP 0 (by decide) (yG_9 rfl) rfl) rfl mw_1654 mw_1656 mw_73 mw_123 mw_1657 (by decide +kernel) ⟨by decide, by decide⟩ hl.1 rfl (Nat.le_of_ble_eq_true rfl) ⟨Nat.zero_le _, Nat.zero_le _⟩ dX9_whyNot_75 (fun r13 hr13 => ?_)
            obtain ⟨z13, hz13, rfl⟩ := hr13
            refine lv_iconst (v := iI (-1)) hE.1 hE.2.1 dX9_whyNot_78 (by decide) ?_
            refine s_icmp_eq (a := z13) (b := -1) (tgt := 108) hE.1 hE.2.1 (by omega) (by omega) dX9_whyNot_79 (by decide) (fun c14 => ?_) (fun c14 => ?_)
            · skip
              refine lv_iconst (v := iI (0)) hE.1 hE.2.1 dX9_whyNot_108 (by decide) ?_
              exact kr _ _ _ rfl ⟨0, by omega, rfl⟩ dX9_whyNot_109
            · skip
              refine lv_aload_n hE.1 hE.2.1 dX9_whyNot_82 rfl (lv_at hl 0 rfl) ?_
              refine lv_iload_n hE.1 hE.2.1 dX9_whyNot_83 rfl (lv_at hl 1 rfl) ?_
              refine lv_bipush (v := iI (6)) hE.1 hE.2.1 dX9_whyNot_84 (by decide) ?_
              refine x_vp (nn := 2) (As := [.int (iI (z_1)), .int (iI (6))]) (rest := []) hE (s_X9_of l D K ad v ar al hI  (z_1) (by omega) (6) (by omega)) wPre_blind (wPre_now hK hN hP) (x_recv hK hP 0 (by decide) (yG_9 rfl) rfl) rfl mw_1654 mw_1656 mw_73 mw_123 mw_1657 (by decide +kernel) ⟨by decide, by decide⟩ hl.1 rfl (Nat.le_of_ble_eq_true rfl) ⟨Nat.zero_le _, Nat.zero_le _⟩ dX9_whyNot_86 (fun r15 hr15 => ?_)
              obtain ⟨z15, hz15, rfl⟩ := hr15
              refine lv_aload_n hE.1 hE.2.1 dX9_whyNot_89 rfl (lv_at hl 0 rfl) ?_
              obtain ⟨z16, hz16, ez16⟩ := YI_get hI 0 24 0 60 (by decide)
              refine x_get (x := .int (v 0 24)) hE hK hP 0 (by decide) (yG_9 rfl) rfl hin9 24 (by decide) mw_1358 rfl dX9_whyNot_90 ?_
              refine x_top (y := iI (z16)) ez16 ?_
              refine lv_aload_n hE.1 hE.2.1 dX9_whyNot_93 rfl (lv_at hl 0 rfl) ?_
              refine x_get (x := .ref (ad 7)) hE hK hP 0 (by decide) (yG_9 rfl) rfl hin9 17 (by decide) mw_1351 rfl dX9_whyNot_94 ?_
              refine lv_iconst (v := iI (0)) hE.1 hE.2.1 dX9_whyNot_97 (by decide) ?_
              refine x_iald (j := iI (0)) hE hK hP 7 (by decide) (yG_10 rfl) (iI_in (n := 30) (by omega)) dX9_whyNot_98 ?_
              refine x_top (y := iI (w_1)) (by rw [show (iI (0)).toNatClampNeg = 0 from by decide]; exact ew_1) ?_
              refine lv_irem hE.1 hE.2.1 dX9_whyNot_99 (iI_ne0 (by omega) (by omega)) ?_
              obtain ⟨z18, hz18⟩ : ∃ z : Int, z = (z16) % (w_1) ∧ 0 ≤ z ∧ z < w_1 := ⟨_, rfl, Int.emod_nonneg _ (by omega), Int.emod_lt_of_pos _ (by omega)⟩
              refine x_top (y := iI (z18)) ((iI_rem (by omega) (by omega)).trans (congrArg iI hz18.1.symm)) ?_
              replace hz18 := hz18.2
              refine s_icmp_eq (a := z15) (b := z18) (tgt := 108) hE.1 hE.2.1 (by omega) (by omega) dX9_whyNot_100 (by decide) (fun c19 => ?_) (fun c19 => ?_)
              · skip
                refine lv_iconst (v := iI (0)) hE.1 hE.2.1 dX9_whyNot_108 (by decide) ?_
                exact kr _ _ _ rfl ⟨0, by omega, rfl⟩ dX9_whyNot_109
              · skip
                refine lv_bipush (v := iI (6)) hE.1 hE.2.1 dX9_whyNot_103 (by decide) ?_
                refine lv_goto (tgt := 109) hE.1 hE.2.1 dX9_whyNot_105 (by decide) ?_
                exact kr _ _ _ rfl ⟨6, by omega, rfl⟩ dX9_whyNot_109
          · skip
            refine lv_iconst (v := iI (5)) hE.1 hE.2.1 dX9_whyNot_69 (by decide) ?_
            exact kr _ _ _ rfl ⟨5, by omega, rfl⟩ dX9_whyNot_70
        · skip
          refine lv_aload_n hE.1 hE.2.1 dX9_whyNot_50 rfl (lv_at hl 0 rfl) ?_
          obtain ⟨z20, hz20, ez20⟩ := YI_get hI 0 24 0 60 (by decide)
          refine x_get (x := .int (v 0 24)) hE hK hP 0 (by decide) (yG_9 rfl) rfl hin9 24 (by decide) mw_1358 rfl dX9_whyNot_51 ?_
          refine x_top (y := iI (z20)) ez20 ?_
          refine lv_iconst (v := iI (2)) hE.1 hE.2.1 dX9_whyNot_54 (by decide) ?_
          refine lv_irem hE.1 hE.2.1 dX9_whyNot_55 (iI_ne0 (by omega) (by omega)) ?_
          obtain ⟨z21, hz21⟩ : ∃ z : Int, z = (z20) % (2) ∧ 0 ≤ z ∧ z < 2 := ⟨_, rfl, Int.emod_nonneg _ (by omega), Int.emod_lt_of_pos _ (by omega)⟩
          refine x_top (y := iI (z21)) ((iI_rem (by omega) (by omega)).trans (congrArg iI hz21.1.symm)) ?_
          replace hz21 := hz21.2
          refine s_if_ne (a := z21) (tgt := 61) hE.1 hE.2.1 (by omega) dX9_whyNot_56 (by decide) (fun c22 => ?_) (fun c22 => ?_)
          · skip
            refine lv_aload_n hE.1 hE.2.1 dX9_whyNot_61 rfl (lv_at hl 0 rfl) ?_
            refine lv_iload_n hE.1 hE.2.1 dX9_whyNot_62 rfl (lv_at hl 1 rfl) ?_
            refine x_vp (nn := 1) (As := [.int (iI (z_1))]) (rest := []) hE (s_X9_isLate l D K ad v ar al hI  (z_1) (by omega)) wPre_blind (wPre_now hK hN hP) (x_recv hK hP 0 (by decide) (yG_9 rfl) rfl) rfl mw_1706 mw_1708 mw_77 mw_123 mw_1709 (by decide +kernel) ⟨by decide, by decide⟩ hl.1 rfl (Nat.le_of_ble_eq_true rfl) ⟨Nat.zero_le _, Nat.zero_le _⟩ dX9_whyNot_63 (fun r23 hr23 => ?_)
            obtain ⟨z23, hz23, rfl⟩ := hr23
            refine s_if_eq (a := z23) (tgt := 71) hE.1 hE.2.1 (by omega) dX9_whyNot_66 (by decide) (fun c24 => ?_) (fun c24 => ?_)
            · skip
              refine lv_aload_n hE.1 hE.2.1 dX9_whyNot_71 rfl (lv_at hl 0 rfl) ?_
              refine lv_iload_n hE.1 hE.2.1 dX9_whyNot_72 rfl (lv_at hl 1 rfl) ?_
              refine lv_bipush (v := iI (6)) hE.1 hE.2.1 dX9_whyNot_73 (by decide) ?_
              refine x_vp (nn := 2) (As := [.int (iI (z_1)), .int (iI (6))]) (rest := []) hE (s_X9_of l D K ad v ar al hI  (z_1) (by omega) (6) (by omega)) wPre_blind (wPre_now hK hN hP) (x_recv hK hP 0 (by decide) (yG_9 rfl) rfl) rfl mw_1654 mw_1656 mw_73 mw_123 mw_1657 (by decide +kernel) ⟨by decide, by decide⟩ hl.1 rfl (Nat.le_of_ble_eq_true rfl) ⟨Nat.zero_le _, Nat.zero_le _⟩ dX9_whyNot_75 (fun r25 hr25 => ?_)
              obtain ⟨z25, hz25, rfl⟩ := hr25
              refine lv_iconst (v := iI (-1)) hE.1 hE.2.1 dX9_whyNot_78 (by decide) ?_
              refine s_icmp_eq (a := z25) (b := -1) (tgt := 108) hE.1 hE.2.1 (by omega) (by omega) dX9_whyNot_79 (by decide) (fun c26 => ?_) (fun c26 => ?_)
              · skip
                refine lv_iconst (v := iI (0)) hE.1 hE.2.1 dX9_whyNot_108 (by decide) ?_
                exact kr _ _ _ rfl ⟨0, by omega, rfl⟩ dX9_whyNot_109
              · skip
                refine lv_aload_n hE.1 hE.2.1 dX9_whyNot_82 rfl (lv_at hl 0 rfl) ?_
                refine lv_iload_n hE.1 hE.2.1 dX9_whyNot_83 rfl (lv_at hl 1 rfl) ?_
                refine lv_bipush (v := iI (6)) hE.1 hE.2.1 dX9_whyNot_84 (by decide) ?_
                refine x_vp (nn := 2) (As := [.int (iI (z_1)), .int (iI (6))]) (rest := []) hE (s_X9_of l D K ad v ar al hI  (z_1) (by omega) (6) (by omega)) wPre_blind (wPre_now hK hN hP) (x_recv hK hP 0 (by decide) (yG_9 rfl) rfl) rfl mw_1654 mw_1656 mw_73 mw_123 mw_1657 (by decide +kernel) ⟨by decide, by decide⟩ hl.1 rfl (Nat.le_of_ble_eq_true rfl) ⟨Nat.zero_le _, Nat.zero_le _⟩ dX9_whyNot_86 (fun r27 hr27 => ?_)
                obtain ⟨z27, hz27, rfl⟩ := hr27
                refine lv_aload_n hE.1 hE.2.1 dX9_whyNot_89 rfl (lv_at hl 0 rfl) ?_
                refine x_get (x := .int (v 0 24)) hE hK hP 0 (by decide) (yG_9 rfl) rfl hin9 24 (by decide) mw_1358 rfl dX9_whyNot_90 ?_
                refine x_top (y := iI (z20)) ez20 ?_
                refine lv_aload_n hE.1 hE.2.1 dX9_whyNot_93 rfl (lv_at hl 0 rfl) ?_
                refine x_get (x := .ref (ad 7)) hE hK hP 0 (by decide) (yG_9 rfl) rfl hin9 17 (by decide) mw_1351 rfl dX9_whyNot_94 ?_
                refine lv_iconst (v := iI (0)) hE.1 hE.2.1 dX9_whyNot_97 (by decide) ?_
                refine x_iald (j := iI (0)) hE hK hP 7 (by decide) (yG_10 rfl) (iI_in (n := 30) (by omega)) dX9_whyNot_98 ?_
                refine x_top (y := iI (w_1)) (by rw [show (iI (0)).toNatClampNeg = 0 from by decide]; exact ew_1) ?_
                refine lv_irem hE.1 hE.2.1 dX9_whyNot_99 (iI_ne0 (by omega) (by omega)) ?_
                obtain ⟨z29, hz29⟩ : ∃ z : Int, z = (z20) % (w_1) ∧ 0 ≤ z ∧ z < w_1 := ⟨_, rfl, Int.emod_nonneg _ (by omega), Int.emod_lt_of_pos _ (by omega)⟩
                refine x_top (y := iI (z29)) ((iI_rem (by omega) (by omega)).trans (congrArg iI hz29.1.symm)) ?_
                replace hz29 := hz29.2
                refine s_icmp_eq (a := z27) (b := z29) (tgt := 108) hE.1 hE.2.1 (by omega) (by omega) dX9_whyNot_100 (by decide) (fun c30 => ?_) (fun c30 => ?_)
                · skip
                  refine lv_iconst (v := iI (0)) hE.1 hE.2.1 dX9_whyNot_108 (by decide) ?_
                  exact kr _ _ _ rfl ⟨0, by omega, rfl⟩ dX9_whyNot_109
                · skip
                  refine lv_bipush (v := iI (6)) hE.1 hE.2.1 dX9_whyNot_103 (by decide) ?_
                  refine lv_goto (tgt := 109) hE.1 hE.2.1 dX9_whyNot_105 (by decide) ?_
                  exact kr _ _ _ rfl ⟨6, by omega, rfl⟩ dX9_whyNot_109
            · skip
              refine lv_iconst (v := iI (5)) hE.1 hE.2.1 dX9_whyNot_69 (by decide) ?_
              exact kr _ _ _ rfl ⟨5, by omega, rfl⟩ dX9_whyNot_70
          · skip
            refine lv_iconst (v := iI (4)) hE.1 hE.2.1 dX9_whyNot_59 (by decide) ?_
            exact kr _ _ _ rfl ⟨4, by omega, rfl⟩ dX9_whyNot_60
      · skip
        refine lv_iconst (v := iI (3)) hE.1 hE.2.1 dX9_whyNot_38 (by decide) ?_
        exact kr _ _ _ rfl ⟨3, by omega, rfl⟩ dX9_whyNot_39
    · skip
      refine lv_iconst (v := iI (2)) hE.1 hE.2.1 dX9_whyNot_28 (by decide) ?_
      exact kr _ _ _ rfl ⟨2, by omega, rfl⟩ dX9_whyNot_29
  · skip
    refine lv_iconst (v := iI (1)) hE.1 hE.2.1 dX9_whyNot_11 (by decide) ?_
    exact kr _ _ _ rfl ⟨1, by omega, rfl⟩ dX9_whyNot_12

theorem dX9_mayNow_0 : decode cX9_mayNow 0 = .ok (.iconst 0, 1) := by decide +kernel
theorem dX9_mayNow_1 : decode cX9_mayNow 1 = .ok (.istore_n 1, 1) := by decide +kernel
theorem dX9_mayNow_2 : decode cX9_mayNow 2 = .ok (.iconst 0, 1) := by decide +kernel
theorem dX9_mayNow_3 : decode cX9_mayNow 3 = .ok (.istore_n 2, 1) := by decide +kernel
theorem dX9_mayNow_4 : decode cX9_mayNow 4 = .ok (.iload_n 2, 1) := by decide +kernel
theorem dX9_mayNow_5 : decode cX9_mayNow 5 = .ok (.aload_n 0, 1) := by decide +kernel
theorem dX9_mayNow_6 : decode cX9_mayNow 6 = .ok (.getfield 34, 3) := by decide +kernel
theorem dX9_mayNow_9 : decode cX9_mayNow 9 = .ok (.iconst 2, 1) := by decide +kernel
theorem dX9_mayNow_10 : decode cX9_mayNow 10 = .ok (.iaload, 1) := by decide +kernel
theorem dX9_mayNow_11 : decode cX9_mayNow 11 = .ok (.if_icmp .ge 27, 3) := by decide +kernel
theorem dX9_mayNow_14 : decode cX9_mayNow 14 = .ok (.iload_n 1, 1) := by decide +kernel
theorem dX9_mayNow_15 : decode cX9_mayNow 15 = .ok (.aload_n 0, 1) := by decide +kernel
theorem dX9_mayNow_16 : decode cX9_mayNow 16 = .ok (.iload_n 2, 1) := by decide +kernel
theorem dX9_mayNow_17 : decode cX9_mayNow 17 = .ok (.invokevirtual 295, 3) := by decide +kernel
theorem dX9_mayNow_20 : decode cX9_mayNow 20 = .ok (.ifCond .ne 9, 3) := by decide +kernel
theorem dX9_mayNow_23 : decode cX9_mayNow 23 = .ok (.iconst 1, 1) := by decide +kernel
theorem dX9_mayNow_24 : decode cX9_mayNow 24 = .ok (.iload_n 2, 1) := by decide +kernel
theorem dX9_mayNow_25 : decode cX9_mayNow 25 = .ok (.ishl, 1) := by decide +kernel
theorem dX9_mayNow_26 : decode cX9_mayNow 26 = .ok (.goto 4, 3) := by decide +kernel
theorem dX9_mayNow_29 : decode cX9_mayNow 29 = .ok (.iconst 0, 1) := by decide +kernel
theorem dX9_mayNow_30 : decode cX9_mayNow 30 = .ok (.ior, 1) := by decide +kernel
theorem dX9_mayNow_31 : decode cX9_mayNow 31 = .ok (.istore_n 1, 1) := by decide +kernel
theorem dX9_mayNow_32 : decode cX9_mayNow 32 = .ok (.iinc 2 1, 3) := by decide +kernel
theorem dX9_mayNow_35 : decode cX9_mayNow 35 = .ok (.goto (-31), 3) := by decide +kernel
theorem dX9_mayNow_38 : decode cX9_mayNow 38 = .ok (.iload_n 1, 1) := by decide +kernel
theorem dX9_mayNow_39 : decode cX9_mayNow 39 = .ok (.ireturn, 1) := by decide +kernel
set_option maxHeartbeats 4000000 in
set_option maxRecDepth 100000 in
theorem s_X9_mayNow (l : Launch) (D : va_G) (K : Nat → ClassId) (ad : Nat → Nat) (v ar : sI) (al : sL) (hI : YI v ar) (w_1 : Int) (hw_1 : 1 ≤ w_1 ∧ w_1 ≤ 3) (ew_1 : ar 7 0 = iI w_1) : Met l yX9_mayNow (wM yX9_mayNow cX9_mayNow 3 (some .int)) (rmD 3) (va_Pc [.ref (ad 0)] (wPre D K ad (yG ad K) 21 v ar al)) (vp_Si (fun r => ∃ z : Int, (0 ≤ z ∧ z ≤ 511) ∧ r = iI z)) 0 0 (fun _ => False) := by
  refine s_metP (by decide) (Nat.le_of_ble_eq_true rfl) ?_
  intro p e s m below meth c ls args Q hE hB hl kr
  have hE : CallFix p m c cX9_mayNow 3 s args tbG "TaleCourtModel" := hE
  obtain ⟨hP, hK, hN⟩ := hB
  have hl : lv_has ls 3 [(0, .ref (ad 0))] := hl
  refine lv_iconst (v := iI (0)) hE.1 hE.2.1 dX9_mayNow_0 (by decide) ?_
  refine lv_istore_n (lv' := [(1, .int (iI (0))), (0, .ref (ad 0))]) hE.1 hE.2.1 dX9_mayNow_1 rfl hl (by decide) rfl (fun ls hl => ?_)
  refine lv_iconst (v := iI (0)) hE.1 hE.2.1 dX9_mayNow_2 (by decide) ?_
  refine lv_istore_n (lv' := [(2, .int (iI (0))), (1, .int (iI (0))), (0, .ref (ad 0))]) hE.1 hE.2.1 dX9_mayNow_3 rfl hl (by decide) rfl (fun ls hl => ?_)
  have loop1 : ∀ (k1 : Nat) (y1_2 : Int) (y1_1 : Int) (ls : Array Slot), (9 - y1_2).toNat = k1 → (0 ≤ y1_2 ∧ y1_2 ≤ 9) → (0 ≤ y1_1 ∧ y1_1 ≤ 511) → lv_has ls 3 [(2, .int (iI (y1_2))), (1, .int (iI (y1_1))), (0, .ref (ad 0))] → W p l e (rmD 3) s m args below meth c s.heap [] 0 0 Q (F0 m 4 ls []) := by
    intro k1
    induction k1 using Nat.strongRecOn with
    | _ k1 ih1 =>
      intro y1_2 y1_1 ls hk1 hb_y1_2 hb_y1_1 hl
      refine lv_iload_n hE.1 hE.2.1 dX9_mayNow_4 rfl (lv_at hl 0 rfl) ?_
      refine lv_aload_n hE.1 hE.2.1 dX9_mayNow_5 rfl (lv_at hl 2 rfl) ?_
      refine x_get (x := .ref (ad 7)) hE hK hP 0 (by decide) (yG_9 rfl) rfl hin9 17 (by decide) mw_1351 rfl dX9_mayNow_6 ?_
      refine lv_iconst (v := iI (2)) hE.1 hE.2.1 dX9_mayNow_9 (by decide) ?_
      refine x_iald (j := iI (2)) hE hK hP 7 (by decide) (yG_10 rfl) (iI_in (n := 30) (by omega)) dX9_mayNow_10 ?_
      obtain ⟨z3, hz3, ez3⟩ := YI_h2 hI 2 (by decide)
      refine x_top (y := iI (z3)) (by rw [show (iI (2)).toNatClampNeg = 2 from by decide]; exact ez3) ?_
      refine s_icmp_ge (a := y1_2) (b := z3) (tgt := 38) hE.1 hE.2.1 (by omega) (by omega) dX9_mayNow_11 (by decide) (fun c4 => ?_) (fun c4 => ?_)
      · skip
        refine lv_iload_n hE.1 hE.2.1 dX9_mayNow_38 rfl (lv_at hl 1 rfl) ?_
        exact kr _ _ _ rfl ⟨y1_1, by omega, rfl⟩ dX9_mayNow_39
      · skip
        refine lv_iload_n hE.1 hE.2.1 dX9_mayNow_14 rfl (lv_at hl 1 rfl) ?_
        refine lv_aload_n hE.1 hE.2.1 dX9_mayNow_15 rfl (lv_at hl 2 rfl) ?_
        refine lv_iload_n hE.1 hE.2.1 dX9_mayNow_16 rfl (lv_at hl 0 rfl) ?_
        refine x_vp (nn := 1) (As := [.int (iI (y1_2))]) (rest := [.int (iI (y1_1))]) hE (s_X9_whyNot l D K ad v ar al hI (w_1) (by omega) ew_1 (y1_2) (by omega)) wPre_blind (wPre_now hK hN hP) (x_recv hK hP 0 (by decide) (yG_9 rfl) rfl) rfl mw_1698 mw_1700 mw_75 mw_123 mw_1701 (by decide +kernel) ⟨by decide, by decide⟩ hl.1 rfl (Nat.le_of_ble_eq_true rfl) ⟨Nat.zero_le _, Nat.zero_le _⟩ dX9_mayNow_17 (fun r5 hr5 => ?_)
        obtain ⟨z5, hz5, rfl⟩ := hr5
        refine s_if_ne (a := z5) (tgt := 29) hE.1 hE.2.1 (by omega) dX9_mayNow_20 (by decide) (fun c6 => ?_) (fun c6 => ?_)
        · skip
          refine lv_iconst (v := iI (0)) hE.1 hE.2.1 dX9_mayNow_29 (by decide) ?_
          refine lv_ior hE.1 hE.2.1 dX9_mayNow_30 ?_
          obtain ⟨z7, hz7, ez7⟩ := iI_or9 (a := y1_1) (b := 0) (by omega) (by omega)
          refine x_top ez7 ?_
          refine lv_istore_n (lv' := [(1, .int (iI (z7))), (2, .int (iI (y1_2))), (0, .ref (ad 0))]) hE.1 hE.2.1 dX9_mayNow_31 rfl hl (by decide) rfl (fun ls hl => ?_)
          refine lv_iinc (v := iI (y1_2 + 1)) (lv' := [(2, .int (iI (y1_2 + 1))), (1, .int (iI (z7))), (0, .ref (ad 0))]) hE.1 hE.2.1 dX9_mayNow_32 hl (k := 1) rfl ((iI_add (y1_2) (1)).trans (congrArg iI (by omega))) (by decide) rfl (fun ls hl => ?_)
          refine lv_goto (tgt := 4) hE.1 hE.2.1 dX9_mayNow_35 (by decide) ?_
          exact ih1 _ (by omega) (y1_2 + 1) (z7) _ rfl (by omega) (by omega) (lv_sub hl [0, 1, 2] rfl)
        · skip
          refine lv_iconst (v := iI (1)) hE.1 hE.2.1 dX9_mayNow_23 (by decide) ?_
          refine lv_iload_n hE.1 hE.2.1 dX9_mayNow_24 rfl (lv_at hl 0 rfl) ?_
          refine lv_ishl hE.1 hE.2.1 dX9_mayNow_25 ?_
          obtain ⟨z8, hz8, ez8⟩ := iI_shl8 (a := y1_2) (by omega)
          refine x_top ez8 ?_
          refine lv_goto (tgt := 30) hE.1 hE.2.1 dX9_mayNow_26 (by decide) ?_
          refine lv_ior hE.1 hE.2.1 dX9_mayNow_30 ?_
          obtain ⟨z9, hz9, ez9⟩ := iI_or9 (a := y1_1) (b := z8) (by omega) (by omega)
          refine x_top ez9 ?_
          refine lv_istore_n (lv' := [(1, .int (iI (z9))), (2, .int (iI (y1_2))), (0, .ref (ad 0))]) hE.1 hE.2.1 dX9_mayNow_31 rfl hl (by decide) rfl (fun ls hl => ?_)
          refine lv_iinc (v := iI (y1_2 + 1)) (lv' := [(2, .int (iI (y1_2 + 1))), (1, .int (iI (z9))), (0, .ref (ad 0))]) hE.1 hE.2.1 dX9_mayNow_32 hl (k := 1) rfl ((iI_add (y1_2) (1)).trans (congrArg iI (by omega))) (by decide) rfl (fun ls hl => ?_)
          refine lv_goto (tgt := 4) hE.1 hE.2.1 dX9_mayNow_35 (by decide) ?_
          exact ih1 _ (by omega) (y1_2 + 1) (z9) _ rfl (by omega) (by omega) (lv_sub hl [0, 1, 2] rfl)
  exact loop1 _ (0) (0) _ rfl (by omega) (by omega) hl

theorem dX9_may_0 : decode cX9_may 0 = .ok (.aload_n 0, 1) := by decide +kernel
theorem dX9_may_1 : decode cX9_may 1 = .ok (.iconst 0, 1) := by decide +kernel
theorem dX9_may_2 : decode cX9_may 2 = .ok (.putfield 81, 3) := by decide +kernel
theorem dX9_may_5 : decode cX9_may 5 = .ok (.aload_n 0, 1) := by decide +kernel
theorem dX9_may_6 : decode cX9_may 6 = .ok (.invokevirtual 301, 3) := by decide +kernel
theorem dX9_may_9 : decode cX9_may 9 = .ok (.ifCond .ne 6, 3) := by decide +kernel
theorem dX9_may_12 : decode cX9_may 12 = .ok (.bipush (-2), 2) := by decide +kernel
theorem dX9_may_14 : decode cX9_may 14 = .ok (.ireturn, 1) := by decide +kernel
theorem dX9_may_15 : decode cX9_may 15 = .ok (.aload_n 0, 1) := by decide +kernel
theorem dX9_may_16 : decode cX9_may 16 = .ok (.invokevirtual 246, 3) := by decide +kernel
theorem dX9_may_19 : decode cX9_may 19 = .ok (.aload_n 0, 1) := by decide +kernel
theorem dX9_may_20 : decode cX9_may 20 = .ok (.invokevirtual 307, 3) := by decide +kernel
theorem dX9_may_23 : decode cX9_may 23 = .ok (.ireturn, 1) := by decide +kernel
set_option maxHeartbeats 4000000 in
set_option maxRecDepth 100000 in
theorem s_X9_may (l : Launch) (D : va_G) (K : Nat → ClassId) (ad : Nat → Nat) (v ar : sI) (al : sL) (hI : YI v ar) : Met l yX9_may (wM yX9_may cX9_may 1 (some .int)) (rmD 4) (va_Pc [.ref (ad 0)] (wPre D K ad (yG ad K) 21 v ar al)) (va_Qi (fun (r : Int32) (u : sT) => (∃ z : Int, (-2147483648 ≤ z ∧ z ≤ 2147483647) ∧ r = iI z) ∧ YI u.1 u.2.1 ∧ (∀ i j : Nat, (i, j) ∉ ([(0, 0), (0, 24), (0, 25), (0, 26), (0, 27)] : List (Nat × Nat)) → u.1 i j = v i j) ∧ (∀ i : Nat, i ∉ ([12, 13, 14] : List Nat) → u.2.1 i = ar i) ∧ (∀ i : Nat, i ∉ ([] : List Nat) → u.2.2 i = al i)) (wB D ad (yG ad K) 21) (inW ad 21)) 0 0 (inW ad 21) := by
  refine s_metI (by decide) (Nat.le_of_ble_eq_true rfl) ?_
  intro p e s m below meth c ls args Q hE hB hl kr
  have hE : CallFix p m c cX9_may 1 s args tbG "TaleCourtModel" := hE
  obtain ⟨hP, hK, hN⟩ := hB
  have hS : va_S (inW ad 21) s.heap s.heap [] := va_S.rf
  have hl : lv_has ls 1 [(0, .ref (ad 0))] := hl
  obtain ⟨z1, hz1, ez1⟩ := iI_of (ar 6 0)
  obtain ⟨z2, hz2, ez2⟩ := YI_h2 hI 2 (by decide)
  obtain ⟨z3, hz3, ez3⟩ := YI_h5 hI 5 (by decide)
  obtain ⟨z4, hz4, ez4⟩ := YI_h0 hI 0 (by decide)
  have ht0 := YI_t0 hI ez1 (by omega) ez2 (by omega) ez3 (by omega) ez4 (by omega)
  refine lv_aload_n hE.1 hE.2.1 dX9_may_0 rfl (lv_at hl 0 rfl) ?_
  refine lv_iconst (v := iI (0)) hE.1 hE.2.1 dX9_may_1 (by decide) ?_
  refine x_put (x := iI (0)) hE hK hN hP hS 0 (by decide) (yG_9 rfl) rfl hin9 tyX9 tyX9_ok nmX9 0 (by decide) mw_1334 rfl rfl rfl (Nat.le_of_ble_eq_true rfl) (yG_9 rfl) dX9_may_2 (fun v5 H locs hv5 hP hS => ?_)
  have hI := YI_putN hI hv5 (by decide)
  refine lv_aload_n hE.1 hE.2.1 dX9_may_5 rfl (lv_at hl 0 rfl) ?_
  refine x_vp (nn := 0) (As := []) (rest := []) hE (s_X9_isCourt l D K ad v5 ar al hI (z1) (by omega) ez1 ) wPre_blind (wPre_now hK hN hP) (x_recv hK hP 0 (by decide) (yG_9 rfl) rfl) rfl mw_1718 mw_1720 mw_79 mw_123 mw_1721 (by decide +kernel) ⟨by decide, by decide⟩ hl.1 rfl (Nat.le_of_ble_eq_true rfl) ⟨Nat.zero_le _, Nat.zero_le _⟩ dX9_may_6 (fun r6 hr6 => ?_)
  obtain ⟨z6, hz6, rfl⟩ := hr6
  refine s_if_ne (a := z6) (tgt := 15) hE.1 hE.2.1 (by omega) dX9_may_9 (by decide) (fun c7 => ?_) (fun c7 => ?_)
  · skip
    refine lv_aload_n hE.1 hE.2.1 dX9_may_15 rfl (lv_at hl 0 rfl) ?_
    refine x_vv (nn := 0) (As := []) (rest := []) hE hK hN hP hS (s_X9_lays l D K ad v5 ar al hI (z3) (by omega) ez3 ) (x_recv hK hP 0 (by decide) (yG_9 rfl) rfl) rfl mw_1638 mw_1640 mw_69 mw_123 mw_1641 (by decide +kernel) ⟨by decide, by decide⟩ hl.1 rfl (Nat.le_of_ble_eq_true rfl) ⟨Nat.zero_le _, Nat.zero_le _⟩ dX9_may_16 (fun v8 ar8 al8 H locs hq8 hP hS => ?_)
    obtain ⟨hI, hq8, hqa8, hql8, x8_1, x8_2, x8_3, hx8, ex8_1, ex8_2, ex8_3⟩ := hq8
    have hI : YI v8 ar8 := hI
    refine lv_aload_n hE.1 hE.2.1 dX9_may_19 rfl (lv_at hl 0 rfl) ?_
    refine x_vp (nn := 0) (As := []) (rest := []) hE (s_X9_mayNow l D K ad v8 ar8 al8 hI (z4) (by omega) ((congrFun (hqa8 7 (by decide)) 0).trans ez4) ) wPre_blind (wPre_now hK hN hP) (x_recv hK hP 0 (by decide) (yG_9 rfl) rfl) rfl mw_1750 mw_1752 mw_81 mw_123 mw_1753 (by decide +kernel) ⟨by decide, by decide⟩ hl.1 rfl (Nat.le_of_ble_eq_true rfl) ⟨Nat.zero_le _, Nat.zero_le _⟩ dX9_may_20 (fun r9 hr9 => ?_)
    obtain ⟨z9, hz9, rfl⟩ := hr9
    exact kr _ v8 ar8 al8 _ _ _ _ rfl ⟨⟨z9, by omega, rfl⟩, hI, fun i j h => ((hq8 i j (fun q => h (mem_sub (by decide) q))).trans (up_oth hv5 (fun q => h (by rcases q with ⟨rfl, rfl⟩; decide)))), fun i h => (hqa8 i (fun q => h (mem_subn (by decide) q))), fun i h => (hql8 i (fun q => h (mem_subn (by decide) q)))⟩ hP hS dX9_may_23
  · skip
    refine lv_bipush (v := iI (-2)) hE.1 hE.2.1 dX9_may_12 (by decide) ?_
    exact kr _ v5 ar al _ _ _ _ rfl ⟨⟨-2, by omega, rfl⟩, hI, fun i j h => (up_oth hv5 (fun q => h (by rcases q with ⟨rfl, rfl⟩; decide))), fun i h => rfl, fun i h => rfl⟩ hP hS dX9_may_14

theorem dX9_why_0 : decode cX9_why 0 = .ok (.aload_n 0, 1) := by decide +kernel
theorem dX9_why_1 : decode cX9_why 1 = .ok (.iconst 0, 1) := by decide +kernel
theorem dX9_why_2 : decode cX9_why 2 = .ok (.putfield 81, 3) := by decide +kernel
theorem dX9_why_5 : decode cX9_why 5 = .ok (.aload_n 0, 1) := by decide +kernel
theorem dX9_why_6 : decode cX9_why 6 = .ok (.iload_n 1, 1) := by decide +kernel
theorem dX9_why_7 : decode cX9_why 7 = .ok (.i2l, 1) := by decide +kernel
theorem dX9_why_8 : decode cX9_why 8 = .ok (.invokevirtual 253, 3) := by decide +kernel
theorem dX9_why_11 : decode cX9_why 11 = .ok (.ifCond .ne 6, 3) := by decide +kernel
theorem dX9_why_14 : decode cX9_why 14 = .ok (.bipush (-2), 2) := by decide +kernel
theorem dX9_why_16 : decode cX9_why 16 = .ok (.ireturn, 1) := by decide +kernel
theorem dX9_why_17 : decode cX9_why 17 = .ok (.aload_n 0, 1) := by decide +kernel
theorem dX9_why_18 : decode cX9_why 18 = .ok (.invokevirtual 246, 3) := by decide +kernel
theorem dX9_why_21 : decode cX9_why 21 = .ok (.aload_n 0, 1) := by decide +kernel
theorem dX9_why_22 : decode cX9_why 22 = .ok (.iload_n 1, 1) := by decide +kernel
theorem dX9_why_23 : decode cX9_why 23 = .ok (.invokevirtual 295, 3) := by decide +kernel
theorem dX9_why_26 : decode cX9_why 26 = .ok (.ireturn, 1) := by decide +kernel
set_option maxHeartbeats 4000000 in
set_option maxRecDepth 100000 in
theorem s_X9_why (l : Launch) (D : va_G) (K : Nat → ClassId) (ad : Nat → Nat) (v ar : sI) (al : sL) (hI : YI v ar) (z_1 : Int) (hz_1 : -2147483648 ≤ z_1 ∧ z_1 ≤ 2147483647) : Met l yX9_why (wM yX9_why cX9_why 2 (some .int)) (rmD 4) (va_Pc [.ref (ad 0), .int (iI (z_1))] (wPre D K ad (yG ad K) 21 v ar al)) (va_Qi (fun (r : Int32) (u : sT) => (∃ z : Int, (-2147483648 ≤ z ∧ z ≤ 2147483647) ∧ r = iI z) ∧ YI u.1 u.2.1 ∧ (∀ i j : Nat, (i, j) ∉ ([(0, 0), (0, 24), (0, 25), (0, 26), (0, 27)] : List (Nat × Nat)) → u.1 i j = v i j) ∧ (∀ i : Nat, i ∉ ([12, 13, 14] : List Nat) → u.2.1 i = ar i) ∧ (∀ i : Nat, i ∉ ([] : List Nat) → u.2.2 i = al i)) (wB D ad (yG ad K) 21) (inW ad 21)) 0 0 (inW ad 21) := by
  refine s_metI (by decide) (Nat.le_of_ble_eq_true rfl) ?_
  intro p e s m below meth c ls args Q hE hB hl kr
  have hE : CallFix p m c cX9_why 2 s args tbG "TaleCourtModel" := hE
  obtain ⟨hP, hK, hN⟩ := hB
  have hS : va_S (inW ad 21) s.heap s.heap [] := va_S.rf
  have hl : lv_has ls 2 [(0, .ref (ad 0)), (1, .int (iI (z_1)))] := hl
  obtain ⟨z1, hz1, ez1⟩ := iI_of (ar 6 0)
  obtain ⟨z2, hz2, ez2⟩ := YI_h2 hI 2 (by decide)
  obtain ⟨z3, hz3, ez3⟩ := YI_h5 hI 5 (by decide)
  obtain ⟨z4, hz4, ez4⟩ := YI_h0 hI 0 (by decide)
  have ht0 := YI_t0 hI ez1 (by omega) ez2 (by omega) ez3 (by omega) ez4 (by omega)
  refine lv_aload_n hE.1 hE.2.1 dX9_why_0 rfl (lv_at hl 0 rfl) ?_
  refine lv_iconst (v := iI (0)) hE.1 hE.2.1 dX9_why_1 (by decide) ?_
  refine x_put (x := iI (0)) hE hK hN hP hS 0 (by decide) (yG_9 rfl) rfl hin9 tyX9 tyX9_ok nmX9 0 (by decide) mw_1334 rfl rfl rfl (Nat.le_of_ble_eq_true rfl) (yG_9 rfl) dX9_why_2 (fun v5 H locs hv5 hP hS => ?_)
  have hI := YI_putN hI hv5 (by decide)
  refine lv_aload_n hE.1 hE.2.1 dX9_why_5 rfl (lv_at hl 0 rfl) ?_
  refine lv_iload_n hE.1 hE.2.1 dX9_why_6 rfl (lv_at hl 1 rfl) ?_
  refine lv_i2l (v := lI (z_1)) hE.1 hE.2.1 dX9_why_7 (iI_i2l (by omega)) ?_
  refine x_vp (nn := 1) (As := [.long (lI (z_1))]) (rest := []) hE (s_X9_isMotif l D K ad v5 ar al hI (z2) (by omega) ez2 (z_1) (by omega)) wPre_blind (wPre_now hK hN hP) (x_recv hK hP 0 (by decide) (yG_9 rfl) rfl) rfl mw_1662 mw_1664 mw_74 mw_123 mw_1665 (by decide +kernel) ⟨by decide, by decide⟩ hl.1 rfl (Nat.le_of_ble_eq_true rfl) ⟨Nat.zero_le _, Nat.zero_le _⟩ dX9_why_8 (fun r6 hr6 => ?_)
  obtain ⟨z6, hz6, rfl⟩ := hr6
  refine s_if_ne (a := z6) (tgt := 17) hE.1 hE.2.1 (by omega) dX9_why_11 (by decide) (fun c7 => ?_) (fun c7 => ?_)
  · skip
    refine lv_aload_n hE.1 hE.2.1 dX9_why_17 rfl (lv_at hl 0 rfl) ?_
    refine x_vv (nn := 0) (As := []) (rest := []) hE hK hN hP hS (s_X9_lays l D K ad v5 ar al hI (z3) (by omega) ez3 ) (x_recv hK hP 0 (by decide) (yG_9 rfl) rfl) rfl mw_1638 mw_1640 mw_69 mw_123 mw_1641 (by decide +kernel) ⟨by decide, by decide⟩ hl.1 rfl (Nat.le_of_ble_eq_true rfl) ⟨Nat.zero_le _, Nat.zero_le _⟩ dX9_why_18 (fun v8 ar8 al8 H locs hq8 hP hS => ?_)
    obtain ⟨hI, hq8, hqa8, hql8, x8_1, x8_2, x8_3, hx8, ex8_1, ex8_2, ex8_3⟩ := hq8
    have hI : YI v8 ar8 := hI
    refine lv_aload_n hE.1 hE.2.1 dX9_why_21 rfl (lv_at hl 0 rfl) ?_
    refine lv_iload_n hE.1 hE.2.1 dX9_why_22 rfl (lv_at hl 1 rfl) ?_
    refine x_vp (nn := 1) (As := [.int (iI (z_1))]) (rest := []) hE (s_X9_whyNot l D K ad v8 ar8 al8 hI (z4) (by omega) ((congrFun (hqa8 7 (by decide)) 0).trans ez4) (z_1) (by omega)) wPre_blind (wPre_now hK hN hP) (x_recv hK hP 0 (by decide) (yG_9 rfl) rfl) rfl mw_1698 mw_1700 mw_75 mw_123 mw_1701 (by decide +kernel) ⟨by decide, by decide⟩ hl.1 rfl (Nat.le_of_ble_eq_true rfl) ⟨Nat.zero_le _, Nat.zero_le _⟩ dX9_why_23 (fun r9 hr9 => ?_)
    obtain ⟨z9, hz9, rfl⟩ := hr9
    exact kr _ v8 ar8 al8 _ _ _ _ rfl ⟨⟨z9, by omega, rfl⟩, hI, fun i j h => ((hq8 i j (fun q => h (mem_sub (by decide) q))).trans (up_oth hv5 (fun q => h (by rcases q with ⟨rfl, rfl⟩; decide)))), fun i h => (hqa8 i (fun q => h (mem_subn (by decide) q))), fun i h => (hql8 i (fun q => h (mem_subn (by decide) q)))⟩ hP hS dX9_why_26
  · skip
    refine lv_bipush (v := iI (-2)) hE.1 hE.2.1 dX9_why_14 (by decide) ?_
    exact kr _ v5 ar al _ _ _ _ rfl ⟨⟨-2, by omega, rfl⟩, hI, fun i j h => (up_oth hv5 (fun q => h (by rcases q with ⟨rfl, rfl⟩; decide))), fun i h => rfl, fun i h => rfl⟩ hP hS dX9_why_16

theorem dX9_owedNow_0 : decode cX9_owedNow 0 = .ok (.iconst 0, 1) := by decide +kernel
theorem dX9_owedNow_1 : decode cX9_owedNow 1 = .ok (.istore_n 1, 1) := by decide +kernel
theorem dX9_owedNow_2 : decode cX9_owedNow 2 = .ok (.iconst 0, 1) := by decide +kernel
theorem dX9_owedNow_3 : decode cX9_owedNow 3 = .ok (.istore_n 2, 1) := by decide +kernel
theorem dX9_owedNow_4 : decode cX9_owedNow 4 = .ok (.iload_n 2, 1) := by decide +kernel
theorem dX9_owedNow_5 : decode cX9_owedNow 5 = .ok (.aload_n 0, 1) := by decide +kernel
theorem dX9_owedNow_6 : decode cX9_owedNow 6 = .ok (.getfield 34, 3) := by decide +kernel
theorem dX9_owedNow_9 : decode cX9_owedNow 9 = .ok (.iconst 2, 1) := by decide +kernel
theorem dX9_owedNow_10 : decode cX9_owedNow 10 = .ok (.iaload, 1) := by decide +kernel
theorem dX9_owedNow_11 : decode cX9_owedNow 11 = .ok (.if_icmp .ge 57, 3) := by decide +kernel
theorem dX9_owedNow_14 : decode cX9_owedNow 14 = .ok (.aload_n 0, 1) := by decide +kernel
theorem dX9_owedNow_15 : decode cX9_owedNow 15 = .ok (.getfield 268, 3) := by decide +kernel
theorem dX9_owedNow_18 : decode cX9_owedNow 18 = .ok (.iload_n 2, 1) := by decide +kernel
theorem dX9_owedNow_19 : decode cX9_owedNow 19 = .ok (.invokestatic 261, 3) := by decide +kernel
theorem dX9_owedNow_22 : decode cX9_owedNow 22 = .ok (.ifCond .eq 40, 3) := by decide +kernel
theorem dX9_owedNow_25 : decode cX9_owedNow 25 = .ok (.aload_n 0, 1) := by decide +kernel
theorem dX9_owedNow_26 : decode cX9_owedNow 26 = .ok (.iload_n 2, 1) := by decide +kernel
theorem dX9_owedNow_27 : decode cX9_owedNow 27 = .ok (.iconst 4, 1) := by decide +kernel
theorem dX9_owedNow_28 : decode cX9_owedNow 28 = .ok (.invokevirtual 258, 3) := by decide +kernel
theorem dX9_owedNow_31 : decode cX9_owedNow 31 = .ok (.iconst (-1), 1) := by decide +kernel
theorem dX9_owedNow_32 : decode cX9_owedNow 32 = .ok (.if_icmp .eq 30, 3) := by decide +kernel
theorem dX9_owedNow_35 : decode cX9_owedNow 35 = .ok (.aload_n 0, 1) := by decide +kernel
theorem dX9_owedNow_36 : decode cX9_owedNow 36 = .ok (.getfield 268, 3) := by decide +kernel
theorem dX9_owedNow_39 : decode cX9_owedNow 39 = .ok (.aload_n 0, 1) := by decide +kernel
theorem dX9_owedNow_40 : decode cX9_owedNow 40 = .ok (.iload_n 2, 1) := by decide +kernel
theorem dX9_owedNow_41 : decode cX9_owedNow 41 = .ok (.iconst 4, 1) := by decide +kernel
theorem dX9_owedNow_42 : decode cX9_owedNow 42 = .ok (.invokevirtual 258, 3) := by decide +kernel
theorem dX9_owedNow_45 : decode cX9_owedNow 45 = .ok (.invokestatic 261, 3) := by decide +kernel
theorem dX9_owedNow_48 : decode cX9_owedNow 48 = .ok (.ifCond .ne 14, 3) := by decide +kernel
theorem dX9_owedNow_51 : decode cX9_owedNow 51 = .ok (.iload_n 1, 1) := by decide +kernel
theorem dX9_owedNow_52 : decode cX9_owedNow 52 = .ok (.iconst 1, 1) := by decide +kernel
theorem dX9_owedNow_53 : decode cX9_owedNow 53 = .ok (.aload_n 0, 1) := by decide +kernel
theorem dX9_owedNow_54 : decode cX9_owedNow 54 = .ok (.iload_n 2, 1) := by decide +kernel
theorem dX9_owedNow_55 : decode cX9_owedNow 55 = .ok (.iconst 4, 1) := by decide +kernel
theorem dX9_owedNow_56 : decode cX9_owedNow 56 = .ok (.invokevirtual 258, 3) := by decide +kernel
theorem dX9_owedNow_59 : decode cX9_owedNow 59 = .ok (.ishl, 1) := by decide +kernel
theorem dX9_owedNow_60 : decode cX9_owedNow 60 = .ok (.ior, 1) := by decide +kernel
theorem dX9_owedNow_61 : decode cX9_owedNow 61 = .ok (.istore_n 1, 1) := by decide +kernel
theorem dX9_owedNow_62 : decode cX9_owedNow 62 = .ok (.iinc 2 1, 3) := by decide +kernel
theorem dX9_owedNow_65 : decode cX9_owedNow 65 = .ok (.goto (-61), 3) := by decide +kernel
theorem dX9_owedNow_68 : decode cX9_owedNow 68 = .ok (.iload_n 1, 1) := by decide +kernel
theorem dX9_owedNow_69 : decode cX9_owedNow 69 = .ok (.ireturn, 1) := by decide +kernel
set_option maxHeartbeats 4000000 in
set_option maxRecDepth 100000 in
theorem s_X9_owedNow (l : Launch) (D : va_G) (K : Nat → ClassId) (ad : Nat → Nat) (v ar : sI) (al : sL) (hI : YI v ar) : Met l yX9_owedNow (wM yX9_owedNow cX9_owedNow 3 (some .int)) (rmD 1) (va_Pc [.ref (ad 0)] (wPre D K ad (yG ad K) 21 v ar al)) (vp_Si (fun r => ∃ z : Int, (-2147483648 ≤ z ∧ z ≤ 2147483647) ∧ r = iI z)) 0 0 (fun _ => False) := by
  refine s_metP (by decide) (Nat.le_of_ble_eq_true rfl) ?_
  intro p e s m below meth c ls args Q hE hB hl kr
  have hE : CallFix p m c cX9_owedNow 3 s args tbG "TaleCourtModel" := hE
  obtain ⟨hP, hK, hN⟩ := hB
  have hl : lv_has ls 3 [(0, .ref (ad 0))] := hl
  refine lv_iconst (v := iI (0)) hE.1 hE.2.1 dX9_owedNow_0 (by decide) ?_
  refine lv_istore_n (lv' := [(1, .int (iI (0))), (0, .ref (ad 0))]) hE.1 hE.2.1 dX9_owedNow_1 rfl hl (by decide) rfl (fun ls hl => ?_)
  refine lv_iconst (v := iI (0)) hE.1 hE.2.1 dX9_owedNow_2 (by decide) ?_
  refine lv_istore_n (lv' := [(2, .int (iI (0))), (1, .int (iI (0))), (0, .ref (ad 0))]) hE.1 hE.2.1 dX9_owedNow_3 rfl hl (by decide) rfl (fun ls hl => ?_)
  have loop1 : ∀ (k1 : Nat) (y1_2 : Int) (y1_1 : Int) (ls : Array Slot), (9 - y1_2).toNat = k1 → (0 ≤ y1_2 ∧ y1_2 ≤ 9) → (-2147483648 ≤ y1_1 ∧ y1_1 ≤ 2147483647) → lv_has ls 3 [(2, .int (iI (y1_2))), (1, .int (iI (y1_1))), (0, .ref (ad 0))] → W p l e (rmD 1) s m args below meth c s.heap [] 0 0 Q (F0 m 4 ls []) := by
    intro k1
    induction k1 using Nat.strongRecOn with
    | _ k1 ih1 =>
      intro y1_2 y1_1 ls hk1 hb_y1_2 hb_y1_1 hl
      refine lv_iload_n hE.1 hE.2.1 dX9_owedNow_4 rfl (lv_at hl 0 rfl) ?_
      refine lv_aload_n hE.1 hE.2.1 dX9_owedNow_5 rfl (lv_at hl 2 rfl) ?_
      refine x_get (x := .ref (ad 7)) hE hK hP 0 (by decide) (yG_9 rfl) rfl hin9 17 (by decide) mw_1351 rfl dX9_owedNow_6 ?_
      refine lv_iconst (v := iI (2)) hE.1 hE.2.1 dX9_owedNow_9 (by decide) ?_
      refine x_iald (j := iI (2)) hE hK hP 7 (by decide) (yG_10 rfl) (iI_in (n := 30) (by omega)) dX9_owedNow_10 ?_
      obtain ⟨z3, hz3, ez3⟩ := YI_h2 hI 2 (by decide)
      refine x_top (y := iI (z3)) (by rw [show (iI (2)).toNatClampNeg = 2 from by decide]; exact ez3) ?_
      refine s_icmp_ge (a := y1_2) (b := z3) (tgt := 68) hE.1 hE.2.1 (by omega) (by omega) dX9_owedNow_11 (by decide) (fun c4 => ?_) (fun c4 => ?_)
      · skip
        refine lv_iload_n hE.1 hE.2.1 dX9_owedNow_68 rfl (lv_at hl 1 rfl) ?_
        exact kr _ _ _ rfl ⟨y1_1, by omega, rfl⟩ dX9_owedNow_69
      · skip
        refine lv_aload_n hE.1 hE.2.1 dX9_owedNow_14 rfl (lv_at hl 2 rfl) ?_
        obtain ⟨z5, hz5, ez5⟩ := YI_get hI 0 25 0 511 (by decide)
        refine x_get (x := .int (v 0 25)) hE hK hP 0 (by decide) (yG_9 rfl) rfl hin9 25 (by decide) mw_1359 rfl dX9_owedNow_15 ?_
        refine x_top (y := iI (z5)) ez5 ?_
        refine lv_iload_n hE.1 hE.2.1 dX9_owedNow_18 rfl (lv_at hl 0 rfl) ?_
        refine x_sp (nn := 2) (As := [.int (iI (z5)), .int (iI (y1_2))]) (rest := []) hE (s_X9_isBit l (z5) (by omega) (y1_2) (by omega)) tt_blind (fun _ _ _ => trivial) rfl mw_1683 mw_1684 mw_123 mw_1685 (by decide +kernel) ⟨by decide, by decide⟩ hl.1 rfl (Nat.le_of_ble_eq_true rfl) ⟨Nat.zero_le _, Nat.zero_le _⟩ dX9_owedNow_19 (fun r6 hr6 => ?_)
        obtain ⟨z6, hz6, rfl⟩ := hr6
        refine s_if_eq (a := z6) (tgt := 62) hE.1 hE.2.1 (by omega) dX9_owedNow_22 (by decide) (fun c7 => ?_) (fun c7 => ?_)
        · skip
          refine lv_iinc (v := iI (y1_2 + 1)) (lv' := [(2, .int (iI (y1_2 + 1))), (1, .int (iI (y1_1))), (0, .ref (ad 0))]) hE.1 hE.2.1 dX9_owedNow_62 hl (k := 0) rfl ((iI_add (y1_2) (1)).trans (congrArg iI (by omega))) (by decide) rfl (fun ls hl => ?_)
          refine lv_goto (tgt := 4) hE.1 hE.2.1 dX9_owedNow_65 (by decide) ?_
          exact ih1 _ (by omega) (y1_2 + 1) (y1_1) _ rfl (by omega) (by omega) (lv_sub hl [0, 1, 2] rfl)
        · skip
          refine lv_aload_n hE.1 hE.2.1 dX9_owedNow_25 rfl (lv_at hl 2 rfl) ?_
          refine lv_iload_n hE.1 hE.2.1 dX9_owedNow_26 rfl (lv_at hl 0 rfl) ?_
          refine lv_iconst (v := iI (4)) hE.1 hE.2.1 dX9_owedNow_27 (by decide) ?_
          refine x_vp (nn := 2) (As := [.int (iI (y1_2)), .int (iI (4))]) (rest := []) hE (s_X9_of l D K ad v ar al hI  (y1_2) (by omega) (4) (by omega)) wPre_blind (wPre_now hK hN hP) (x_recv hK hP 0 (by decide) (yG_9 rfl) rfl) rfl mw_1654 mw_1656 mw_73 mw_123 mw_1657 (by decide +kernel) ⟨by decide, by decide⟩ hl.1 rfl (Nat.le_of_ble_eq_true rfl) ⟨Nat.zero_le _, Nat.zero_le _⟩ dX9_owedNow_28 (fun r8 hr8 => ?_)
          obtain ⟨z8, hz8, rfl⟩ := hr8
          refine lv_iconst (v := iI (-1)) hE.1 hE.2.1 dX9_owedNow_31 (by decide) ?_
          refine s_icmp_eq (a := z8) (b := -1) (tgt := 62) hE.1 hE.2.1 (by omega) (by omega) dX9_owedNow_32 (by decide) (fun c9 => ?_) (fun c9 => ?_)
          · skip
            refine lv_iinc (v := iI (y1_2 + 1)) (lv' := [(2, .int (iI (y1_2 + 1))), (1, .int (iI (y1_1))), (0, .ref (ad 0))]) hE.1 hE.2.1 dX9_owedNow_62 hl (k := 0) rfl ((iI_add (y1_2) (1)).trans (congrArg iI (by omega))) (by decide) rfl (fun ls hl => ?_)
            refine lv_goto (tgt := 4) hE.1 hE.2.1 dX9_owedNow_65 (by decide) ?_
            exact ih1 _ (by omega) (y1_2 + 1) (y1_1) _ rfl (by omega) (by omega) (lv_sub hl [0, 1, 2] rfl)
          · skip
            refine lv_aload_n hE.1 hE.2.1 dX9_owedNow_35 rfl (lv_at hl 2 rfl) ?_
            refine x_get (x := .int (v 0 25)) hE hK hP 0 (by decide) (yG_9 rfl) rfl hin9 25 (by decide) mw_1359 rfl dX9_owedNow_36 ?_
            refine x_top (y := iI (z5)) ez5 ?_
            refine lv_aload_n hE.1 hE.2.1 dX9_owedNow_39 rfl (lv_at hl 2 rfl) ?_
            refine lv_iload_n hE.1 hE.2.1 dX9_owedNow_40 rfl (lv_at hl 0 rfl) ?_
            refine lv_iconst (v := iI (4)) hE.1 hE.2.1 dX9_owedNow_41 (by decide) ?_
            refine x_vp (nn := 2) (As := [.int (iI (y1_2)), .int (iI (4))]) (rest := [.int (iI (z5))]) hE (s_X9_of l D K ad v ar al hI  (y1_2) (by omega) (4) (by omega)) wPre_blind (wPre_now hK hN hP) (x_recv hK hP 0 (by decide) (yG_9 rfl) rfl) rfl mw_1654 mw_1656 mw_73 mw_123 mw_1657 (by decide +kernel) ⟨by decide, by decide⟩ hl.1 rfl (Nat.le_of_ble_eq_true rfl) ⟨Nat.zero_le _, Nat.zero_le _⟩ dX9_owedNow_42 (fun r10 hr10 => ?_)
            obtain ⟨z10, hz10, rfl⟩ := hr10
            refine x_sp (nn := 2) (As := [.int (iI (z5)), .int (iI (z10))]) (rest := []) hE (s_X9_isBit l (z5) (by omega) (z10) (by omega)) tt_blind (fun _ _ _ => trivial) rfl mw_1683 mw_1684 mw_123 mw_1685 (by decide +kernel) ⟨by decide, by decide⟩ hl.1 rfl (Nat.le_of_ble_eq_true rfl) ⟨Nat.zero_le _, Nat.zero_le _⟩ dX9_owedNow_45 (fun r11 hr11 => ?_)
            obtain ⟨z11, hz11, rfl⟩ := hr11
            refine s_if_ne (a := z11) (tgt := 62) hE.1 hE.2.1 (by omega) dX9_owedNow_48 (by decide) (fun c12 => ?_) (fun c12 => ?_)
            · skip
              refine lv_iinc (v := iI (y1_2 + 1)) (lv' := [(2, .int (iI (y1_2 + 1))), (1, .int (iI (y1_1))), (0, .ref (ad 0))]) hE.1 hE.2.1 dX9_owedNow_62 hl (k := 0) rfl ((iI_add (y1_2) (1)).trans (congrArg iI (by omega))) (by decide) rfl (fun ls hl => ?_)
              refine lv_goto (tgt := 4) hE.1 hE.2.1 dX9_owedNow_65 (by decide) ?_
              exact ih1 _ (by omega) (y1_2 + 1) (y1_1) _ rfl (by omega) (by omega) (lv_sub hl [0, 1, 2] rfl)
            · skip
              refine lv_iload_n hE.1 hE.2.1 dX9_owedNow_51 rfl (lv_at hl 1 rfl) ?_
              refine lv_iconst (v := iI (1)) hE.1 hE.2.1 dX9_owedNow_52 (by decide) ?_
              refine lv_aload_n hE.1 hE.2.1 dX9_owedNow_53 rfl (lv_at hl 2 rfl) ?_
              refine lv_iload_n hE.1 hE.2.1 dX9_owedNow_54 rfl (lv_at hl 0 rfl) ?_
              refine lv_iconst (v := iI (4)) hE.1 hE.2.1 dX9_owedNow_55 (by decide) ?_
              refine x_vp (nn := 2) (As := [.int (iI (y1_2)), .int (iI (4))]) (rest := [.int (iI (1)), .int (iI (y1_1))]) hE (s_X9_of l D K ad v ar al hI  (y1_2) (by omega) (4) (by omega)) wPre_blind (wPre_now hK hN hP) (x_recv hK hP 0 (by decide) (yG_9 rfl) rfl) rfl mw_1654 mw_1656 mw_73 mw_123 mw_1657 (by decide +kernel) ⟨by decide, by decide⟩ hl.1 rfl (Nat.le_of_ble_eq_true rfl) ⟨Nat.zero_le _, Nat.zero_le _⟩ dX9_owedNow_56 (fun r13 hr13 => ?_)
              obtain ⟨z13, hz13, rfl⟩ := hr13
              refine lv_ishl hE.1 hE.2.1 dX9_owedNow_59 ?_
              obtain ⟨z14, hz14, ez14⟩ := iI_of (iI (1) <<< (iI (z13) &&& 31))
              refine x_top ez14 ?_
              refine lv_ior hE.1 hE.2.1 dX9_owedNow_60 ?_
              obtain ⟨z15, hz15, ez15⟩ := iI_of (iI (y1_1) ||| iI (z14))
              refine x_top ez15 ?_
              refine lv_istore_n (lv' := [(1, .int (iI (z15))), (2, .int (iI (y1_2))), (0, .ref (ad 0))]) hE.1 hE.2.1 dX9_owedNow_61 rfl hl (by decide) rfl (fun ls hl => ?_)
              refine lv_iinc (v := iI (y1_2 + 1)) (lv' := [(2, .int (iI (y1_2 + 1))), (1, .int (iI (z15))), (0, .ref (ad 0))]) hE.1 hE.2.1 dX9_owedNow_62 hl (k := 1) rfl ((iI_add (y1_2) (1)).trans (congrArg iI (by omega))) (by decide) rfl (fun ls hl => ?_)
              refine lv_goto (tgt := 4) hE.1 hE.2.1 dX9_owedNow_65 (by decide) ?_
              exact ih1 _ (by omega) (y1_2 + 1) (z15) _ rfl (by omega) (by omega) (lv_sub hl [0, 1, 2] rfl)
  exact loop1 _ (0) (0) _ rfl (by omega) (by omega) hl

theorem dX9_owed_0 : decode cX9_owed 0 = .ok (.aload_n 0, 1) := by decide +kernel
theorem dX9_owed_1 : decode cX9_owed 1 = .ok (.iconst 0, 1) := by decide +kernel
theorem dX9_owed_2 : decode cX9_owed 2 = .ok (.putfield 81, 3) := by decide +kernel
theorem dX9_owed_5 : decode cX9_owed 5 = .ok (.aload_n 0, 1) := by decide +kernel
theorem dX9_owed_6 : decode cX9_owed 6 = .ok (.invokevirtual 301, 3) := by decide +kernel
theorem dX9_owed_9 : decode cX9_owed 9 = .ok (.ifCond .ne 6, 3) := by decide +kernel
theorem dX9_owed_12 : decode cX9_owed 12 = .ok (.bipush (-2), 2) := by decide +kernel
theorem dX9_owed_14 : decode cX9_owed 14 = .ok (.ireturn, 1) := by decide +kernel
theorem dX9_owed_15 : decode cX9_owed 15 = .ok (.aload_n 0, 1) := by decide +kernel
theorem dX9_owed_16 : decode cX9_owed 16 = .ok (.invokevirtual 246, 3) := by decide +kernel
theorem dX9_owed_19 : decode cX9_owed 19 = .ok (.aload_n 0, 1) := by decide +kernel
theorem dX9_owed_20 : decode cX9_owed 20 = .ok (.invokevirtual 292, 3) := by decide +kernel
theorem dX9_owed_23 : decode cX9_owed 23 = .ok (.ireturn, 1) := by decide +kernel
set_option maxHeartbeats 4000000 in
set_option maxRecDepth 100000 in
theorem s_X9_owed (l : Launch) (D : va_G) (K : Nat → ClassId) (ad : Nat → Nat) (v ar : sI) (al : sL) (hI : YI v ar) : Met l yX9_owed (wM yX9_owed cX9_owed 1 (some .int)) (rmD 4) (va_Pc [.ref (ad 0)] (wPre D K ad (yG ad K) 21 v ar al)) (va_Qi (fun (r : Int32) (u : sT) => (∃ z : Int, (-2147483648 ≤ z ∧ z ≤ 2147483647) ∧ r = iI z) ∧ YI u.1 u.2.1 ∧ (∀ i j : Nat, (i, j) ∉ ([(0, 0), (0, 24), (0, 25), (0, 26), (0, 27)] : List (Nat × Nat)) → u.1 i j = v i j) ∧ (∀ i : Nat, i ∉ ([12, 13, 14] : List Nat) → u.2.1 i = ar i) ∧ (∀ i : Nat, i ∉ ([] : List Nat) → u.2.2 i = al i)) (wB D ad (yG ad K) 21) (inW ad 21)) 0 0 (inW ad 21) := by
  refine s_metI (by decide) (Nat.le_of_ble_eq_true rfl) ?_
  intro p e s m below meth c ls args Q hE hB hl kr
  have hE : CallFix p m c cX9_owed 1 s args tbG "TaleCourtModel" := hE
  obtain ⟨hP, hK, hN⟩ := hB
  have hS : va_S (inW ad 21) s.heap s.heap [] := va_S.rf
  have hl : lv_has ls 1 [(0, .ref (ad 0))] := hl
  obtain ⟨z1, hz1, ez1⟩ := iI_of (ar 6 0)
  obtain ⟨z2, hz2, ez2⟩ := YI_h2 hI 2 (by decide)
  obtain ⟨z3, hz3, ez3⟩ := YI_h5 hI 5 (by decide)
  obtain ⟨z4, hz4, ez4⟩ := YI_h0 hI 0 (by decide)
  have ht0 := YI_t0 hI ez1 (by omega) ez2 (by omega) ez3 (by omega) ez4 (by omega)
  refine lv_aload_n hE.1 hE.2.1 dX9_owed_0 rfl (lv_at hl 0 rfl) ?_
  refine lv_iconst (v := iI (0)) hE.1 hE.2.1 dX9_owed_1 (by decide) ?_
  refine x_put (x := iI (0)) hE hK hN hP hS 0 (by decide) (yG_9 rfl) rfl hin9 tyX9 tyX9_ok nmX9 0 (by decide) mw_1334 rfl rfl rfl (Nat.le_of_ble_eq_true rfl) (yG_9 rfl) dX9_owed_2 (fun v5 H locs hv5 hP hS => ?_)
  have hI := YI_putN hI hv5 (by decide)
  refine lv_aload_n hE.1 hE.2.1 dX9_owed_5 rfl (lv_at hl 0 rfl) ?_
  refine x_vp (nn := 0) (As := []) (rest := []) hE (s_X9_isCourt l D K ad v5 ar al hI (z1) (by omega) ez1 ) wPre_blind (wPre_now hK hN hP) (x_recv hK hP 0 (by decide) (yG_9 rfl) rfl) rfl mw_1718 mw_1720 mw_79 mw_123 mw_1721 (by decide +kernel) ⟨by decide, by decide⟩ hl.1 rfl (Nat.le_of_ble_eq_true rfl) ⟨Nat.zero_le _, Nat.zero_le _⟩ dX9_owed_6 (fun r6 hr6 => ?_)
  obtain ⟨z6, hz6, rfl⟩ := hr6
  refine s_if_ne (a := z6) (tgt := 15) hE.1 hE.2.1 (by omega) dX9_owed_9 (by decide) (fun c7 => ?_) (fun c7 => ?_)
  · skip
    refine lv_aload_n hE.1 hE.2.1 dX9_owed_15 rfl (lv_at hl 0 rfl) ?_
    refine x_vv (nn := 0) (As := []) (rest := []) hE hK hN hP hS (s_X9_lays l D K ad v5 ar al hI (z3) (by omega) ez3 ) (x_recv hK hP 0 (by decide) (yG_9 rfl) rfl) rfl mw_1638 mw_1640 mw_69 mw_123 mw_1641 (by decide +kernel) ⟨by decide, by decide⟩ hl.1 rfl (Nat.le_of_ble_eq_true rfl) ⟨Nat.zero_le _, Nat.zero_le _⟩ dX9_owed_16 (fun v8 ar8 al8 H locs hq8 hP hS => ?_)
    obtain ⟨hI, hq8, hqa8, hql8, x8_1, x8_2, x8_3, hx8, ex8_1, ex8_2, ex8_3⟩ := hq8
    have hI : YI v8 ar8 := hI
    refine lv_aload_n hE.1 hE.2.1 dX9_owed_19 rfl (lv_at hl 0 rfl) ?_
    refine x_vp (nn := 0) (As := []) (rest := []) hE (s_X9_owedNow l D K ad v8 ar8 al8 hI  ) wPre_blind (wPre_now hK hN hP) (x_recv hK hP 0 (by decide) (yG_9 rfl) rfl) rfl mw_1762 mw_1764 mw_82 mw_123 mw_1765 (by decide +kernel) ⟨by decide, by decide⟩ hl.1 rfl (Nat.le_of_ble_eq_true rfl) ⟨Nat.zero_le _, Nat.zero_le _⟩ dX9_owed_20 (fun r9 hr9 => ?_)
    obtain ⟨z9, hz9, rfl⟩ := hr9
    exact kr _ v8 ar8 al8 _ _ _ _ rfl ⟨⟨z9, by omega, rfl⟩, hI, fun i j h => ((hq8 i j (fun q => h (mem_sub (by decide) q))).trans (up_oth hv5 (fun q => h (by rcases q with ⟨rfl, rfl⟩; decide)))), fun i h => (hqa8 i (fun q => h (mem_subn (by decide) q))), fun i h => (hql8 i (fun q => h (mem_subn (by decide) q)))⟩ hP hS dX9_owed_23
  · skip
    refine lv_bipush (v := iI (-2)) hE.1 hE.2.1 dX9_owed_12 (by decide) ?_
    exact kr _ v5 ar al _ _ _ _ rfl ⟨⟨-2, by omega, rfl⟩, hI, fun i j h => (up_oth hv5 (fun q => h (by rcases q with ⟨rfl, rfl⟩; decide))), fun i h => rfl, fun i h => rfl⟩ hP hS dX9_owed_14

theorem dX9_due_0 : decode cX9_due 0 = .ok (.aload_n 0, 1) := by decide +kernel
theorem dX9_due_1 : decode cX9_due 1 = .ok (.iconst 0, 1) := by decide +kernel
theorem dX9_due_2 : decode cX9_due 2 = .ok (.putfield 81, 3) := by decide +kernel
theorem dX9_due_5 : decode cX9_due 5 = .ok (.aload_n 0, 1) := by decide +kernel
theorem dX9_due_6 : decode cX9_due 6 = .ok (.iload_n 1, 1) := by decide +kernel
theorem dX9_due_7 : decode cX9_due 7 = .ok (.i2l, 1) := by decide +kernel
theorem dX9_due_8 : decode cX9_due 8 = .ok (.invokevirtual 253, 3) := by decide +kernel
theorem dX9_due_11 : decode cX9_due 11 = .ok (.ifCond .ne 6, 3) := by decide +kernel
theorem dX9_due_14 : decode cX9_due 14 = .ok (.bipush (-2), 2) := by decide +kernel
theorem dX9_due_16 : decode cX9_due 16 = .ok (.ireturn, 1) := by decide +kernel
theorem dX9_due_17 : decode cX9_due 17 = .ok (.aload_n 0, 1) := by decide +kernel
theorem dX9_due_18 : decode cX9_due 18 = .ok (.invokevirtual 246, 3) := by decide +kernel
theorem dX9_due_21 : decode cX9_due 21 = .ok (.iconst (-1), 1) := by decide +kernel
theorem dX9_due_22 : decode cX9_due 22 = .ok (.istore_n 2, 1) := by decide +kernel
theorem dX9_due_23 : decode cX9_due 23 = .ok (.iconst 0, 1) := by decide +kernel
theorem dX9_due_24 : decode cX9_due 24 = .ok (.istore_n 3, 1) := by decide +kernel
theorem dX9_due_25 : decode cX9_due 25 = .ok (.iload_n 3, 1) := by decide +kernel
theorem dX9_due_26 : decode cX9_due 26 = .ok (.aload_n 0, 1) := by decide +kernel
theorem dX9_due_27 : decode cX9_due 27 = .ok (.getfield 34, 3) := by decide +kernel
theorem dX9_due_30 : decode cX9_due 30 = .ok (.iconst 2, 1) := by decide +kernel
theorem dX9_due_31 : decode cX9_due 31 = .ok (.iaload, 1) := by decide +kernel
theorem dX9_due_32 : decode cX9_due 32 = .ok (.if_icmp .ge 77, 3) := by decide +kernel
theorem dX9_due_35 : decode cX9_due 35 = .ok (.aload_n 0, 1) := by decide +kernel
theorem dX9_due_36 : decode cX9_due 36 = .ok (.getfield 268, 3) := by decide +kernel
theorem dX9_due_39 : decode cX9_due 39 = .ok (.iload_n 3, 1) := by decide +kernel
theorem dX9_due_40 : decode cX9_due 40 = .ok (.invokestatic 261, 3) := by decide +kernel
theorem dX9_due_43 : decode cX9_due 43 = .ok (.ifCond .eq 60, 3) := by decide +kernel
theorem dX9_due_46 : decode cX9_due 46 = .ok (.aload_n 0, 1) := by decide +kernel
theorem dX9_due_47 : decode cX9_due 47 = .ok (.iload_n 3, 1) := by decide +kernel
theorem dX9_due_48 : decode cX9_due 48 = .ok (.iconst 4, 1) := by decide +kernel
theorem dX9_due_49 : decode cX9_due 49 = .ok (.invokevirtual 258, 3) := by decide +kernel
theorem dX9_due_52 : decode cX9_due 52 = .ok (.iload_n 1, 1) := by decide +kernel
theorem dX9_due_53 : decode cX9_due 53 = .ok (.if_icmp .ne 50, 3) := by decide +kernel
theorem dX9_due_56 : decode cX9_due 56 = .ok (.aload_n 0, 1) := by decide +kernel
theorem dX9_due_57 : decode cX9_due 57 = .ok (.getfield 268, 3) := by decide +kernel
theorem dX9_due_60 : decode cX9_due 60 = .ok (.iload_n 1, 1) := by decide +kernel
theorem dX9_due_61 : decode cX9_due 61 = .ok (.invokestatic 261, 3) := by decide +kernel
theorem dX9_due_64 : decode cX9_due 64 = .ok (.ifCond .eq 6, 3) := by decide +kernel
theorem dX9_due_67 : decode cX9_due 67 = .ok (.goto 36, 3) := by decide +kernel
theorem dX9_due_70 : decode cX9_due 70 = .ok (.aload_n 0, 1) := by decide +kernel
theorem dX9_due_71 : decode cX9_due 71 = .ok (.getfield 53, 3) := by decide +kernel
theorem dX9_due_74 : decode cX9_due 74 = .ok (.iload_n 3, 1) := by decide +kernel
theorem dX9_due_75 : decode cX9_due 75 = .ok (.iaload, 1) := by decide +kernel
theorem dX9_due_76 : decode cX9_due 76 = .ok (.aload_n 0, 1) := by decide +kernel
theorem dX9_due_77 : decode cX9_due 77 = .ok (.iload_n 3, 1) := by decide +kernel
theorem dX9_due_78 : decode cX9_due 78 = .ok (.iconst 5, 1) := by decide +kernel
theorem dX9_due_79 : decode cX9_due 79 = .ok (.invokevirtual 258, 3) := by decide +kernel
theorem dX9_due_82 : decode cX9_due 82 = .ok (.iadd, 1) := by decide +kernel
theorem dX9_due_83 : decode cX9_due 83 = .ok (.istore 4, 2) := by decide +kernel
theorem dX9_due_85 : decode cX9_due 85 = .ok (.iload_n 2, 1) := by decide +kernel
theorem dX9_due_86 : decode cX9_due 86 = .ok (.iconst (-1), 1) := by decide +kernel
theorem dX9_due_87 : decode cX9_due 87 = .ok (.if_icmp .eq 9, 3) := by decide +kernel
theorem dX9_due_90 : decode cX9_due 90 = .ok (.iload 4, 2) := by decide +kernel
theorem dX9_due_92 : decode cX9_due 92 = .ok (.iload_n 2, 1) := by decide +kernel
theorem dX9_due_93 : decode cX9_due 93 = .ok (.if_icmp .ge 8, 3) := by decide +kernel
theorem dX9_due_96 : decode cX9_due 96 = .ok (.iload 4, 2) := by decide +kernel
theorem dX9_due_98 : decode cX9_due 98 = .ok (.goto 4, 3) := by decide +kernel
theorem dX9_due_101 : decode cX9_due 101 = .ok (.iload_n 2, 1) := by decide +kernel
theorem dX9_due_102 : decode cX9_due 102 = .ok (.istore_n 2, 1) := by decide +kernel
theorem dX9_due_103 : decode cX9_due 103 = .ok (.iinc 3 1, 3) := by decide +kernel
theorem dX9_due_106 : decode cX9_due 106 = .ok (.goto (-81), 3) := by decide +kernel
theorem dX9_due_109 : decode cX9_due 109 = .ok (.iload_n 2, 1) := by decide +kernel
theorem dX9_due_110 : decode cX9_due 110 = .ok (.ireturn, 1) := by decide +kernel
set_option maxHeartbeats 4000000 in
set_option maxRecDepth 100000 in
theorem s_X9_due (l : Launch) (D : va_G) (K : Nat → ClassId) (ad : Nat → Nat) (v ar : sI) (al : sL) (hI : YI v ar) (z_1 : Int) (hz_1 : -2147483648 ≤ z_1 ∧ z_1 ≤ 2147483647) : Met l yX9_due (wM yX9_due cX9_due 5 (some .int)) (rmD 4) (va_Pc [.ref (ad 0), .int (iI (z_1))] (wPre D K ad (yG ad K) 21 v ar al)) (va_Qi (fun (r : Int32) (u : sT) => (∃ z : Int, (-2147483648 ≤ z ∧ z ≤ 2147483647) ∧ r = iI z) ∧ YI u.1 u.2.1 ∧ (∀ i j : Nat, (i, j) ∉ ([(0, 0), (0, 24), (0, 25), (0, 26), (0, 27)] : List (Nat × Nat)) → u.1 i j = v i j) ∧ (∀ i : Nat, i ∉ ([12, 13, 14] : List Nat) → u.2.1 i = ar i) ∧ (∀ i : Nat, i ∉ ([] : List Nat) → u.2.2 i = al i)) (wB D ad (yG ad K) 21) (inW ad 21)) 0 0 (inW ad 21) := by
  refine s_metI (by decide) (Nat.le_of_ble_eq_true rfl) ?_
  intro p e s m below meth c ls args Q hE hB hl kr
  have hE : CallFix p m c cX9_due 5 s args tbG "TaleCourtModel" := hE
  obtain ⟨hP, hK, hN⟩ := hB
  have hS : va_S (inW ad 21) s.heap s.heap [] := va_S.rf
  have hl : lv_has ls 5 [(0, .ref (ad 0)), (1, .int (iI (z_1)))] := hl
  obtain ⟨z1, hz1, ez1⟩ := iI_of (ar 6 0)
  obtain ⟨z2, hz2, ez2⟩ := YI_h2 hI 2 (by decide)
  obtain ⟨z3, hz3, ez3⟩ := YI_h5 hI 5 (by decide)
  obtain ⟨z4, hz4, ez4⟩ := YI_h0 hI 0 (by decide)
  have ht0 := YI_t0 hI ez1 (by omega) ez2 (by omega) ez3 (by omega) ez4 (by omega)
  refine lv_aload_n hE.1 hE.2.1 dX9_due_0 rfl (lv_at hl 0 rfl) ?_
  refine lv_iconst (v := iI (0)) hE.1 hE.2.1 dX9_due_1 (by decide) ?_
  refine x_put (x := iI (0)) hE hK hN hP hS 0 (by decide) (yG_9 rfl) rfl hin9 tyX9 tyX9_ok nmX9 0 (by decide) mw_1334 rfl rfl rfl (Nat.le_of_ble_eq_true rfl) (yG_9 rfl) dX9_due_2 (fun v5 H locs hv5 hP hS => ?_)
  have hI := YI_putN hI hv5 (by decide)
  refine lv_aload_n hE.1 hE.2.1 dX9_due_5 rfl (lv_at hl 0 rfl) ?_
  refine lv_iload_n hE.1 hE.2.1 dX9_due_6 rfl (lv_at hl 1 rfl) ?_
  refine lv_i2l (v := lI (z_1)) hE.1 hE.2.1 dX9_due_7 (iI_i2l (by omega)) ?_
  refine x_vp (nn := 1) (As := [.long (lI (z_1))]) (rest := []) hE (s_X9_isMotif l D K ad v5 ar al hI (z2) (by omega) ez2 (z_1) (by omega)) wPre_blind (wPre_now hK hN hP) (x_recv hK hP 0 (by decide) (yG_9 rfl) rfl) rfl mw_1662 mw_1664 mw_74 mw_123 mw_1665 (by decide +kernel) ⟨by decide, by decide⟩ hl.1 rfl (Nat.le_of_ble_eq_true rfl) ⟨Nat.zero_le _, Nat.zero_le _⟩ dX9_due_8 (fun r6 hr6 => ?_)
  obtain ⟨z6, hz6, rfl⟩ := hr6
  refine s_if_ne (a := z6) (tgt := 17) hE.1 hE.2.1 (by omega) dX9_due_11 (by decide) (fun c7 => ?_) (fun c7 => ?_)
  · skip
    refine lv_aload_n hE.1 hE.2.1 dX9_due_17 rfl (lv_at hl 0 rfl) ?_
    refine x_vv (nn := 0) (As := []) (rest := []) hE hK hN hP hS (s_X9_lays l D K ad v5 ar al hI (z3) (by omega) ez3 ) (x_recv hK hP 0 (by decide) (yG_9 rfl) rfl) rfl mw_1638 mw_1640 mw_69 mw_123 mw_1641 (by decide +kernel) ⟨by decide, by decide⟩ hl.1 rfl (Nat.le_of_ble_eq_true rfl) ⟨Nat.zero_le _, Nat.zero_le _⟩ dX9_due_18 (fun v8 ar8 al8 H locs hq8 hP hS => ?_)
    obtain ⟨hI, hq8, hqa8, hql8, x8_1, x8_2, x8_3, hx8, ex8_1, ex8_2, ex8_3⟩ := hq8
    have hI : YI v8 ar8 := hI
    refine lv_iconst (v := iI (-1)) hE.1 hE.2.1 dX9_due_21 (by decide) ?_
    refine lv_istore_n (lv' := [(2, .int (iI (-1))), (0, .ref (ad 0)), (1, .int (iI (z_1)))]) hE.1 hE.2.1 dX9_due_22 rfl hl (by decide) rfl (fun ls hl => ?_)
    refine lv_iconst (v := iI (0)) hE.1 hE.2.1 dX9_due_23 (by decide) ?_
    refine lv_istore_n (lv' := [(3, .int (iI (0))), (2, .int (iI (-1))), (0, .ref (ad 0)), (1, .int (iI (z_1)))]) hE.1 hE.2.1 dX9_due_24 rfl hl (by decide) rfl (fun ls hl => ?_)
    have loop9 : ∀ (k9 : Nat) (y9_3 : Int) (y9_2 : Int) (vl9 : sI) (all9 : sL) (H : Heap) (locs : List Loc) (ls : Array Slot), (9 - y9_3).toNat = k9 → (0 ≤ y9_3 ∧ y9_3 ≤ 9) → (-2147483648 ≤ y9_2 ∧ y9_2 ≤ 2147483647) → YI vl9 ar8 → (∀ i j : Nat, (i, j) ∉ ([] : List (Nat × Nat)) → vl9 i j = v8 i j) → (∀ i : Nat, i ∉ ([] : List Nat) → all9 i = al8 i) → va_P D xcl (wW ad (yG ad K) 21 vl9 ar8 all9) H → va_S (inW ad 21) s.heap H locs → lv_has ls 5 [(3, .int (iI (y9_3))), (2, .int (iI (y9_2))), (0, .ref (ad 0)), (1, .int (iI (z_1)))] → W p l e (rmD 4) s m args below meth c H locs 0 0 Q (F0 m 25 ls []) := by
      intro k9
      induction k9 using Nat.strongRecOn with
      | _ k9 ih9 =>
        intro y9_3 y9_2  vl9 all9 H locs ls hk9 hb_y9_3 hb_y9_2 hI hfr9 hfl9 hP hS hl
        refine lv_iload_n hE.1 hE.2.1 dX9_due_25 rfl (lv_at hl 0 rfl) ?_
        refine lv_aload_n hE.1 hE.2.1 dX9_due_26 rfl (lv_at hl 2 rfl) ?_
        refine x_get (x := .ref (ad 7)) hE hK hP 0 (by decide) (yG_9 rfl) rfl hin9 17 (by decide) mw_1351 rfl dX9_due_27 ?_
        refine lv_iconst (v := iI (2)) hE.1 hE.2.1 dX9_due_30 (by decide) ?_
        refine x_iald (j := iI (2)) hE hK hP 7 (by decide) (yG_10 rfl) (iI_in (n := 30) (by omega)) dX9_due_31 ?_
        refine x_top (y := iI (z2)) (by rw [show (iI (2)).toNatClampNeg = 2 from by decide]; exact ((congrFun (hqa8 7 (by decide)) 2).trans ez2)) ?_
        refine s_icmp_ge (a := y9_3) (b := z2) (tgt := 109) hE.1 hE.2.1 (by omega) (by omega) dX9_due_32 (by decide) (fun c11 => ?_) (fun c11 => ?_)
        · skip
          refine lv_iload_n hE.1 hE.2.1 dX9_due_109 rfl (lv_at hl 1 rfl) ?_
          exact kr _ vl9 ar8 all9 _ _ _ _ rfl ⟨⟨y9_2, by omega, rfl⟩, hI, fun i j h => ((hfr9 i j (fun q => h (mem_sub (by decide) q))).trans ((hq8 i j (fun q => h (mem_sub (by decide) q))).trans (up_oth hv5 (fun q => h (by rcases q with ⟨rfl, rfl⟩; decide))))), fun i h => (hqa8 i (fun q => h (mem_subn (by decide) q))), fun i h => ((hfl9 i (fun q => h (mem_subn (by decide) q))).trans (hql8 i (fun q => h (mem_subn (by decide) q))))⟩ hP hS dX9_due_110
        · skip
          refine lv_aload_n hE.1 hE.2.1 dX9_due_35 rfl (lv_at hl 2 rfl) ?_
          refine x_get (x := .int (vl9 0 25)) hE hK hP 0 (by decide) (yG_9 rfl) rfl hin9 25 (by decide) mw_1359 rfl dX9_due_36 ?_
          refine x_top (y := iI (x8_2)) ((hfr9 0 25 (by decide)).trans ex8_2) ?_
          refine lv_iload_n hE.1 hE.2.1 dX9_due_39 rfl (lv_at hl 0 rfl) ?_
          refine x_sp (nn := 2) (As := [.int (iI (x8_2)), .int (iI (y9_3))]) (rest := []) hE (s_X9_isBit l (x8_2) (by omega) (y9_3) (by omega)) tt_blind (fun _ _ _ => trivial) rfl mw_1683 mw_1684 mw_123 mw_1685 (by decide +kernel) ⟨by decide, by decide⟩ hl.1 rfl (Nat.le_of_ble_eq_true rfl) ⟨Nat.zero_le _, Nat.zero_le _⟩ dX9_due_40 (fun r12 hr12 => ?_)
          obtain ⟨z12, hz12, rfl⟩ := hr12
          refine s_if_eq (a := z12) (tgt := 103) hE.1 hE.2.1 (by omega) dX9_due_43 (by decide) (fun c13 => ?_) (fun c13 => ?_)
          · skip
            refine lv_iinc (v := iI (y9_3 + 1)) (lv' := [(3, .int (iI (y9_3 + 1))), (2, .int (iI (y9_2))), (0, .ref (ad 0)), (1, .int (iI (z_1)))]) hE.1 hE.2.1 dX9_due_103 hl (k := 0) rfl ((iI_add (y9_3) (1)).trans (congrArg iI (by omega))) (by decide) rfl (fun ls hl => ?_)
            refine lv_goto (tgt := 25) hE.1 hE.2.1 dX9_due_106 (by decide) ?_
            exact ih9 _ (by omega) (y9_3 + 1) (y9_2)  vl9  all9 _ _ _ rfl (by omega) (by omega)  hI (fun i j h => (hfr9 i j h)) (fun i h => (hfl9 i h)) hP hS (lv_sub hl [0, 1, 2, 3] rfl)
          · skip
            refine lv_aload_n hE.1 hE.2.1 dX9_due_46 rfl (lv_at hl 2 rfl) ?_
            refine lv_iload_n hE.1 hE.2.1 dX9_due_47 rfl (lv_at hl 0 rfl) ?_
            refine lv_iconst (v := iI (4)) hE.1 hE.2.1 dX9_due_48 (by decide) ?_
            refine x_vp (nn := 2) (As := [.int (iI (y9_3)), .int (iI (4))]) (rest := []) hE (s_X9_of l D K ad vl9 ar8 all9 hI  (y9_3) (by omega) (4) (by omega)) wPre_blind (wPre_now hK hN hP) (x_recv hK hP 0 (by decide) (yG_9 rfl) rfl) rfl mw_1654 mw_1656 mw_73 mw_123 mw_1657 (by decide +kernel) ⟨by decide, by decide⟩ hl.1 rfl (Nat.le_of_ble_eq_true rfl) ⟨Nat.zero_le _, Nat.zero_le _⟩ dX9_due_49 (fun r14 hr14 => ?_)
            obtain ⟨z14, hz14, rfl⟩ := hr14
            refine lv_iload_n hE.1 hE.2.1 dX9_due_52 rfl (lv_at hl 3 rfl) ?_
            refine s_icmp_ne (a := z14) (b := z_1) (tgt := 103) hE.1 hE.2.1 (by omega) (by omega) dX9_due_53 (by decide) (fun c15 => ?_) (fun c15 => ?_)
            · skip
              refine lv_iinc (v := iI (y9_3 + 1)) (lv' := [(3, .int (iI (y9_3 + 1))), (2, .int (iI (y9_2))), (0, .ref (ad 0)), (1, .int (iI (z_1)))]) hE.1 hE.2.1 dX9_due_103 hl (k := 0) rfl ((iI_add (y9_3) (1)).trans (congrArg iI (by omega))) (by decide) rfl (fun ls hl => ?_)
              refine lv_goto (tgt := 25) hE.1 hE.2.1 dX9_due_106 (by decide) ?_
              exact ih9 _ (by omega) (y9_3 + 1) (y9_2)  vl9  all9 _ _ _ rfl (by omega) (by omega)  hI (fun i j h => (hfr9 i j h)) (fun i h => (hfl9 i h)) hP hS (lv_sub hl [0, 1, 2, 3] rfl)
            · skip
              refine lv_aload_n hE.1 hE.2.1 dX9_due_56 rfl (lv_at hl 2 rfl) ?_
              refine x_get (x := .int (vl9 0 25)) hE hK hP 0 (by decide) (yG_9 rfl) rfl hin9 25 (by decide) mw_1359 rfl dX9_due_57 ?_
              refine x_top (y := iI (x8_2)) ((hfr9 0 25 (by decide)).trans ex8_2) ?_
              refine lv_iload_n hE.1 hE.2.1 dX9_due_60 rfl (lv_at hl 3 rfl) ?_
              refine x_sp (nn := 2) (As := [.int (iI (x8_2)), .int (iI (z_1))]) (rest := []) hE (s_X9_isBit l (x8_2) (by omega) (z_1) (by omega)) tt_blind (fun _ _ _ => trivial) rfl mw_1683 mw_1684 mw_123 mw_1685 (by decide +kernel) ⟨by decide, by decide⟩ hl.1 rfl (Nat.le_of_ble_eq_true rfl) ⟨Nat.zero_le _, Nat.zero_le _⟩ dX9_due_61 (fun r16 hr16 => ?_)
              obtain ⟨z16, hz16, rfl⟩ := hr16
              refine s_if_eq (a := z16) (tgt := 70) hE.1 hE.2.1 (by omega) dX9_due_64 (by decide) (fun c17 => ?_) (fun c17 => ?_)
              · skip
                refine lv_aload_n hE.1 hE.2.1 dX9_due_70 rfl (lv_at hl 2 rfl) ?_
                refine x_get (x := .ref (ad 13)) hE hK hP 0 (by decide) (yG_9 rfl) rfl hin9 23 (by decide) mw_1357 rfl dX9_due_71 ?_
                refine lv_iload_n hE.1 hE.2.1 dX9_due_74 rfl (lv_at hl 0 rfl) ?_
                refine x_iald (j := iI (y9_3)) hE hK hP 13 (by decide) (yG_10 rfl) (iI_in (n := 9) (by omega)) dX9_due_75 ?_
                obtain ⟨z19, hz19, ez19⟩ := iI_of (ar8 13 (iI (y9_3)).toNatClampNeg)
                refine x_top ez19 ?_
                refine lv_aload_n hE.1 hE.2.1 dX9_due_76 rfl (lv_at hl 2 rfl) ?_
                refine lv_iload_n hE.1 hE.2.1 dX9_due_77 rfl (lv_at hl 0 rfl) ?_
                refine lv_iconst (v := iI (5)) hE.1 hE.2.1 dX9_due_78 (by decide) ?_
                refine x_vp (nn := 2) (As := [.int (iI (y9_3)), .int (iI (5))]) (rest := [.int (iI (z19))]) hE (s_X9_of l D K ad vl9 ar8 all9 hI  (y9_3) (by omega) (5) (by omega)) wPre_blind (wPre_now hK hN hP) (x_recv hK hP 0 (by decide) (yG_9 rfl) rfl) rfl mw_1654 mw_1656 mw_73 mw_123 mw_1657 (by decide +kernel) ⟨by decide, by decide⟩ hl.1 rfl (Nat.le_of_ble_eq_true rfl) ⟨Nat.zero_le _, Nat.zero_le _⟩ dX9_due_79 (fun r20 hr20 => ?_)
                obtain ⟨z20, hz20, rfl⟩ := hr20
                refine lv_iadd hE.1 hE.2.1 dX9_due_82 ?_
                obtain ⟨z21, hz21, ez21⟩ := iI_of (iI (z19) + iI (z20))
                refine x_top ez21 ?_
                refine lv_istore (lv' := [(4, .int (iI (z21))), (3, .int (iI (y9_3))), (2, .int (iI (y9_2))), (0, .ref (ad 0)), (1, .int (iI (z_1)))]) hE.1 hE.2.1 dX9_due_83 hl (by decide) rfl (fun ls hl => ?_)
                refine lv_iload_n hE.1 hE.2.1 dX9_due_85 rfl (lv_at hl 2 rfl) ?_
                refine lv_iconst (v := iI (-1)) hE.1 hE.2.1 dX9_due_86 (by decide) ?_
                refine s_icmp_eq (a := y9_2) (b := -1) (tgt := 96) hE.1 hE.2.1 (by omega) (by omega) dX9_due_87 (by decide) (fun c22 => ?_) (fun c22 => ?_)
                · skip
                  refine lv_iload hE.1 hE.2.1 dX9_due_96 (lv_at hl 0 rfl) ?_
                  refine lv_goto (tgt := 102) hE.1 hE.2.1 dX9_due_98 (by decide) ?_
                  refine lv_istore_n (lv' := [(2, .int (iI (z21))), (4, .int (iI (z21))), (3, .int (iI (y9_3))), (0, .ref (ad 0)), (1, .int (iI (z_1)))]) hE.1 hE.2.1 dX9_due_102 rfl hl (by decide) rfl (fun ls hl => ?_)
                  refine lv_iinc (v := iI (y9_3 + 1)) (lv' := [(3, .int (iI (y9_3 + 1))), (2, .int (iI (z21))), (4, .int (iI (z21))), (0, .ref (ad 0)), (1, .int (iI (z_1)))]) hE.1 hE.2.1 dX9_due_103 hl (k := 2) rfl ((iI_add (y9_3) (1)).trans (congrArg iI (by omega))) (by decide) rfl (fun ls hl => ?_)
                  refine lv_goto (tgt := 25) hE.1 hE.2.1 dX9_due_106 (by decide) ?_
                  exact ih9 _ (by omega) (y9_3 + 1) (z21)  vl9  all9 _ _ _ rfl (by omega) (by omega)  hI (fun i j h => (hfr9 i j h)) (fun i h => (hfl9 i h)) hP hS (lv_sub hl [0, 1, 3, 4] rfl)
                · skip
                  refine lv_iload hE.1 hE.2.1 dX9_due_90 (lv_at hl 0 rfl) ?_
                  refine lv_iload_n hE.1 hE.2.1 dX9_due_92 rfl (lv_at hl 2 rfl) ?_
                  refine s_icmp_ge (a := z21) (b := y9_2) (tgt := 101) hE.1 hE.2.1 (by omega) (by omega) dX9_due_93 (by decide) (fun c23 => ?_) (fun c23 => ?_)
                  · skip
                    refine lv_iload_n hE.1 hE.2.1 dX9_due_101 rfl (lv_at hl 2 rfl) ?_
                    refine lv_istore_n (lv' := [(2, .int (iI (y9_2))), (4, .int (iI (z21))), (3, .int (iI (y9_3))), (0, .ref (ad 0)), (1, .int (iI (z_1)))]) hE.1 hE.2.1 dX9_due_102 rfl hl (by decide) rfl (fun ls hl => ?_)
                    refine lv_iinc (v := iI (y9_3 + 1)) (lv' := [(3, .int (iI (y9_3 + 1))), (2, .int (iI (y9_2))), (4, .int (iI (z21))), (0, .ref (ad 0)), (1, .int (iI (z_1)))]) hE.1 hE.2.1 dX9_due_103 hl (k := 2) rfl ((iI_add (y9_3) (1)).trans (congrArg iI (by omega))) (by decide) rfl (fun ls hl => ?_)
                    refine lv_goto (tgt := 25) hE.1 hE.2.1 dX9_due_106 (by decide) ?_
                    exact ih9 _ (by omega) (y9_3 + 1) (y9_2)  vl9  all9 _ _ _ rfl (by omega) (by omega)  hI (fun i j h => (hfr9 i j h)) (fun i h => (hfl9 i h)) hP hS (lv_sub hl [0, 1, 3, 4] rfl)
                  · skip
                    refine lv_iload hE.1 hE.2.1 dX9_due_96 (lv_at hl 0 rfl) ?_
                    refine lv_goto (tgt := 102) hE.1 hE.2.1 dX9_due_98 (by decide) ?_
                    refine lv_istore_n (lv' := [(2, .int (iI (z21))), (4, .int (iI (z21))), (3, .int (iI (y9_3))), (0, .ref (ad 0)), (1, .int (iI (z_1)))]) hE.1 hE.2.1 dX9_due_102 rfl hl (by decide) rfl (fun ls hl => ?_)
                    refine lv_iinc (v := iI (y9_3 + 1)) (lv' := [(3, .int (iI (y9_3 + 1))), (2, .int (iI (z21))), (4, .int (iI (z21))), (0, .ref (ad 0)), (1, .int (iI (z_1)))]) hE.1 hE.2.1 dX9_due_103 hl (k := 2) rfl ((iI_add (y9_3) (1)).trans (congrArg iI (by omega))) (by decide) rfl (fun ls hl => ?_)
                    refine lv_goto (tgt := 25) hE.1 hE.2.1 dX9_due_106 (by decide) ?_
                    exact ih9 _ (by omega) (y9_3 + 1) (z21)  vl9  all9 _ _ _ rfl (by omega) (by omega)  hI (fun i j h => (hfr9 i j h)) (fun i h => (hfl9 i h)) hP hS (lv_sub hl [0, 1, 3, 4] rfl)
              · skip
                refine lv_goto (tgt := 103) hE.1 hE.2.1 dX9_due_67 (by decide) ?_
                refine lv_iinc (v := iI (y9_3 + 1)) (lv' := [(3, .int (iI (y9_3 + 1))), (2, .int (iI (y9_2))), (0, .ref (ad 0)), (1, .int (iI (z_1)))]) hE.1 hE.2.1 dX9_due_103 hl (k := 0) rfl ((iI_add (y9_3) (1)).trans (congrArg iI (by omega))) (by decide) rfl (fun ls hl => ?_)
                refine lv_goto (tgt := 25) hE.1 hE.2.1 dX9_due_106 (by decide) ?_
                exact ih9 _ (by omega) (y9_3 + 1) (y9_2)  vl9  all9 _ _ _ rfl (by omega) (by omega)  hI (fun i j h => (hfr9 i j h)) (fun i h => (hfl9 i h)) hP hS (lv_sub hl [0, 1, 2, 3] rfl)
    exact loop9 _ (0) (-1)  v8  al8 _ _ _ rfl (by omega) (by omega)  hI (fun _ _ _ => rfl) (fun _ _ => rfl) hP hS hl
  · skip
    refine lv_bipush (v := iI (-2)) hE.1 hE.2.1 dX9_due_14 (by decide) ?_
    exact kr _ v5 ar al _ _ _ _ rfl ⟨⟨-2, by omega, rfl⟩, hI, fun i j h => (up_oth hv5 (fun q => h (by rcases q with ⟨rfl, rfl⟩; decide))), fun i h => rfl, fun i h => rfl⟩ hP hS dX9_due_16

theorem dX9_isWhole_0 : decode cX9_isWhole 0 = .ok (.aload_n 0, 1) := by decide +kernel
theorem dX9_isWhole_1 : decode cX9_isWhole 1 = .ok (.getfield 268, 3) := by decide +kernel
theorem dX9_isWhole_4 : decode cX9_isWhole 4 = .ok (.ifCond .eq 30, 3) := by decide +kernel
theorem dX9_isWhole_7 : decode cX9_isWhole 7 = .ok (.aload_n 0, 1) := by decide +kernel
theorem dX9_isWhole_8 : decode cX9_isWhole 8 = .ok (.invokevirtual 292, 3) := by decide +kernel
theorem dX9_isWhole_11 : decode cX9_isWhole 11 = .ok (.ifCond .ne 23, 3) := by decide +kernel
theorem dX9_isWhole_14 : decode cX9_isWhole 14 = .ok (.aload_n 0, 1) := by decide +kernel
theorem dX9_isWhole_15 : decode cX9_isWhole 15 = .ok (.getfield 34, 3) := by decide +kernel
theorem dX9_isWhole_18 : decode cX9_isWhole 18 = .ok (.iconst 4, 1) := by decide +kernel
theorem dX9_isWhole_19 : decode cX9_isWhole 19 = .ok (.iaload, 1) := by decide +kernel
theorem dX9_isWhole_20 : decode cX9_isWhole 20 = .ok (.aload_n 0, 1) := by decide +kernel
theorem dX9_isWhole_21 : decode cX9_isWhole 21 = .ok (.getfield 277, 3) := by decide +kernel
theorem dX9_isWhole_24 : decode cX9_isWhole 24 = .ok (.invokestatic 261, 3) := by decide +kernel
theorem dX9_isWhole_27 : decode cX9_isWhole 27 = .ok (.ifCond .ne 7, 3) := by decide +kernel
theorem dX9_isWhole_30 : decode cX9_isWhole 30 = .ok (.iconst 1, 1) := by decide +kernel
theorem dX9_isWhole_31 : decode cX9_isWhole 31 = .ok (.goto 4, 3) := by decide +kernel
theorem dX9_isWhole_34 : decode cX9_isWhole 34 = .ok (.iconst 0, 1) := by decide +kernel
theorem dX9_isWhole_35 : decode cX9_isWhole 35 = .ok (.ireturn, 1) := by decide +kernel
set_option maxHeartbeats 4000000 in
set_option maxRecDepth 100000 in
theorem s_X9_isWhole (l : Launch) (D : va_G) (K : Nat → ClassId) (ad : Nat → Nat) (v ar : sI) (al : sL) (hI : YI v ar) : Met l yX9_isWhole (wM yX9_isWhole cX9_isWhole 1 (some .boolean)) (rmD 2) (va_Pc [.ref (ad 0)] (wPre D K ad (yG ad K) 21 v ar al)) (vp_Si (fun r => ∃ z : Int, (0 ≤ z ∧ z ≤ 1) ∧ r = iI z)) 0 0 (fun _ => False) := by
  refine s_metP (by decide) (Nat.le_of_ble_eq_true rfl) ?_
  intro p e s m below meth c ls args Q hE hB hl kr
  have hE : CallFix p m c cX9_isWhole 1 s args tbG "TaleCourtModel" := hE
  obtain ⟨hP, hK, hN⟩ := hB
  have hl : lv_has ls 1 [(0, .ref (ad 0))] := hl
  refine lv_aload_n hE.1 hE.2.1 dX9_isWhole_0 rfl (lv_at hl 0 rfl) ?_
  obtain ⟨z1, hz1, ez1⟩ := YI_get hI 0 25 0 511 (by decide)
  refine x_get (x := .int (v 0 25)) hE hK hP 0 (by decide) (yG_9 rfl) rfl hin9 25 (by decide) mw_1359 rfl dX9_isWhole_1 ?_
  refine x_top (y := iI (z1)) ez1 ?_
  refine s_if_eq (a := z1) (tgt := 34) hE.1 hE.2.1 (by omega) dX9_isWhole_4 (by decide) (fun c2 => ?_) (fun c2 => ?_)
  · skip
    refine lv_iconst (v := iI (0)) hE.1 hE.2.1 dX9_isWhole_34 (by decide) ?_
    exact kr _ _ _ (nar01 (by omega)) ⟨0, by omega, rfl⟩ dX9_isWhole_35
  · skip
    refine lv_aload_n hE.1 hE.2.1 dX9_isWhole_7 rfl (lv_at hl 0 rfl) ?_
    refine x_vp (nn := 0) (As := []) (rest := []) hE (s_X9_owedNow l D K ad v ar al hI  ) wPre_blind (wPre_now hK hN hP) (x_recv hK hP 0 (by decide) (yG_9 rfl) rfl) rfl mw_1762 mw_1764 mw_82 mw_123 mw_1765 (by decide +kernel) ⟨by decide, by decide⟩ hl.1 rfl (Nat.le_of_ble_eq_true rfl) ⟨Nat.zero_le _, Nat.zero_le _⟩ dX9_isWhole_8 (fun r3 hr3 => ?_)
    obtain ⟨z3, hz3, rfl⟩ := hr3
    refine s_if_ne (a := z3) (tgt := 34) hE.1 hE.2.1 (by omega) dX9_isWhole_11 (by decide) (fun c4 => ?_) (fun c4 => ?_)
    · skip
      refine lv_iconst (v := iI (0)) hE.1 hE.2.1 dX9_isWhole_34 (by decide) ?_
      exact kr _ _ _ (nar01 (by omega)) ⟨0, by omega, rfl⟩ dX9_isWhole_35
    · skip
      refine lv_aload_n hE.1 hE.2.1 dX9_isWhole_14 rfl (lv_at hl 0 rfl) ?_
      refine x_get (x := .ref (ad 7)) hE hK hP 0 (by decide) (yG_9 rfl) rfl hin9 17 (by decide) mw_1351 rfl dX9_isWhole_15 ?_
      refine lv_iconst (v := iI (4)) hE.1 hE.2.1 dX9_isWhole_18 (by decide) ?_
      refine x_iald (j := iI (4)) hE hK hP 7 (by decide) (yG_10 rfl) (iI_in (n := 30) (by omega)) dX9_isWhole_19 ?_
      obtain ⟨z6, hz6, ez6⟩ := iI_of (ar 7 4)
      refine x_top (y := iI (z6)) (by rw [show (iI (4)).toNatClampNeg = 4 from by decide]; exact ez6) ?_
      refine lv_aload_n hE.1 hE.2.1 dX9_isWhole_20 rfl (lv_at hl 0 rfl) ?_
      obtain ⟨z7, hz7, ez7⟩ := YI_get hI 0 26 (-1) 8 (by decide)
      refine x_get (x := .int (v 0 26)) hE hK hP 0 (by decide) (yG_9 rfl) rfl hin9 26 (by decide) mw_1360 rfl dX9_isWhole_21 ?_
      refine x_top (y := iI (z7)) ez7 ?_
      refine x_sp (nn := 2) (As := [.int (iI (z6)), .int (iI (z7))]) (rest := []) hE (s_X9_isBit l (z6) (by omega) (z7) (by omega)) tt_blind (fun _ _ _ => trivial) rfl mw_1683 mw_1684 mw_123 mw_1685 (by decide +kernel) ⟨by decide, by decide⟩ hl.1 rfl (Nat.le_of_ble_eq_true rfl) ⟨Nat.zero_le _, Nat.zero_le _⟩ dX9_isWhole_24 (fun r8 hr8 => ?_)
      obtain ⟨z8, hz8, rfl⟩ := hr8
      refine s_if_ne (a := z8) (tgt := 34) hE.1 hE.2.1 (by omega) dX9_isWhole_27 (by decide) (fun c9 => ?_) (fun c9 => ?_)
      · skip
        refine lv_iconst (v := iI (0)) hE.1 hE.2.1 dX9_isWhole_34 (by decide) ?_
        exact kr _ _ _ (nar01 (by omega)) ⟨0, by omega, rfl⟩ dX9_isWhole_35
      · skip
        refine lv_iconst (v := iI (1)) hE.1 hE.2.1 dX9_isWhole_30 (by decide) ?_
        refine lv_goto (tgt := 35) hE.1 hE.2.1 dX9_isWhole_31 (by decide) ?_
        exact kr _ _ _ (nar01 (by omega)) ⟨1, by omega, rfl⟩ dX9_isWhole_35

theorem dX9_whole_0 : decode cX9_whole 0 = .ok (.aload_n 0, 1) := by decide +kernel
theorem dX9_whole_1 : decode cX9_whole 1 = .ok (.iconst 0, 1) := by decide +kernel
theorem dX9_whole_2 : decode cX9_whole 2 = .ok (.putfield 81, 3) := by decide +kernel
theorem dX9_whole_5 : decode cX9_whole 5 = .ok (.aload_n 0, 1) := by decide +kernel
theorem dX9_whole_6 : decode cX9_whole 6 = .ok (.invokevirtual 301, 3) := by decide +kernel
theorem dX9_whole_9 : decode cX9_whole 9 = .ok (.ifCond .ne 6, 3) := by decide +kernel
theorem dX9_whole_12 : decode cX9_whole 12 = .ok (.bipush (-2), 2) := by decide +kernel
theorem dX9_whole_14 : decode cX9_whole 14 = .ok (.ireturn, 1) := by decide +kernel
theorem dX9_whole_15 : decode cX9_whole 15 = .ok (.aload_n 0, 1) := by decide +kernel
theorem dX9_whole_16 : decode cX9_whole 16 = .ok (.invokevirtual 246, 3) := by decide +kernel
theorem dX9_whole_19 : decode cX9_whole 19 = .ok (.aload_n 0, 1) := by decide +kernel
theorem dX9_whole_20 : decode cX9_whole 20 = .ok (.invokevirtual 310, 3) := by decide +kernel
theorem dX9_whole_23 : decode cX9_whole 23 = .ok (.ifCond .eq 7, 3) := by decide +kernel
theorem dX9_whole_26 : decode cX9_whole 26 = .ok (.iconst 1, 1) := by decide +kernel
theorem dX9_whole_27 : decode cX9_whole 27 = .ok (.goto 4, 3) := by decide +kernel
theorem dX9_whole_30 : decode cX9_whole 30 = .ok (.iconst 0, 1) := by decide +kernel
theorem dX9_whole_31 : decode cX9_whole 31 = .ok (.ireturn, 1) := by decide +kernel
set_option maxHeartbeats 4000000 in
set_option maxRecDepth 100000 in
theorem s_X9_whole (l : Launch) (D : va_G) (K : Nat → ClassId) (ad : Nat → Nat) (v ar : sI) (al : sL) (hI : YI v ar) : Met l yX9_whole (wM yX9_whole cX9_whole 1 (some .int)) (rmD 4) (va_Pc [.ref (ad 0)] (wPre D K ad (yG ad K) 21 v ar al)) (va_Qi (fun (r : Int32) (u : sT) => (∃ z : Int, (-2147483648 ≤ z ∧ z ≤ 2147483647) ∧ r = iI z) ∧ YI u.1 u.2.1 ∧ (∀ i j : Nat, (i, j) ∉ ([(0, 0), (0, 24), (0, 25), (0, 26), (0, 27)] : List (Nat × Nat)) → u.1 i j = v i j) ∧ (∀ i : Nat, i ∉ ([12, 13, 14] : List Nat) → u.2.1 i = ar i) ∧ (∀ i : Nat, i ∉ ([] : List Nat) → u.2.2 i = al i)) (wB D ad (yG ad K) 21) (inW ad 21)) 0 0 (inW ad 21) := by
  refine s_metI (by decide) (Nat.le_of_ble_eq_true rfl) ?_
  intro p e s m below meth c ls args Q hE hB hl kr
  have hE : CallFix p m c cX9_whole 1 s args tbG "TaleCourtModel" := hE
  obtain ⟨hP, hK, hN⟩ := hB
  have hS : va_S (inW ad 21) s.heap s.heap [] := va_S.rf
  have hl : lv_has ls 1 [(0, .ref (ad 0))] := hl
  obtain ⟨z1, hz1, ez1⟩ := iI_of (ar 6 0)
  obtain ⟨z2, hz2, ez2⟩ := YI_h2 hI 2 (by decide)
  obtain ⟨z3, hz3, ez3⟩ := YI_h5 hI 5 (by decide)
  obtain ⟨z4, hz4, ez4⟩ := YI_h0 hI 0 (by decide)
  have ht0 := YI_t0 hI ez1 (by omega) ez2 (by omega) ez3 (by omega) ez4 (by omega)
  refine lv_aload_n hE.1 hE.2.1 dX9_whole_0 rfl (lv_at hl 0 rfl) ?_
  refine lv_iconst (v := iI (0)) hE.1 hE.2.1 dX9_whole_1 (by decide) ?_
  refine x_put (x := iI (0)) hE hK hN hP hS 0 (by decide) (yG_9 rfl) rfl hin9 tyX9 tyX9_ok nmX9 0 (by decide) mw_1334 rfl rfl rfl (Nat.le_of_ble_eq_true rfl) (yG_9 rfl) dX9_whole_2 (fun v5 H locs hv5 hP hS => ?_)
  have hI := YI_putN hI hv5 (by decide)
  refine lv_aload_n hE.1 hE.2.1 dX9_whole_5 rfl (lv_at hl 0 rfl) ?_
  refine x_vp (nn := 0) (As := []) (rest := []) hE (s_X9_isCourt l D K ad v5 ar al hI (z1) (by omega) ez1 ) wPre_blind (wPre_now hK hN hP) (x_recv hK hP 0 (by decide) (yG_9 rfl) rfl) rfl mw_1718 mw_1720 mw_79 mw_123 mw_1721 (by decide +kernel) ⟨by decide, by decide⟩ hl.1 rfl (Nat.le_of_ble_eq_true rfl) ⟨Nat.zero_le _, Nat.zero_le _⟩ dX9_whole_6 (fun r6 hr6 => ?_)
  obtain ⟨z6, hz6, rfl⟩ := hr6
  refine s_if_ne (a := z6) (tgt := 15) hE.1 hE.2.1 (by omega) dX9_whole_9 (by decide) (fun c7 => ?_) (fun c7 => ?_)
  · skip
    refine lv_aload_n hE.1 hE.2.1 dX9_whole_15 rfl (lv_at hl 0 rfl) ?_
    refine x_vv (nn := 0) (As := []) (rest := []) hE hK hN hP hS (s_X9_lays l D K ad v5 ar al hI (z3) (by omega) ez3 ) (x_recv hK hP 0 (by decide) (yG_9 rfl) rfl) rfl mw_1638 mw_1640 mw_69 mw_123 mw_1641 (by decide +kernel) ⟨by decide, by decide⟩ hl.1 rfl (Nat.le_of_ble_eq_true rfl) ⟨Nat.zero_le _, Nat.zero_le _⟩ dX9_whole_16 (fun v8 ar8 al8 H locs hq8 hP hS => ?_)
    obtain ⟨hI, hq8, hqa8, hql8, x8_1, x8_2, x8_3, hx8, ex8_1, ex8_2, ex8_3⟩ := hq8
    have hI : YI v8 ar8 := hI
    refine lv_aload_n hE.1 hE.2.1 dX9_whole_19 rfl (lv_at hl 0 rfl) ?_
    refine x_vp (nn := 0) (As := []) (rest := []) hE (s_X9_isWhole l D K ad v8 ar8 al8 hI  ) wPre_blind (wPre_now hK hN hP) (x_recv hK hP 0 (by decide) (yG_9 rfl) rfl) rfl mw_1774 mw_1776 mw_83 mw_123 mw_1777 (by decide +kernel) ⟨by decide, by decide⟩ hl.1 rfl (Nat.le_of_ble_eq_true rfl) ⟨Nat.zero_le _, Nat.zero_le _⟩ dX9_whole_20 (fun r9 hr9 => ?_)
    obtain ⟨z9, hz9, rfl⟩ := hr9
    refine s_if_eq (a := z9) (tgt := 30) hE.1 hE.2.1 (by omega) dX9_whole_23 (by decide) (fun c10 => ?_) (fun c10 => ?_)
    · skip
      refine lv_iconst (v := iI (0)) hE.1 hE.2.1 dX9_whole_30 (by decide) ?_
      exact kr _ v8 ar8 al8 _ _ _ _ rfl ⟨⟨0, by omega, rfl⟩, hI, fun i j h => ((hq8 i j (fun q => h (mem_sub (by decide) q))).trans (up_oth hv5 (fun q => h (by rcases q with ⟨rfl, rfl⟩; decide)))), fun i h => (hqa8 i (fun q => h (mem_subn (by decide) q))), fun i h => (hql8 i (fun q => h (mem_subn (by decide) q)))⟩ hP hS dX9_whole_31
    · skip
      refine lv_iconst (v := iI (1)) hE.1 hE.2.1 dX9_whole_26 (by decide) ?_
      refine lv_goto (tgt := 31) hE.1 hE.2.1 dX9_whole_27 (by decide) ?_
      exact kr _ v8 ar8 al8 _ _ _ _ rfl ⟨⟨1, by omega, rfl⟩, hI, fun i j h => ((hq8 i j (fun q => h (mem_sub (by decide) q))).trans (up_oth hv5 (fun q => h (by rcases q with ⟨rfl, rfl⟩; decide)))), fun i h => (hqa8 i (fun q => h (mem_subn (by decide) q))), fun i h => (hql8 i (fun q => h (mem_subn (by decide) q)))⟩ hP hS dX9_whole_31
  · skip
    refine lv_bipush (v := iI (-2)) hE.1 hE.2.1 dX9_whole_12 (by decide) ?_
    exact kr _ v5 ar al _ _ _ _ rfl ⟨⟨-2, by omega, rfl⟩, hI, fun i j h => (up_oth hv5 (fun q => h (by rcases q with ⟨rfl, rfl⟩; decide))), fun i h => rfl, fun i h => rfl⟩ hP hS dX9_whole_14

theorem dX9_points_0 : decode cX9_points 0 = .ok (.aload_n 0, 1) := by decide +kernel
theorem dX9_points_1 : decode cX9_points 1 = .ok (.iconst 0, 1) := by decide +kernel
theorem dX9_points_2 : decode cX9_points 2 = .ok (.putfield 81, 3) := by decide +kernel
theorem dX9_points_5 : decode cX9_points 5 = .ok (.aload_n 0, 1) := by decide +kernel
theorem dX9_points_6 : decode cX9_points 6 = .ok (.invokevirtual 301, 3) := by decide +kernel
theorem dX9_points_9 : decode cX9_points 9 = .ok (.ifCond .ne 6, 3) := by decide +kernel
theorem dX9_points_12 : decode cX9_points 12 = .ok (.bipush (-2), 2) := by decide +kernel
theorem dX9_points_14 : decode cX9_points 14 = .ok (.ireturn, 1) := by decide +kernel
theorem dX9_points_15 : decode cX9_points 15 = .ok (.aload_n 0, 1) := by decide +kernel
theorem dX9_points_16 : decode cX9_points 16 = .ok (.invokevirtual 246, 3) := by decide +kernel
theorem dX9_points_19 : decode cX9_points 19 = .ok (.aload_n 0, 1) := by decide +kernel
theorem dX9_points_20 : decode cX9_points 20 = .ok (.getfield 271, 3) := by decide +kernel
theorem dX9_points_23 : decode cX9_points 23 = .ok (.ireturn, 1) := by decide +kernel
set_option maxHeartbeats 4000000 in
set_option maxRecDepth 100000 in
theorem s_X9_points (l : Launch) (D : va_G) (K : Nat → ClassId) (ad : Nat → Nat) (v ar : sI) (al : sL) (hI : YI v ar) : Met l yX9_points (wM yX9_points cX9_points 1 (some .int)) (rmD 4) (va_Pc [.ref (ad 0)] (wPre D K ad (yG ad K) 21 v ar al)) (va_Qi (fun (r : Int32) (u : sT) => (∃ z : Int, (-2147483648 ≤ z ∧ z ≤ 2147483647) ∧ r = iI z) ∧ YI u.1 u.2.1 ∧ (∀ i j : Nat, (i, j) ∉ ([(0, 0), (0, 24), (0, 25), (0, 26), (0, 27)] : List (Nat × Nat)) → u.1 i j = v i j) ∧ (∀ i : Nat, i ∉ ([12, 13, 14] : List Nat) → u.2.1 i = ar i) ∧ (∀ i : Nat, i ∉ ([] : List Nat) → u.2.2 i = al i)) (wB D ad (yG ad K) 21) (inW ad 21)) 0 0 (inW ad 21) := by
  refine s_metI (by decide) (Nat.le_of_ble_eq_true rfl) ?_
  intro p e s m below meth c ls args Q hE hB hl kr
  have hE : CallFix p m c cX9_points 1 s args tbG "TaleCourtModel" := hE
  obtain ⟨hP, hK, hN⟩ := hB
  have hS : va_S (inW ad 21) s.heap s.heap [] := va_S.rf
  have hl : lv_has ls 1 [(0, .ref (ad 0))] := hl
  obtain ⟨z1, hz1, ez1⟩ := iI_of (ar 6 0)
  obtain ⟨z2, hz2, ez2⟩ := YI_h2 hI 2 (by decide)
  obtain ⟨z3, hz3, ez3⟩ := YI_h5 hI 5 (by decide)
  obtain ⟨z4, hz4, ez4⟩ := YI_h0 hI 0 (by decide)
  have ht0 := YI_t0 hI ez1 (by omega) ez2 (by omega) ez3 (by omega) ez4 (by omega)
  refine lv_aload_n hE.1 hE.2.1 dX9_points_0 rfl (lv_at hl 0 rfl) ?_
  refine lv_iconst (v := iI (0)) hE.1 hE.2.1 dX9_points_1 (by decide) ?_
  refine x_put (x := iI (0)) hE hK hN hP hS 0 (by decide) (yG_9 rfl) rfl hin9 tyX9 tyX9_ok nmX9 0 (by decide) mw_1334 rfl rfl rfl (Nat.le_of_ble_eq_true rfl) (yG_9 rfl) dX9_points_2 (fun v5 H locs hv5 hP hS => ?_)
  have hI := YI_putN hI hv5 (by decide)
  refine lv_aload_n hE.1 hE.2.1 dX9_points_5 rfl (lv_at hl 0 rfl) ?_
  refine x_vp (nn := 0) (As := []) (rest := []) hE (s_X9_isCourt l D K ad v5 ar al hI (z1) (by omega) ez1 ) wPre_blind (wPre_now hK hN hP) (x_recv hK hP 0 (by decide) (yG_9 rfl) rfl) rfl mw_1718 mw_1720 mw_79 mw_123 mw_1721 (by decide +kernel) ⟨by decide, by decide⟩ hl.1 rfl (Nat.le_of_ble_eq_true rfl) ⟨Nat.zero_le _, Nat.zero_le _⟩ dX9_points_6 (fun r6 hr6 => ?_)
  obtain ⟨z6, hz6, rfl⟩ := hr6
  refine s_if_ne (a := z6) (tgt := 15) hE.1 hE.2.1 (by omega) dX9_points_9 (by decide) (fun c7 => ?_) (fun c7 => ?_)
  · skip
    refine lv_aload_n hE.1 hE.2.1 dX9_points_15 rfl (lv_at hl 0 rfl) ?_
    refine x_vv (nn := 0) (As := []) (rest := []) hE hK hN hP hS (s_X9_lays l D K ad v5 ar al hI (z3) (by omega) ez3 ) (x_recv hK hP 0 (by decide) (yG_9 rfl) rfl) rfl mw_1638 mw_1640 mw_69 mw_123 mw_1641 (by decide +kernel) ⟨by decide, by decide⟩ hl.1 rfl (Nat.le_of_ble_eq_true rfl) ⟨Nat.zero_le _, Nat.zero_le _⟩ dX9_points_16 (fun v8 ar8 al8 H locs hq8 hP hS => ?_)
    obtain ⟨hI, hq8, hqa8, hql8, x8_1, x8_2, x8_3, hx8, ex8_1, ex8_2, ex8_3⟩ := hq8
    have hI : YI v8 ar8 := hI
    refine lv_aload_n hE.1 hE.2.1 dX9_points_19 rfl (lv_at hl 0 rfl) ?_
    obtain ⟨z9, hz9, ez9⟩ := iI_of (v8 0 27)
    refine x_get (x := .int (v8 0 27)) hE hK hP 0 (by decide) (yG_9 rfl) rfl hin9 27 (by decide) mw_1361 rfl dX9_points_20 ?_
    refine x_top (y := iI (z9)) ez9 ?_
    exact kr _ v8 ar8 al8 _ _ _ _ rfl ⟨⟨z9, by omega, rfl⟩, hI, fun i j h => ((hq8 i j (fun q => h (mem_sub (by decide) q))).trans (up_oth hv5 (fun q => h (by rcases q with ⟨rfl, rfl⟩; decide)))), fun i h => (hqa8 i (fun q => h (mem_subn (by decide) q))), fun i h => (hql8 i (fun q => h (mem_subn (by decide) q)))⟩ hP hS dX9_points_23
  · skip
    refine lv_bipush (v := iI (-2)) hE.1 hE.2.1 dX9_points_12 (by decide) ?_
    exact kr _ v5 ar al _ _ _ _ rfl ⟨⟨-2, by omega, rfl⟩, hI, fun i j h => (up_oth hv5 (fun q => h (by rcases q with ⟨rfl, rfl⟩; decide))), fun i h => rfl, fun i h => rfl⟩ hP hS dX9_points_14

theorem dX9_isTeller_0 : decode cX9_isTeller 0 = .ok (.iload_n 1, 1) := by decide +kernel
theorem dX9_isTeller_1 : decode cX9_isTeller 1 = .ok (.i2l, 1) := by decide +kernel
theorem dX9_isTeller_2 : decode cX9_isTeller 2 = .ok (.lconst 0, 1) := by decide +kernel
theorem dX9_isTeller_3 : decode cX9_isTeller 3 = .ok (.aload_n 0, 1) := by decide +kernel
theorem dX9_isTeller_4 : decode cX9_isTeller 4 = .ok (.getfield 34, 3) := by decide +kernel
theorem dX9_isTeller_7 : decode cX9_isTeller 7 = .ok (.iconst 0, 1) := by decide +kernel
theorem dX9_isTeller_8 : decode cX9_isTeller 8 = .ok (.iaload, 1) := by decide +kernel
theorem dX9_isTeller_9 : decode cX9_isTeller 9 = .ok (.iconst 1, 1) := by decide +kernel
theorem dX9_isTeller_10 : decode cX9_isTeller 10 = .ok (.isub, 1) := by decide +kernel
theorem dX9_isTeller_11 : decode cX9_isTeller 11 = .ok (.i2l, 1) := by decide +kernel
theorem dX9_isTeller_12 : decode cX9_isTeller 12 = .ok (.invokestatic 86, 3) := by decide +kernel
theorem dX9_isTeller_15 : decode cX9_isTeller 15 = .ok (.ireturn, 1) := by decide +kernel
set_option maxHeartbeats 4000000 in
set_option maxRecDepth 100000 in
theorem s_X9_isTeller (l : Launch) (D : va_G) (K : Nat → ClassId) (ad : Nat → Nat) (v ar : sI) (al : sL) (hI : YI v ar) (w_1 : Int) (hw_1 : 0 ≤ w_1 ∧ w_1 ≤ 3) (ew_1 : ar 7 0 = iI w_1) (z_1 : Int) (hz_1 : -2147483648 ≤ z_1 ∧ z_1 ≤ 2147483647) : Met l yX9_isTeller (wM yX9_isTeller cX9_isTeller 2 (some .boolean)) (rmD 1) (va_Pc [.ref (ad 0), .int (iI (z_1))] (wPre D K ad (yG ad K) 21 v ar al)) (vp_Si (fun r => ∃ z : Int, ((z = 0 ∧ (z_1 < 0 ∨ w_1 ≤ z_1)) ∨ (z = 1 ∧ 0 ≤ z_1 ∧ z_1 < w_1)) ∧ r = iI z)) 0 0 (fun _ => False) := by
  refine s_metP (by decide) (Nat.le_of_ble_eq_true rfl) ?_
  intro p e s m below meth c ls args Q hE hB hl kr
  have hE : CallFix p m c cX9_isTeller 2 s args tbG "TaleCourtModel" := hE
  obtain ⟨hP, hK, hN⟩ := hB
  have hl : lv_has ls 2 [(0, .ref (ad 0)), (1, .int (iI (z_1)))] := hl
  refine lv_iload_n hE.1 hE.2.1 dX9_isTeller_0 rfl (lv_at hl 1 rfl) ?_
  refine lv_i2l (v := lI (z_1)) hE.1 hE.2.1 dX9_isTeller_1 (iI_i2l (by omega)) ?_
  refine lv_lconst (v := lI (0)) hE.1 hE.2.1 dX9_isTeller_2 (by decide) ?_
  refine lv_aload_n hE.1 hE.2.1 dX9_isTeller_3 rfl (lv_at hl 0 rfl) ?_
  refine x_get (x := .ref (ad 7)) hE hK hP 0 (by decide) (yG_9 rfl) rfl hin9 17 (by decide) mw_1351 rfl dX9_isTeller_4 ?_
  refine lv_iconst (v := iI (0)) hE.1 hE.2.1 dX9_isTeller_7 (by decide) ?_
  refine x_iald (j := iI (0)) hE hK hP 7 (by decide) (yG_10 rfl) (iI_in (n := 30) (by omega)) dX9_isTeller_8 ?_
  refine x_top (y := iI (w_1)) (by rw [show (iI (0)).toNatClampNeg = 0 from by decide]; exact ew_1) ?_
  refine lv_iconst (v := iI (1)) hE.1 hE.2.1 dX9_isTeller_9 (by decide) ?_
  refine lv_isub hE.1 hE.2.1 dX9_isTeller_10 ?_
  refine x_top (y := iI (w_1 - 1)) ((iI_sub (w_1) (1)).trans (congrArg iI (by omega))) ?_
  refine lv_i2l (v := lI (w_1 - 1)) hE.1 hE.2.1 dX9_isTeller_11 (iI_i2l (by omega)) ?_
  refine x_sp (nn := 3) (As := [.long (lI (z_1)), .long (lI (0)), .long (lI (w_1 - 1))]) (rest := []) hE (s_X9_in l (z_1) (by omega) (0) (by omega) (w_1 - 1) (by omega)) tt_blind (fun _ _ _ => trivial) rfl mw_1494 mw_1495 mw_123 mw_1496 (by decide +kernel) ⟨by decide, by decide⟩ hl.1 rfl (Nat.le_of_ble_eq_true rfl) ⟨Nat.zero_le _, Nat.zero_le _⟩ dX9_isTeller_12 (fun r2 hr2 => ?_)
  obtain ⟨z2, hz2, rfl⟩ := hr2
  exact kr _ _ _ (nar01 (by omega)) ⟨z2, by omega, rfl⟩ dX9_isTeller_15

theorem dX9_share_0 : decode cX9_share 0 = .ok (.aload_n 0, 1) := by decide +kernel
theorem dX9_share_1 : decode cX9_share 1 = .ok (.iconst 0, 1) := by decide +kernel
theorem dX9_share_2 : decode cX9_share 2 = .ok (.putfield 81, 3) := by decide +kernel
theorem dX9_share_5 : decode cX9_share 5 = .ok (.aload_n 0, 1) := by decide +kernel
theorem dX9_share_6 : decode cX9_share 6 = .ok (.iload_n 1, 1) := by decide +kernel
theorem dX9_share_7 : decode cX9_share 7 = .ok (.invokevirtual 313, 3) := by decide +kernel
theorem dX9_share_10 : decode cX9_share 10 = .ok (.ifCond .ne 6, 3) := by decide +kernel
theorem dX9_share_13 : decode cX9_share 13 = .ok (.bipush (-2), 2) := by decide +kernel
theorem dX9_share_15 : decode cX9_share 15 = .ok (.ireturn, 1) := by decide +kernel
theorem dX9_share_16 : decode cX9_share 16 = .ok (.iconst 0, 1) := by decide +kernel
theorem dX9_share_17 : decode cX9_share 17 = .ok (.istore_n 2, 1) := by decide +kernel
theorem dX9_share_18 : decode cX9_share 18 = .ok (.iload_n 1, 1) := by decide +kernel
theorem dX9_share_19 : decode cX9_share 19 = .ok (.istore_n 3, 1) := by decide +kernel
theorem dX9_share_20 : decode cX9_share 20 = .ok (.iload_n 3, 1) := by decide +kernel
theorem dX9_share_21 : decode cX9_share 21 = .ok (.aload_n 0, 1) := by decide +kernel
theorem dX9_share_22 : decode cX9_share 22 = .ok (.getfield 34, 3) := by decide +kernel
theorem dX9_share_25 : decode cX9_share 25 = .ok (.iconst 5, 1) := by decide +kernel
theorem dX9_share_26 : decode cX9_share 26 = .ok (.iaload, 1) := by decide +kernel
theorem dX9_share_27 : decode cX9_share 27 = .ok (.if_icmp .ge 43, 3) := by decide +kernel
theorem dX9_share_30 : decode cX9_share 30 = .ok (.iload_n 2, 1) := by decide +kernel
theorem dX9_share_31 : decode cX9_share 31 = .ok (.aload_n 0, 1) := by decide +kernel
theorem dX9_share_32 : decode cX9_share 32 = .ok (.getfield 43, 3) := by decide +kernel
theorem dX9_share_35 : decode cX9_share 35 = .ok (.iload_n 3, 1) := by decide +kernel
theorem dX9_share_36 : decode cX9_share 36 = .ok (.iaload, 1) := by decide +kernel
theorem dX9_share_37 : decode cX9_share 37 = .ok (.bipush 9, 2) := by decide +kernel
theorem dX9_share_39 : decode cX9_share 39 = .ok (.if_icmp .ne 7, 3) := by decide +kernel
theorem dX9_share_42 : decode cX9_share 42 = .ok (.iconst 0, 1) := by decide +kernel
theorem dX9_share_43 : decode cX9_share 43 = .ok (.goto 13, 3) := by decide +kernel
theorem dX9_share_46 : decode cX9_share 46 = .ok (.aload_n 0, 1) := by decide +kernel
theorem dX9_share_47 : decode cX9_share 47 = .ok (.aload_n 0, 1) := by decide +kernel
theorem dX9_share_48 : decode cX9_share 48 = .ok (.getfield 43, 3) := by decide +kernel
theorem dX9_share_51 : decode cX9_share 51 = .ok (.iload_n 3, 1) := by decide +kernel
theorem dX9_share_52 : decode cX9_share 52 = .ok (.iaload, 1) := by decide +kernel
theorem dX9_share_53 : decode cX9_share 53 = .ok (.invokevirtual 274, 3) := by decide +kernel
theorem dX9_share_56 : decode cX9_share 56 = .ok (.iadd, 1) := by decide +kernel
theorem dX9_share_57 : decode cX9_share 57 = .ok (.istore_n 2, 1) := by decide +kernel
theorem dX9_share_58 : decode cX9_share 58 = .ok (.iload_n 3, 1) := by decide +kernel
theorem dX9_share_59 : decode cX9_share 59 = .ok (.aload_n 0, 1) := by decide +kernel
theorem dX9_share_60 : decode cX9_share 60 = .ok (.getfield 34, 3) := by decide +kernel
theorem dX9_share_63 : decode cX9_share 63 = .ok (.iconst 0, 1) := by decide +kernel
theorem dX9_share_64 : decode cX9_share 64 = .ok (.iaload, 1) := by decide +kernel
theorem dX9_share_65 : decode cX9_share 65 = .ok (.iadd, 1) := by decide +kernel
theorem dX9_share_66 : decode cX9_share 66 = .ok (.istore_n 3, 1) := by decide +kernel
theorem dX9_share_67 : decode cX9_share 67 = .ok (.goto (-47), 3) := by decide +kernel
theorem dX9_share_70 : decode cX9_share 70 = .ok (.iload_n 2, 1) := by decide +kernel
theorem dX9_share_71 : decode cX9_share 71 = .ok (.ireturn, 1) := by decide +kernel
set_option maxHeartbeats 4000000 in
set_option maxRecDepth 100000 in
theorem s_X9_share (l : Launch) (D : va_G) (K : Nat → ClassId) (ad : Nat → Nat) (v ar : sI) (al : sL) (hI : YI v ar) (z_1 : Int) (hz_1 : -2147483648 ≤ z_1 ∧ z_1 ≤ 2147483647) : Met l yX9_share (wM yX9_share cX9_share 4 (some .int)) (rmD 2) (va_Pc [.ref (ad 0), .int (iI (z_1))] (wPre D K ad (yG ad K) 21 v ar al)) (va_Qi (fun (r : Int32) (u : sT) => (∃ z : Int, (-2147483648 ≤ z ∧ z ≤ 2147483647) ∧ r = iI z) ∧ YI u.1 u.2.1 ∧ (∀ i j : Nat, (i, j) ∉ ([(0, 0)] : List (Nat × Nat)) → u.1 i j = v i j) ∧ (∀ i : Nat, i ∉ ([] : List Nat) → u.2.1 i = ar i) ∧ (∀ i : Nat, i ∉ ([] : List Nat) → u.2.2 i = al i)) (wB D ad (yG ad K) 21) (inW ad 21)) 0 0 (inW ad 21) := by
  refine s_metI (by decide) (Nat.le_of_ble_eq_true rfl) ?_
  intro p e s m below meth c ls args Q hE hB hl kr
  have hE : CallFix p m c cX9_share 4 s args tbG "TaleCourtModel" := hE
  obtain ⟨hP, hK, hN⟩ := hB
  have hS : va_S (inW ad 21) s.heap s.heap [] := va_S.rf
  have hl : lv_has ls 4 [(0, .ref (ad 0)), (1, .int (iI (z_1)))] := hl
  obtain ⟨z1, hz1, ez1⟩ := iI_of (ar 6 0)
  obtain ⟨z2, hz2, ez2⟩ := YI_h2 hI 2 (by decide)
  obtain ⟨z3, hz3, ez3⟩ := YI_h5 hI 5 (by decide)
  obtain ⟨z4, hz4, ez4⟩ := YI_h0 hI 0 (by decide)
  have ht0 := YI_t0 hI ez1 (by omega) ez2 (by omega) ez3 (by omega) ez4 (by omega)
  refine lv_aload_n hE.1 hE.2.1 dX9_share_0 rfl (lv_at hl 0 rfl) ?_
  refine lv_iconst (v := iI (0)) hE.1 hE.2.1 dX9_share_1 (by decide) ?_
  refine x_put (x := iI (0)) hE hK hN hP hS 0 (by decide) (yG_9 rfl) rfl hin9 tyX9 tyX9_ok nmX9 0 (by decide) mw_1334 rfl rfl rfl (Nat.le_of_ble_eq_true rfl) (yG_9 rfl) dX9_share_2 (fun v5 H locs hv5 hP hS => ?_)
  have hI := YI_putN hI hv5 (by decide)
  refine lv_aload_n hE.1 hE.2.1 dX9_share_5 rfl (lv_at hl 0 rfl) ?_
  refine lv_iload_n hE.1 hE.2.1 dX9_share_6 rfl (lv_at hl 1 rfl) ?_
  refine x_vp (nn := 1) (As := [.int (iI (z_1))]) (rest := []) hE (s_X9_isTeller l D K ad v5 ar al hI (z4) (by omega) ez4 (z_1) (by omega)) wPre_blind (wPre_now hK hN hP) (x_recv hK hP 0 (by decide) (yG_9 rfl) rfl) rfl mw_1786 mw_1788 mw_84 mw_123 mw_1789 (by decide +kernel) ⟨by decide, by decide⟩ hl.1 rfl (Nat.le_of_ble_eq_true rfl) ⟨Nat.zero_le _, Nat.zero_le _⟩ dX9_share_7 (fun r6 hr6 => ?_)
  obtain ⟨z6, hz6, rfl⟩ := hr6
  refine s_if_ne (a := z6) (tgt := 16) hE.1 hE.2.1 (by omega) dX9_share_10 (by decide) (fun c7 => ?_) (fun c7 => ?_)
  · skip
    refine lv_iconst (v := iI (0)) hE.1 hE.2.1 dX9_share_16 (by decide) ?_
    refine lv_istore_n (lv' := [(2, .int (iI (0))), (0, .ref (ad 0)), (1, .int (iI (z_1)))]) hE.1 hE.2.1 dX9_share_17 rfl hl (by decide) rfl (fun ls hl => ?_)
    refine lv_iload_n hE.1 hE.2.1 dX9_share_18 rfl (lv_at hl 2 rfl) ?_
    refine lv_istore_n (lv' := [(3, .int (iI (z_1))), (2, .int (iI (0))), (0, .ref (ad 0)), (1, .int (iI (z_1)))]) hE.1 hE.2.1 dX9_share_19 rfl hl (by decide) rfl (fun ls hl => ?_)
    have loop8 : ∀ (k8 : Nat) (y8_3 : Int) (y8_2 : Int) (vl8 : sI) (all8 : sL) (H : Heap) (locs : List Loc) (ls : Array Slot), (18 - y8_3).toNat = k8 → (0 ≤ y8_3 ∧ y8_3 ≤ 20) → (-2147483648 ≤ y8_2 ∧ y8_2 ≤ 2147483647) → YI vl8 ar → (∀ i j : Nat, (i, j) ∉ ([] : List (Nat × Nat)) → vl8 i j = v5 i j) → (∀ i : Nat, i ∉ ([] : List Nat) → all8 i = al i) → va_P D xcl (wW ad (yG ad K) 21 vl8 ar all8) H → va_S (inW ad 21) s.heap H locs → lv_has ls 4 [(3, .int (iI (y8_3))), (2, .int (iI (y8_2))), (0, .ref (ad 0)), (1, .int (iI (z_1)))] → W p l e (rmD 2) s m args below meth c H locs 0 0 Q (F0 m 20 ls []) := by
      intro k8
      induction k8 using Nat.strongRecOn with
      | _ k8 ih8 =>
        intro y8_3 y8_2  vl8 all8 H locs ls hk8 hb_y8_3 hb_y8_2 hI hfr8 hfl8 hP hS hl
        refine lv_iload_n hE.1 hE.2.1 dX9_share_20 rfl (lv_at hl 0 rfl) ?_
        refine lv_aload_n hE.1 hE.2.1 dX9_share_21 rfl (lv_at hl 2 rfl) ?_
        refine x_get (x := .ref (ad 7)) hE hK hP 0 (by decide) (yG_9 rfl) rfl hin9 17 (by decide) mw_1351 rfl dX9_share_22 ?_
        refine lv_iconst (v := iI (5)) hE.1 hE.2.1 dX9_share_25 (by decide) ?_
        refine x_iald (j := iI (5)) hE hK hP 7 (by decide) (yG_10 rfl) (iI_in (n := 30) (by omega)) dX9_share_26 ?_
        refine x_top (y := iI (z3)) (by rw [show (iI (5)).toNatClampNeg = 5 from by decide]; exact ez3) ?_
        refine s_icmp_ge (a := y8_3) (b := z3) (tgt := 70) hE.1 hE.2.1 (by omega) (by omega) dX9_share_27 (by decide) (fun c10 => ?_) (fun c10 => ?_)
        · skip
          refine lv_iload_n hE.1 hE.2.1 dX9_share_70 rfl (lv_at hl 1 rfl) ?_
          exact kr _ vl8 ar all8 _ _ _ _ rfl ⟨⟨y8_2, by omega, rfl⟩, hI, fun i j h => ((hfr8 i j (fun q => h (mem_sub (by decide) q))).trans (up_oth hv5 (fun q => h (by rcases q with ⟨rfl, rfl⟩; decide)))), fun i h => rfl, fun i h => (hfl8 i (fun q => h (mem_subn (by decide) q)))⟩ hP hS dX9_share_71
        · skip
          refine lv_iload_n hE.1 hE.2.1 dX9_share_30 rfl (lv_at hl 1 rfl) ?_
          refine lv_aload_n hE.1 hE.2.1 dX9_share_31 rfl (lv_at hl 2 rfl) ?_
          refine x_get (x := .ref (ad 10)) hE hK hP 0 (by decide) (yG_9 rfl) rfl hin9 20 (by decide) mw_1354 rfl dX9_share_32 ?_
          refine lv_iload_n hE.1 hE.2.1 dX9_share_35 rfl (lv_at hl 0 rfl) ?_
          refine x_iald (j := iI (y8_3)) hE hK hP 10 (by decide) (yG_10 rfl) (iI_in (n := 90) (by omega)) dX9_share_36 ?_
          obtain ⟨z12, hz12, ez12⟩ := YI_a10 hI ((iI (y8_3)).toNatClampNeg)
          refine x_top ez12 ?_
          refine lv_bipush (v := iI (9)) hE.1 hE.2.1 dX9_share_37 (by decide) ?_
          refine s_icmp_ne (a := z12) (b := 9) (tgt := 46) hE.1 hE.2.1 (by omega) (by omega) dX9_share_39 (by decide) (fun c13 => ?_) (fun c13 => ?_)
          · skip
            refine lv_aload_n hE.1 hE.2.1 dX9_share_46 rfl (lv_at hl 2 rfl) ?_
            refine lv_aload_n hE.1 hE.2.1 dX9_share_47 rfl (lv_at hl 2 rfl) ?_
            refine x_get (x := .ref (ad 10)) hE hK hP 0 (by decide) (yG_9 rfl) rfl hin9 20 (by decide) mw_1354 rfl dX9_share_48 ?_
            refine lv_iload_n hE.1 hE.2.1 dX9_share_51 rfl (lv_at hl 0 rfl) ?_
            refine x_iald (j := iI (y8_3)) hE hK hP 10 (by decide) (yG_10 rfl) (iI_in (n := 90) (by omega)) dX9_share_52 ?_
            refine x_top ez12 ?_
            refine x_vp (nn := 1) (As := [.int (iI (z12))]) (rest := [.int (iI (y8_2))]) hE (s_X9_pointsOf l D K ad vl8 ar all8 hI  (z12) (by omega)) wPre_blind (wPre_now hK hN hP) (x_recv hK hP 0 (by decide) (yG_9 rfl) rfl) rfl mw_1650 mw_1652 mw_72 mw_123 mw_1653 (by decide +kernel) ⟨by decide, by decide⟩ hl.1 rfl (Nat.le_of_ble_eq_true rfl) ⟨Nat.zero_le _, Nat.zero_le _⟩ dX9_share_53 (fun r15 hr15 => ?_)
            obtain ⟨z15, hz15, rfl⟩ := hr15
            refine lv_iadd hE.1 hE.2.1 dX9_share_56 ?_
            obtain ⟨z16, hz16, ez16⟩ := iI_of (iI (y8_2) + iI (z15))
            refine x_top ez16 ?_
            refine lv_istore_n (lv' := [(2, .int (iI (z16))), (3, .int (iI (y8_3))), (0, .ref (ad 0)), (1, .int (iI (z_1)))]) hE.1 hE.2.1 dX9_share_57 rfl hl (by decide) rfl (fun ls hl => ?_)
            refine lv_iload_n hE.1 hE.2.1 dX9_share_58 rfl (lv_at hl 1 rfl) ?_
            refine lv_aload_n hE.1 hE.2.1 dX9_share_59 rfl (lv_at hl 2 rfl) ?_
            refine x_get (x := .ref (ad 7)) hE hK hP 0 (by decide) (yG_9 rfl) rfl hin9 17 (by decide) mw_1351 rfl dX9_share_60 ?_
            refine lv_iconst (v := iI (0)) hE.1 hE.2.1 dX9_share_63 (by decide) ?_
            refine x_iald (j := iI (0)) hE hK hP 7 (by decide) (yG_10 rfl) (iI_in (n := 30) (by omega)) dX9_share_64 ?_
            refine x_top (y := iI (z4)) (by rw [show (iI (0)).toNatClampNeg = 0 from by decide]; exact ez4) ?_
            refine lv_iadd hE.1 hE.2.1 dX9_share_65 ?_
            refine x_top (y := iI (y8_3 + z4)) ((iI_add (y8_3) (z4)).trans (congrArg iI (by omega))) ?_
            refine lv_istore_n (lv' := [(3, .int (iI (y8_3 + z4))), (2, .int (iI (z16))), (0, .ref (ad 0)), (1, .int (iI (z_1)))]) hE.1 hE.2.1 dX9_share_66 rfl hl (by decide) rfl (fun ls hl => ?_)
            refine lv_goto (tgt := 20) hE.1 hE.2.1 dX9_share_67 (by decide) ?_
            exact ih8 _ (by omega) (y8_3 + z4) (z16)  vl8  all8 _ _ _ rfl (by omega) (by omega)  hI (fun i j h => (hfr8 i j h)) (fun i h => (hfl8 i h)) hP hS (lv_sub hl [0, 1, 2, 3] rfl)
          · skip
            refine lv_iconst (v := iI (0)) hE.1 hE.2.1 dX9_share_42 (by decide) ?_
            refine lv_goto (tgt := 56) hE.1 hE.2.1 dX9_share_43 (by decide) ?_
            refine lv_iadd hE.1 hE.2.1 dX9_share_56 ?_
            refine x_top (y := iI (y8_2)) ((iI_add (y8_2) (0)).trans (congrArg iI (by omega))) ?_
            refine lv_istore_n (lv' := [(2, .int (iI (y8_2))), (3, .int (iI (y8_3))), (0, .ref (ad 0)), (1, .int (iI (z_1)))]) hE.1 hE.2.1 dX9_share_57 rfl hl (by decide) rfl (fun ls hl => ?_)
            refine lv_iload_n hE.1 hE.2.1 dX9_share_58 rfl (lv_at hl 1 rfl) ?_
            refine lv_aload_n hE.1 hE.2.1 dX9_share_59 rfl (lv_at hl 2 rfl) ?_
            refine x_get (x := .ref (ad 7)) hE hK hP 0 (by decide) (yG_9 rfl) rfl hin9 17 (by decide) mw_1351 rfl dX9_share_60 ?_
            refine lv_iconst (v := iI (0)) hE.1 hE.2.1 dX9_share_63 (by decide) ?_
            refine x_iald (j := iI (0)) hE hK hP 7 (by decide) (yG_10 rfl) (iI_in (n := 30) (by omega)) dX9_share_64 ?_
            refine x_top (y := iI (z4)) (by rw [show (iI (0)).toNatClampNeg = 0 from by decide]; exact ez4) ?_
            refine lv_iadd hE.1 hE.2.1 dX9_share_65 ?_
            refine x_top (y := iI (y8_3 + z4)) ((iI_add (y8_3) (z4)).trans (congrArg iI (by omega))) ?_
            refine lv_istore_n (lv' := [(3, .int (iI (y8_3 + z4))), (2, .int (iI (y8_2))), (0, .ref (ad 0)), (1, .int (iI (z_1)))]) hE.1 hE.2.1 dX9_share_66 rfl hl (by decide) rfl (fun ls hl => ?_)
            refine lv_goto (tgt := 20) hE.1 hE.2.1 dX9_share_67 (by decide) ?_
            exact ih8 _ (by omega) (y8_3 + z4) (y8_2)  vl8  all8 _ _ _ rfl (by omega) (by omega)  hI (fun i j h => (hfr8 i j h)) (fun i h => (hfl8 i h)) hP hS (lv_sub hl [0, 1, 2, 3] rfl)
    exact loop8 _ (z_1) (0)  v5  al _ _ _ rfl (by omega) (by omega)  hI (fun _ _ _ => rfl) (fun _ _ => rfl) hP hS hl
  · skip
    refine lv_bipush (v := iI (-2)) hE.1 hE.2.1 dX9_share_13 (by decide) ?_
    exact kr _ v5 ar al _ _ _ _ rfl ⟨⟨-2, by omega, rfl⟩, hI, fun i j h => (up_oth hv5 (fun q => h (by rcases q with ⟨rfl, rfl⟩; decide))), fun i h => rfl, fun i h => rfl⟩ hP hS dX9_share_15

theorem dX9_left_0 : decode cX9_left 0 = .ok (.aload_n 0, 1) := by decide +kernel
theorem dX9_left_1 : decode cX9_left 1 = .ok (.iconst 0, 1) := by decide +kernel
theorem dX9_left_2 : decode cX9_left 2 = .ok (.putfield 81, 3) := by decide +kernel
theorem dX9_left_5 : decode cX9_left 5 = .ok (.aload_n 0, 1) := by decide +kernel
theorem dX9_left_6 : decode cX9_left 6 = .ok (.iload_n 1, 1) := by decide +kernel
theorem dX9_left_7 : decode cX9_left 7 = .ok (.invokevirtual 313, 3) := by decide +kernel
theorem dX9_left_10 : decode cX9_left 10 = .ok (.ifCond .ne 6, 3) := by decide +kernel
theorem dX9_left_13 : decode cX9_left 13 = .ok (.bipush (-2), 2) := by decide +kernel
theorem dX9_left_15 : decode cX9_left 15 = .ok (.ireturn, 1) := by decide +kernel
theorem dX9_left_16 : decode cX9_left 16 = .ok (.aload_n 0, 1) := by decide +kernel
theorem dX9_left_17 : decode cX9_left 17 = .ok (.invokevirtual 246, 3) := by decide +kernel
theorem dX9_left_20 : decode cX9_left 20 = .ok (.aload_n 0, 1) := by decide +kernel
theorem dX9_left_21 : decode cX9_left 21 = .ok (.getfield 34, 3) := by decide +kernel
theorem dX9_left_24 : decode cX9_left 24 = .ok (.iconst 1, 1) := by decide +kernel
theorem dX9_left_25 : decode cX9_left 25 = .ok (.iaload, 1) := by decide +kernel
theorem dX9_left_26 : decode cX9_left 26 = .ok (.aload_n 0, 1) := by decide +kernel
theorem dX9_left_27 : decode cX9_left 27 = .ok (.getfield 56, 3) := by decide +kernel
theorem dX9_left_30 : decode cX9_left 30 = .ok (.iload_n 1, 1) := by decide +kernel
theorem dX9_left_31 : decode cX9_left 31 = .ok (.iaload, 1) := by decide +kernel
theorem dX9_left_32 : decode cX9_left 32 = .ok (.isub, 1) := by decide +kernel
theorem dX9_left_33 : decode cX9_left 33 = .ok (.ireturn, 1) := by decide +kernel
set_option maxHeartbeats 4000000 in
set_option maxRecDepth 100000 in
theorem s_X9_left (l : Launch) (D : va_G) (K : Nat → ClassId) (ad : Nat → Nat) (v ar : sI) (al : sL) (hI : YI v ar) (z_1 : Int) (hz_1 : -2147483648 ≤ z_1 ∧ z_1 ≤ 2147483647) : Met l yX9_left (wM yX9_left cX9_left 2 (some .int)) (rmD 4) (va_Pc [.ref (ad 0), .int (iI (z_1))] (wPre D K ad (yG ad K) 21 v ar al)) (va_Qi (fun (r : Int32) (u : sT) => (∃ z : Int, (-2147483648 ≤ z ∧ z ≤ 2147483647) ∧ r = iI z) ∧ YI u.1 u.2.1 ∧ (∀ i j : Nat, (i, j) ∉ ([(0, 0), (0, 24), (0, 25), (0, 26), (0, 27)] : List (Nat × Nat)) → u.1 i j = v i j) ∧ (∀ i : Nat, i ∉ ([12, 13, 14] : List Nat) → u.2.1 i = ar i) ∧ (∀ i : Nat, i ∉ ([] : List Nat) → u.2.2 i = al i)) (wB D ad (yG ad K) 21) (inW ad 21)) 0 0 (inW ad 21) := by
  refine s_metI (by decide) (Nat.le_of_ble_eq_true rfl) ?_
  intro p e s m below meth c ls args Q hE hB hl kr
  have hE : CallFix p m c cX9_left 2 s args tbG "TaleCourtModel" := hE
  obtain ⟨hP, hK, hN⟩ := hB
  have hS : va_S (inW ad 21) s.heap s.heap [] := va_S.rf
  have hl : lv_has ls 2 [(0, .ref (ad 0)), (1, .int (iI (z_1)))] := hl
  obtain ⟨z1, hz1, ez1⟩ := iI_of (ar 6 0)
  obtain ⟨z2, hz2, ez2⟩ := YI_h2 hI 2 (by decide)
  obtain ⟨z3, hz3, ez3⟩ := YI_h5 hI 5 (by decide)
  obtain ⟨z4, hz4, ez4⟩ := YI_h0 hI 0 (by decide)
  have ht0 := YI_t0 hI ez1 (by omega) ez2 (by omega) ez3 (by omega) ez4 (by omega)
  refine lv_aload_n hE.1 hE.2.1 dX9_left_0 rfl (lv_at hl 0 rfl) ?_
  refine lv_iconst (v := iI (0)) hE.1 hE.2.1 dX9_left_1 (by decide) ?_
  refine x_put (x := iI (0)) hE hK hN hP hS 0 (by decide) (yG_9 rfl) rfl hin9 tyX9 tyX9_ok nmX9 0 (by decide) mw_1334 rfl rfl rfl (Nat.le_of_ble_eq_true rfl) (yG_9 rfl) dX9_left_2 (fun v5 H locs hv5 hP hS => ?_)
  have hI := YI_putN hI hv5 (by decide)
  refine lv_aload_n hE.1 hE.2.1 dX9_left_5 rfl (lv_at hl 0 rfl) ?_
  refine lv_iload_n hE.1 hE.2.1 dX9_left_6 rfl (lv_at hl 1 rfl) ?_
  refine x_vp (nn := 1) (As := [.int (iI (z_1))]) (rest := []) hE (s_X9_isTeller l D K ad v5 ar al hI (z4) (by omega) ez4 (z_1) (by omega)) wPre_blind (wPre_now hK hN hP) (x_recv hK hP 0 (by decide) (yG_9 rfl) rfl) rfl mw_1786 mw_1788 mw_84 mw_123 mw_1789 (by decide +kernel) ⟨by decide, by decide⟩ hl.1 rfl (Nat.le_of_ble_eq_true rfl) ⟨Nat.zero_le _, Nat.zero_le _⟩ dX9_left_7 (fun r6 hr6 => ?_)
  obtain ⟨z6, hz6, rfl⟩ := hr6
  refine s_if_ne (a := z6) (tgt := 16) hE.1 hE.2.1 (by omega) dX9_left_10 (by decide) (fun c7 => ?_) (fun c7 => ?_)
  · skip
    refine lv_aload_n hE.1 hE.2.1 dX9_left_16 rfl (lv_at hl 0 rfl) ?_
    refine x_vv (nn := 0) (As := []) (rest := []) hE hK hN hP hS (s_X9_lays l D K ad v5 ar al hI (z3) (by omega) ez3 ) (x_recv hK hP 0 (by decide) (yG_9 rfl) rfl) rfl mw_1638 mw_1640 mw_69 mw_123 mw_1641 (by decide +kernel) ⟨by decide, by decide⟩ hl.1 rfl (Nat.le_of_ble_eq_true rfl) ⟨Nat.zero_le _, Nat.zero_le _⟩ dX9_left_17 (fun v8 ar8 al8 H locs hq8 hP hS => ?_)
    obtain ⟨hI, hq8, hqa8, hql8, x8_1, x8_2, x8_3, hx8, ex8_1, ex8_2, ex8_3⟩ := hq8
    have hI : YI v8 ar8 := hI
    refine lv_aload_n hE.1 hE.2.1 dX9_left_20 rfl (lv_at hl 0 rfl) ?_
    refine x_get (x := .ref (ad 7)) hE hK hP 0 (by decide) (yG_9 rfl) rfl hin9 17 (by decide) mw_1351 rfl dX9_left_21 ?_
    refine lv_iconst (v := iI (1)) hE.1 hE.2.1 dX9_left_24 (by decide) ?_
    refine x_iald (j := iI (1)) hE hK hP 7 (by decide) (yG_10 rfl) (iI_in (n := 30) (by omega)) dX9_left_25 ?_
    obtain ⟨z10, hz10, ez10⟩ := YI_h1 hI 1 (by decide)
    refine x_top (y := iI (z10)) (by rw [show (iI (1)).toNatClampNeg = 1 from by decide]; exact ez10) ?_
    refine lv_aload_n hE.1 hE.2.1 dX9_left_26 rfl (lv_at hl 0 rfl) ?_
    refine x_get (x := .ref (ad 14)) hE hK hP 0 (by decide) (yG_9 rfl) rfl hin9 28 (by decide) mw_1362 rfl dX9_left_27 ?_
    refine lv_iload_n hE.1 hE.2.1 dX9_left_30 rfl (lv_at hl 1 rfl) ?_
    refine x_iald (j := iI (z_1)) hE hK hP 14 (by decide) (yG_10 rfl) (iI_in (n := 3) (by omega)) dX9_left_31 ?_
    obtain ⟨z12, hz12, ez12⟩ := iI_of (ar8 14 (iI (z_1)).toNatClampNeg)
    refine x_top ez12 ?_
    refine lv_isub hE.1 hE.2.1 dX9_left_32 ?_
    obtain ⟨z13, hz13, ez13⟩ := iI_of (iI (z10) - iI (z12))
    refine x_top ez13 ?_
    exact kr _ v8 ar8 al8 _ _ _ _ rfl ⟨⟨z13, by omega, rfl⟩, hI, fun i j h => ((hq8 i j (fun q => h (mem_sub (by decide) q))).trans (up_oth hv5 (fun q => h (by rcases q with ⟨rfl, rfl⟩; decide)))), fun i h => (hqa8 i (fun q => h (mem_subn (by decide) q))), fun i h => (hql8 i (fun q => h (mem_subn (by decide) q)))⟩ hP hS dX9_left_33
  · skip
    refine lv_bipush (v := iI (-2)) hE.1 hE.2.1 dX9_left_13 (by decide) ?_
    exact kr _ v5 ar al _ _ _ _ rfl ⟨⟨-2, by omega, rfl⟩, hI, fun i j h => (up_oth hv5 (fun q => h (by rcases q with ⟨rfl, rfl⟩; decide))), fun i h => rfl, fun i h => rfl⟩ hP hS dX9_left_15

theorem dX9_keeps_0 : decode cX9_keeps 0 = .ok (.aload_n 0, 1) := by decide +kernel
theorem dX9_keeps_1 : decode cX9_keeps 1 = .ok (.iconst 0, 1) := by decide +kernel
theorem dX9_keeps_2 : decode cX9_keeps 2 = .ok (.putfield 81, 3) := by decide +kernel
theorem dX9_keeps_5 : decode cX9_keeps 5 = .ok (.aload_n 0, 1) := by decide +kernel
theorem dX9_keeps_6 : decode cX9_keeps 6 = .ok (.iload_n 1, 1) := by decide +kernel
theorem dX9_keeps_7 : decode cX9_keeps 7 = .ok (.i2l, 1) := by decide +kernel
theorem dX9_keeps_8 : decode cX9_keeps 8 = .ok (.invokevirtual 253, 3) := by decide +kernel
theorem dX9_keeps_11 : decode cX9_keeps 11 = .ok (.ifCond .eq 16, 3) := by decide +kernel
theorem dX9_keeps_14 : decode cX9_keeps 14 = .ok (.iload_n 2, 1) := by decide +kernel
theorem dX9_keeps_15 : decode cX9_keeps 15 = .ok (.iconst (-1), 1) := by decide +kernel
theorem dX9_keeps_16 : decode cX9_keeps 16 = .ok (.if_icmp .eq 14, 3) := by decide +kernel
theorem dX9_keeps_19 : decode cX9_keeps 19 = .ok (.aload_n 0, 1) := by decide +kernel
theorem dX9_keeps_20 : decode cX9_keeps 20 = .ok (.iload_n 2, 1) := by decide +kernel
theorem dX9_keeps_21 : decode cX9_keeps 21 = .ok (.invokevirtual 313, 3) := by decide +kernel
theorem dX9_keeps_24 : decode cX9_keeps 24 = .ok (.ifCond .ne 6, 3) := by decide +kernel
theorem dX9_keeps_27 : decode cX9_keeps 27 = .ok (.bipush (-2), 2) := by decide +kernel
theorem dX9_keeps_29 : decode cX9_keeps 29 = .ok (.ireturn, 1) := by decide +kernel
theorem dX9_keeps_30 : decode cX9_keeps 30 = .ok (.aload_n 0, 1) := by decide +kernel
theorem dX9_keeps_31 : decode cX9_keeps 31 = .ok (.iload_n 1, 1) := by decide +kernel
theorem dX9_keeps_32 : decode cX9_keeps 32 = .ok (.bipush 6, 2) := by decide +kernel
theorem dX9_keeps_34 : decode cX9_keeps 34 = .ok (.invokevirtual 258, 3) := by decide +kernel
theorem dX9_keeps_37 : decode cX9_keeps 37 = .ok (.istore_n 3, 1) := by decide +kernel
theorem dX9_keeps_38 : decode cX9_keeps 38 = .ok (.aload_n 0, 1) := by decide +kernel
theorem dX9_keeps_39 : decode cX9_keeps 39 = .ok (.getfield 37, 3) := by decide +kernel
theorem dX9_keeps_42 : decode cX9_keeps 42 = .ok (.bipush 9, 2) := by decide +kernel
theorem dX9_keeps_44 : decode cX9_keeps 44 = .ok (.iload_n 1, 1) := by decide +kernel
theorem dX9_keeps_45 : decode cX9_keeps 45 = .ok (.imul, 1) := by decide +kernel
theorem dX9_keeps_46 : decode cX9_keeps 46 = .ok (.bipush 6, 2) := by decide +kernel
theorem dX9_keeps_48 : decode cX9_keeps 48 = .ok (.iadd, 1) := by decide +kernel
theorem dX9_keeps_49 : decode cX9_keeps 49 = .ok (.iload_n 2, 1) := by decide +kernel
theorem dX9_keeps_50 : decode cX9_keeps 50 = .ok (.iastore, 1) := by decide +kernel
theorem dX9_keeps_51 : decode cX9_keeps 51 = .ok (.iload_n 3, 1) := by decide +kernel
theorem dX9_keeps_52 : decode cX9_keeps 52 = .ok (.ireturn, 1) := by decide +kernel
set_option maxHeartbeats 4000000 in
set_option maxRecDepth 100000 in
theorem s_X9_keeps (l : Launch) (D : va_G) (K : Nat → ClassId) (ad : Nat → Nat) (v ar : sI) (al : sL) (hI : YI v ar) (z_1 : Int) (hz_1 : -2147483648 ≤ z_1 ∧ z_1 ≤ 2147483647) (z_2 : Int) (hz_2 : -2147483648 ≤ z_2 ∧ z_2 ≤ 2147483647) : Met l yX9_keeps (wM yX9_keeps cX9_keeps 4 (some .int)) (rmD 2) (va_Pc [.ref (ad 0), .int (iI (z_1)), .int (iI (z_2))] (wPre D K ad (yG ad K) 21 v ar al)) (va_Qi (fun (r : Int32) (u : sT) => (∃ z : Int, (-2147483648 ≤ z ∧ z ≤ 2147483647) ∧ r = iI z) ∧ YI u.1 u.2.1 ∧ (∀ i j : Nat, (i, j) ∉ ([(0, 0)] : List (Nat × Nat)) → u.1 i j = v i j) ∧ (∀ i : Nat, i ∉ ([8] : List Nat) → u.2.1 i = ar i) ∧ (∀ i : Nat, i ∉ ([] : List Nat) → u.2.2 i = al i)) (wB D ad (yG ad K) 21) (inW ad 21)) 0 0 (inW ad 21) := by
  refine s_metI (by decide) (Nat.le_of_ble_eq_true rfl) ?_
  intro p e s m below meth c ls args Q hE hB hl kr
  have hE : CallFix p m c cX9_keeps 4 s args tbG "TaleCourtModel" := hE
  obtain ⟨hP, hK, hN⟩ := hB
  have hS : va_S (inW ad 21) s.heap s.heap [] := va_S.rf
  have hl : lv_has ls 4 [(0, .ref (ad 0)), (1, .int (iI (z_1))), (2, .int (iI (z_2)))] := hl
  obtain ⟨z1, hz1, ez1⟩ := iI_of (ar 6 0)
  obtain ⟨z2, hz2, ez2⟩ := YI_h2 hI 2 (by decide)
  obtain ⟨z3, hz3, ez3⟩ := YI_h5 hI 5 (by decide)
  obtain ⟨z4, hz4, ez4⟩ := YI_h0 hI 0 (by decide)
  have ht0 := YI_t0 hI ez1 (by omega) ez2 (by omega) ez3 (by omega) ez4 (by omega)
  refine lv_aload_n hE.1 hE.2.1 dX9_keeps_0 rfl (lv_at hl 0 rfl) ?_
  refine lv_iconst (v := iI (0)) hE.1 hE.2.1 dX9_keeps_1 (by decide) ?_
  refine x_put (x := iI (0)) hE hK hN hP hS 0 (by decide) (yG_9 rfl) rfl hin9 tyX9 tyX9_ok nmX9 0 (by decide) mw_1334 rfl rfl rfl (Nat.le_of_ble_eq_true rfl) (yG_9 rfl) dX9_keeps_2 (fun v5 H locs hv5 hP hS => ?_)
  have hI := YI_putN hI hv5 (by decide)
  refine lv_aload_n hE.1 hE.2.1 dX9_keeps_5 rfl (lv_at hl 0 rfl) ?_
  refine lv_iload_n hE.1 hE.2.1 dX9_keeps_6 rfl (lv_at hl 1 rfl) ?_
  refine lv_i2l (v := lI (z_1)) hE.1 hE.2.1 dX9_keeps_7 (iI_i2l (by omega)) ?_
  refine x_vp (nn := 1) (As := [.long (lI (z_1))]) (rest := []) hE (s_X9_isMotif l D K ad v5 ar al hI (z2) (by omega) ez2 (z_1) (by omega)) wPre_blind (wPre_now hK hN hP) (x_recv hK hP 0 (by decide) (yG_9 rfl) rfl) rfl mw_1662 mw_1664 mw_74 mw_123 mw_1665 (by decide +kernel) ⟨by decide, by decide⟩ hl.1 rfl (Nat.le_of_ble_eq_true rfl) ⟨Nat.zero_le _, Nat.zero_le _⟩ dX9_keeps_8 (fun r6 hr6 => ?_)
  obtain ⟨z6, hz6, rfl⟩ := hr6
  refine s_if_eq (a := z6) (tgt := 27) hE.1 hE.2.1 (by omega) dX9_keeps_11 (by decide) (fun c7 => ?_) (fun c7 => ?_)
  · skip
    refine lv_bipush (v := iI (-2)) hE.1 hE.2.1 dX9_keeps_27 (by decide) ?_
    exact kr _ v5 ar al _ _ _ _ rfl ⟨⟨-2, by omega, rfl⟩, hI, fun i j h => (up_oth hv5 (fun q => h (by rcases q with ⟨rfl, rfl⟩; decide))), fun i h => rfl, fun i h => rfl⟩ hP hS dX9_keeps_29
  · skip
    refine lv_iload_n hE.1 hE.2.1 dX9_keeps_14 rfl (lv_at hl 2 rfl) ?_
    refine lv_iconst (v := iI (-1)) hE.1 hE.2.1 dX9_keeps_15 (by decide) ?_
    refine s_icmp_eq (a := z_2) (b := -1) (tgt := 30) hE.1 hE.2.1 (by omega) (by omega) dX9_keeps_16 (by decide) (fun c8 => ?_) (fun c8 => ?_)
    · skip
      refine lv_aload_n hE.1 hE.2.1 dX9_keeps_30 rfl (lv_at hl 0 rfl) ?_
      refine lv_iload_n hE.1 hE.2.1 dX9_keeps_31 rfl (lv_at hl 1 rfl) ?_
      refine lv_bipush (v := iI (6)) hE.1 hE.2.1 dX9_keeps_32 (by decide) ?_
      refine x_vp (nn := 2) (As := [.int (iI (z_1)), .int (iI (6))]) (rest := []) hE (s_X9_of l D K ad v5 ar al hI  (z_1) (by omega) (6) (by omega)) wPre_blind (wPre_now hK hN hP) (x_recv hK hP 0 (by decide) (yG_9 rfl) rfl) rfl mw_1654 mw_1656 mw_73 mw_123 mw_1657 (by decide +kernel) ⟨by decide, by decide⟩ hl.1 rfl (Nat.le_of_ble_eq_true rfl) ⟨Nat.zero_le _, Nat.zero_le _⟩ dX9_keeps_34 (fun r9 hr9 => ?_)
      obtain ⟨z9, hz9, rfl⟩ := hr9
      refine lv_istore_n (lv' := [(3, .int (iI (z9))), (0, .ref (ad 0)), (1, .int (iI (z_1))), (2, .int (iI (z_2)))]) hE.1 hE.2.1 dX9_keeps_37 rfl hl (by decide) rfl (fun ls hl => ?_)
      refine lv_aload_n hE.1 hE.2.1 dX9_keeps_38 rfl (lv_at hl 1 rfl) ?_
      refine x_get (x := .ref (ad 8)) hE hK hP 0 (by decide) (yG_9 rfl) rfl hin9 18 (by decide) mw_1352 rfl dX9_keeps_39 ?_
      refine lv_bipush (v := iI (9)) hE.1 hE.2.1 dX9_keeps_42 (by decide) ?_
      refine lv_iload_n hE.1 hE.2.1 dX9_keeps_44 rfl (lv_at hl 2 rfl) ?_
      refine lv_imul hE.1 hE.2.1 dX9_keeps_45 ?_
      refine x_top (y := iI (9 * z_1)) ((iI_mul (9) (z_1)).trans (congrArg iI (by omega))) ?_
      refine lv_bipush (v := iI (6)) hE.1 hE.2.1 dX9_keeps_46 (by decide) ?_
      refine lv_iadd hE.1 hE.2.1 dX9_keeps_48 ?_
      refine x_top (y := iI (9 * z_1 + 6)) ((iI_add (9 * z_1) (6)).trans (congrArg iI (by omega))) ?_
      refine lv_iload_n hE.1 hE.2.1 dX9_keeps_49 rfl (lv_at hl 3 rfl) ?_
      refine x_iast (j := iI (9 * z_1 + 6)) hE hK hN hP hS 8 (by decide) (fun _ => yG_10 rfl) (iI_in (n := 405) (by omega)) dX9_keeps_50 (fun ar10 H locs ha10 hP hS => ?_)
      have hI := YI_ast hI ha10 (by decide)
      refine lv_iload_n hE.1 hE.2.1 dX9_keeps_51 rfl (lv_at hl 0 rfl) ?_
      exact kr _ v5 ar10 al _ _ _ _ rfl ⟨⟨z9, by omega, rfl⟩, hI, fun i j h => (up_oth hv5 (fun q => h (by rcases q with ⟨rfl, rfl⟩; decide))), fun i h => (upx_ne ha10 i (fun q => h (by rw [q]; decide))), fun i h => rfl⟩ hP hS dX9_keeps_52
    · skip
      refine lv_aload_n hE.1 hE.2.1 dX9_keeps_19 rfl (lv_at hl 0 rfl) ?_
      refine lv_iload_n hE.1 hE.2.1 dX9_keeps_20 rfl (lv_at hl 2 rfl) ?_
      refine x_vp (nn := 1) (As := [.int (iI (z_2))]) (rest := []) hE (s_X9_isTeller l D K ad v5 ar al hI (z4) (by omega) ez4 (z_2) (by omega)) wPre_blind (wPre_now hK hN hP) (x_recv hK hP 0 (by decide) (yG_9 rfl) rfl) rfl mw_1786 mw_1788 mw_84 mw_123 mw_1789 (by decide +kernel) ⟨by decide, by decide⟩ hl.1 rfl (Nat.le_of_ble_eq_true rfl) ⟨Nat.zero_le _, Nat.zero_le _⟩ dX9_keeps_21 (fun r11 hr11 => ?_)
      obtain ⟨z11, hz11, rfl⟩ := hr11
      refine s_if_ne (a := z11) (tgt := 30) hE.1 hE.2.1 (by omega) dX9_keeps_24 (by decide) (fun c12 => ?_) (fun c12 => ?_)
      · skip
        refine lv_aload_n hE.1 hE.2.1 dX9_keeps_30 rfl (lv_at hl 0 rfl) ?_
        refine lv_iload_n hE.1 hE.2.1 dX9_keeps_31 rfl (lv_at hl 1 rfl) ?_
        refine lv_bipush (v := iI (6)) hE.1 hE.2.1 dX9_keeps_32 (by decide) ?_
        refine x_vp (nn := 2) (As := [.int (iI (z_1)), .int (iI (6))]) (rest := []) hE (s_X9_of l D K ad v5 ar al hI  (z_1) (by omega) (6) (by omega)) wPre_blind (wPre_now hK hN hP) (x_recv hK hP 0 (by decide) (yG_9 rfl) rfl) rfl mw_1654 mw_1656 mw_73 mw_123 mw_1657 (by decide +kernel) ⟨by decide, by decide⟩ hl.1 rfl (Nat.le_of_ble_eq_true rfl) ⟨Nat.zero_le _, Nat.zero_le _⟩ dX9_keeps_34 (fun r13 hr13 => ?_)
        obtain ⟨z13, hz13, rfl⟩ := hr13
        refine lv_istore_n (lv' := [(3, .int (iI (z13))), (0, .ref (ad 0)), (1, .int (iI (z_1))), (2, .int (iI (z_2)))]) hE.1 hE.2.1 dX9_keeps_37 rfl hl (by decide) rfl (fun ls hl => ?_)
        refine lv_aload_n hE.1 hE.2.1 dX9_keeps_38 rfl (lv_at hl 1 rfl) ?_
        refine x_get (x := .ref (ad 8)) hE hK hP 0 (by decide) (yG_9 rfl) rfl hin9 18 (by decide) mw_1352 rfl dX9_keeps_39 ?_
        refine lv_bipush (v := iI (9)) hE.1 hE.2.1 dX9_keeps_42 (by decide) ?_
        refine lv_iload_n hE.1 hE.2.1 dX9_keeps_44 rfl (lv_at hl 2 rfl) ?_
        refine lv_imul hE.1 hE.2.1 dX9_keeps_45 ?_
        refine x_top (y := iI (9 * z_1)) ((iI_mul (9) (z_1)).trans (congrArg iI (by omega))) ?_
        refine lv_bipush (v := iI (6)) hE.1 hE.2.1 dX9_keeps_46 (by decide) ?_
        refine lv_iadd hE.1 hE.2.1 dX9_keeps_48 ?_
        refine x_top (y := iI (9 * z_1 + 6)) ((iI_add (9 * z_1) (6)).trans (congrArg iI (by omega))) ?_
        refine lv_iload_n hE.1 hE.2.1 dX9_keeps_49 rfl (lv_at hl 3 rfl) ?_
        refine x_iast (j := iI (9 * z_1 + 6)) hE hK hN hP hS 8 (by decide) (fun _ => yG_10 rfl) (iI_in (n := 405) (by omega)) dX9_keeps_50 (fun ar14 H locs ha14 hP hS => ?_)
        have hI := YI_ast hI ha14 (by decide)
        refine lv_iload_n hE.1 hE.2.1 dX9_keeps_51 rfl (lv_at hl 0 rfl) ?_
        exact kr _ v5 ar14 al _ _ _ _ rfl ⟨⟨z13, by omega, rfl⟩, hI, fun i j h => (up_oth hv5 (fun q => h (by rcases q with ⟨rfl, rfl⟩; decide))), fun i h => (upx_ne ha14 i (fun q => h (by rw [q]; decide))), fun i h => rfl⟩ hP hS dX9_keeps_52
      · skip
        refine lv_bipush (v := iI (-2)) hE.1 hE.2.1 dX9_keeps_27 (by decide) ?_
        exact kr _ v5 ar al _ _ _ _ rfl ⟨⟨-2, by omega, rfl⟩, hI, fun i j h => (up_oth hv5 (fun q => h (by rcases q with ⟨rfl, rfl⟩; decide))), fun i h => rfl, fun i h => rfl⟩ hP hS dX9_keeps_29
