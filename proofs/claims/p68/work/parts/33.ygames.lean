theorem dX9_whyNoGame_0 : decode cX9_whyNoGame 0 = .ok (.aload_n 0, 1) := by decide +kernel
theorem dX9_whyNoGame_1 : decode cX9_whyNoGame 1 = .ok (.invokevirtual 301, 3) := by decide +kernel
theorem dX9_whyNoGame_4 : decode cX9_whyNoGame 4 = .ok (.ifCond .ne 8, 3) := by decide +kernel
theorem dX9_whyNoGame_7 : decode cX9_whyNoGame 7 = .ok (.bipush (-2), 2) := by decide +kernel
theorem dX9_whyNoGame_9 : decode cX9_whyNoGame 9 = .ok (.goto 19, 3) := by decide +kernel
theorem dX9_whyNoGame_12 : decode cX9_whyNoGame 12 = .ok (.aload_n 0, 1) := by decide +kernel
theorem dX9_whyNoGame_13 : decode cX9_whyNoGame 13 = .ok (.getfield 34, 3) := by decide +kernel
theorem dX9_whyNoGame_16 : decode cX9_whyNoGame 16 = .ok (.iconst 0, 1) := by decide +kernel
theorem dX9_whyNoGame_17 : decode cX9_whyNoGame 17 = .ok (.iaload, 1) := by decide +kernel
theorem dX9_whyNoGame_18 : decode cX9_whyNoGame 18 = .ok (.iconst 2, 1) := by decide +kernel
theorem dX9_whyNoGame_19 : decode cX9_whyNoGame 19 = .ok (.if_icmp .eq 8, 3) := by decide +kernel
theorem dX9_whyNoGame_22 : decode cX9_whyNoGame 22 = .ok (.bipush (-9), 2) := by decide +kernel
theorem dX9_whyNoGame_24 : decode cX9_whyNoGame 24 = .ok (.goto 4, 3) := by decide +kernel
theorem dX9_whyNoGame_27 : decode cX9_whyNoGame 27 = .ok (.iconst 0, 1) := by decide +kernel
theorem dX9_whyNoGame_28 : decode cX9_whyNoGame 28 = .ok (.ireturn, 1) := by decide +kernel
set_option maxHeartbeats 4000000 in
set_option maxRecDepth 100000 in
theorem s_X9_whyNoGame (l : Launch) (D : va_G) (K : Nat → ClassId) (ad : Nat → Nat) (v ar : sI) (al : sL) (hI : YI v ar) (w_1 : Int) (hw_1 : -2147483648 ≤ w_1 ∧ w_1 ≤ 2147483647) (ew_1 : ar 6 0 = iI w_1) (w_2 : Int) (hw_2 : 0 ≤ w_2 ∧ w_2 ≤ 3) (ew_2 : ar 7 0 = iI w_2) : Met l yX9_whyNoGame (wM yX9_whyNoGame cX9_whyNoGame 1 (some .int)) (rmD 1) (va_Pc [.ref (ad 0)] (wPre D K ad (yG ad K) 21 v ar al)) (vp_Si (fun r => ∃ z : Int, ((z = 0 ∧ 0 < w_1 ∧ w_2 = 2) ∨ (z = -2) ∨ (z = -9)) ∧ r = iI z)) 0 0 (fun _ => False) := by
  refine s_metP (by decide) (Nat.le_of_ble_eq_true rfl) ?_
  intro p e s m below meth c ls args Q hE hB hl kr
  have hE : CallFix p m c cX9_whyNoGame 1 s args tbG "TaleCourtModel" := hE
  obtain ⟨hP, hK, hN⟩ := hB
  have hl : lv_has ls 1 [(0, .ref (ad 0))] := hl
  refine lv_aload_n hE.1 hE.2.1 dX9_whyNoGame_0 rfl (lv_at hl 0 rfl) ?_
  refine x_vp (nn := 0) (As := []) (rest := []) hE (s_X9_isCourt l D K ad v ar al hI (w_1) (by omega) ew_1 ) wPre_blind (wPre_now hK hN hP) (x_recv hK hP 0 (by decide) (yG_9 rfl) rfl) rfl mw_1718 mw_1720 mw_79 mw_123 mw_1721 (by decide +kernel) ⟨by decide, by decide⟩ hl.1 rfl (Nat.le_of_ble_eq_true rfl) ⟨Nat.zero_le _, Nat.zero_le _⟩ dX9_whyNoGame_1 (fun r1 hr1 => ?_)
  obtain ⟨z1, hz1, rfl⟩ := hr1
  refine s_if_ne (a := z1) (tgt := 12) hE.1 hE.2.1 (by omega) dX9_whyNoGame_4 (by decide) (fun c2 => ?_) (fun c2 => ?_)
  · skip
    refine lv_aload_n hE.1 hE.2.1 dX9_whyNoGame_12 rfl (lv_at hl 0 rfl) ?_
    refine x_get (x := .ref (ad 7)) hE hK hP 0 (by decide) (yG_9 rfl) rfl hin9 17 (by decide) mw_1351 rfl dX9_whyNoGame_13 ?_
    refine lv_iconst (v := iI (0)) hE.1 hE.2.1 dX9_whyNoGame_16 (by decide) ?_
    refine x_iald (j := iI (0)) hE hK hP 7 (by decide) (yG_10 rfl) (iI_in (n := 30) (by omega)) dX9_whyNoGame_17 ?_
    refine x_top (y := iI (w_2)) (by rw [show (iI (0)).toNatClampNeg = 0 from by decide]; exact ew_2) ?_
    refine lv_iconst (v := iI (2)) hE.1 hE.2.1 dX9_whyNoGame_18 (by decide) ?_
    refine s_icmp_eq (a := w_2) (b := 2) (tgt := 27) hE.1 hE.2.1 (by omega) (by omega) dX9_whyNoGame_19 (by decide) (fun c4 => ?_) (fun c4 => ?_)
    · skip
      refine lv_iconst (v := iI (0)) hE.1 hE.2.1 dX9_whyNoGame_27 (by decide) ?_
      exact kr _ _ _ rfl ⟨0, by omega, rfl⟩ dX9_whyNoGame_28
    · skip
      refine lv_bipush (v := iI (-9)) hE.1 hE.2.1 dX9_whyNoGame_22 (by decide) ?_
      refine lv_goto (tgt := 28) hE.1 hE.2.1 dX9_whyNoGame_24 (by decide) ?_
      exact kr _ _ _ rfl ⟨-9, by omega, rfl⟩ dX9_whyNoGame_28
  · skip
    refine lv_bipush (v := iI (-2)) hE.1 hE.2.1 dX9_whyNoGame_7 (by decide) ?_
    refine lv_goto (tgt := 28) hE.1 hE.2.1 dX9_whyNoGame_9 (by decide) ?_
    exact kr _ _ _ rfl ⟨-2, by omega, rfl⟩ dX9_whyNoGame_28

theorem dX9_startsGame_0 : decode cX9_startsGame 0 = .ok (.aload_n 0, 1) := by decide +kernel
theorem dX9_startsGame_1 : decode cX9_startsGame 1 = .ok (.invokevirtual 246, 3) := by decide +kernel
theorem dX9_startsGame_4 : decode cX9_startsGame 4 = .ok (.iconst 0, 1) := by decide +kernel
theorem dX9_startsGame_5 : decode cX9_startsGame 5 = .ok (.istore_n 1, 1) := by decide +kernel
theorem dX9_startsGame_6 : decode cX9_startsGame 6 = .ok (.iload_n 1, 1) := by decide +kernel
theorem dX9_startsGame_7 : decode cX9_startsGame 7 = .ok (.ldc 71, 2) := by decide +kernel
theorem dX9_startsGame_9 : decode cX9_startsGame 9 = .ok (.if_icmp .ge 16, 3) := by decide +kernel
theorem dX9_startsGame_12 : decode cX9_startsGame 12 = .ok (.aload_n 0, 1) := by decide +kernel
theorem dX9_startsGame_13 : decode cX9_startsGame 13 = .ok (.getfield 72, 3) := by decide +kernel
theorem dX9_startsGame_16 : decode cX9_startsGame 16 = .ok (.iload_n 1, 1) := by decide +kernel
theorem dX9_startsGame_17 : decode cX9_startsGame 17 = .ok (.iconst 0, 1) := by decide +kernel
theorem dX9_startsGame_18 : decode cX9_startsGame 18 = .ok (.iastore, 1) := by decide +kernel
theorem dX9_startsGame_19 : decode cX9_startsGame 19 = .ok (.iinc 1 1, 3) := by decide +kernel
theorem dX9_startsGame_22 : decode cX9_startsGame 22 = .ok (.goto (-16), 3) := by decide +kernel
theorem dX9_startsGame_25 : decode cX9_startsGame 25 = .ok (.return_, 1) := by decide +kernel
set_option maxHeartbeats 4000000 in
set_option maxRecDepth 100000 in
theorem s_X9_startsGame_e (l : Launch) (D : va_G) (K : Nat → ClassId) (ad : Nat → Nat) (v ar : sI) (al : sL) (hI : YI v ar) (w_1 : Int) (hw_1 : 0 ≤ w_1 ∧ w_1 ≤ 3) (ew_1 : ar 7 1 = iI w_1) : Met l yX9_startsGame (wM yX9_startsGame cX9_startsGame 2 none) (rmD 4) (va_Pc [.ref (ad 0)] (wPre D K ad (yG ad K) 21 v ar al)) (va_Qv (fun u : sT => YI u.1 u.2.1 ∧ (∀ i j : Nat, (i, j) ∉ ([(0, 24), (0, 25), (0, 26), (0, 27)] : List (Nat × Nat)) → u.1 i j = v i j) ∧ (∀ i : Nat, i ∉ ([12, 13, 14, 18] : List Nat) → u.2.1 i = ar i) ∧ (∀ i : Nat, i ∉ ([] : List Nat) → u.2.2 i = al i) ∧ (SI2 w_1 (u.2.1 14)) ∧ (∃ x_1 x_2 x_3 : Int, (0 ≤ x_1 ∧ x_1 ≤ 18 ∧ 0 ≤ x_2 ∧ x_2 ≤ 511 ∧ -1 ≤ x_3 ∧ x_3 ≤ 8 ∧ (0 ≤ x_1)) ∧ u.1 0 24 = iI x_1 ∧ u.1 0 25 = iI x_2 ∧ u.1 0 26 = iI x_3)) (wB D ad (yG ad K) 21) (inW ad 21)) 0 0 (inW ad 21) := by
  refine s_metV (by decide) (Nat.le_of_ble_eq_true rfl) ?_
  intro p e s m below meth c ls args Q hE hB hl kr
  have hE : CallFix p m c cX9_startsGame 2 s args tbG "TaleCourtModel" := hE
  obtain ⟨hP, hK, hN⟩ := hB
  have hS : va_S (inW ad 21) s.heap s.heap [] := va_S.rf
  have hl : lv_has ls 2 [(0, .ref (ad 0))] := hl
  obtain ⟨z1, hz1, ez1⟩ := iI_of (ar 6 0)
  obtain ⟨z2, hz2, ez2⟩ := YI_h2 hI 2 (by decide)
  obtain ⟨z3, hz3, ez3⟩ := YI_h5 hI 5 (by decide)
  obtain ⟨z4, hz4, ez4⟩ := YI_h0 hI 0 (by decide)
  have ht0 := YI_t0 hI ez1 (by omega) ez2 (by omega) ez3 (by omega) ez4 (by omega)
  refine lv_aload_n hE.1 hE.2.1 dX9_startsGame_0 rfl (lv_at hl 0 rfl) ?_
  have hI0 := hI
  refine x_vv (nn := 0) (As := []) (rest := []) hE hK hN hP hS (s_X9_lays_e l D K ad v ar al hI (z3) (by omega) ez3 (z4) (by omega) ez4 ) (x_recv hK hP 0 (by decide) (yG_9 rfl) rfl) rfl mw_1638 mw_1640 mw_69 mw_123 mw_1641 (by decide +kernel) ⟨by decide, by decide⟩ hl.1 rfl (Nat.le_of_ble_eq_true rfl) ⟨Nat.zero_le _, Nat.zero_le _⟩ dX9_startsGame_1 (fun v5 ar5 al5 H locs hq5 hP hS => ?_)
  obtain ⟨hI, hq5, hqa5, hql5, hp5, x5_1, x5_2, x5_3, hx5, ex5_1, ex5_2, ex5_3⟩ := hq5
  have hI : YI v5 ar5 := hI
  have hp5 : LY (ar 10) (z4) (z3) (v5 0 25).toInt (ar5 12) (ar5 14) := hp5
  have hly5 := LY_n hp5 ex5_2 (by omega)
  refine lv_iconst (v := iI (0)) hE.1 hE.2.1 dX9_startsGame_4 (by decide) ?_
  refine lv_istore_n (lv' := [(1, .int (iI (0))), (0, .ref (ad 0))]) hE.1 hE.2.1 dX9_startsGame_5 rfl hl (by decide) rfl (fun ls hl => ?_)
  have loop6 : ∀ (k6 : Nat) (y6_1 : Int) (vl6 arl6 : sI) (all6 : sL) (H : Heap) (locs : List Loc) (ls : Array Slot), (163840 - y6_1).toNat = k6 → (0 ≤ y6_1 ∧ y6_1 ≤ 163840) → YI vl6 arl6 → (∀ i j : Nat, (i, j) ∉ ([] : List (Nat × Nat)) → vl6 i j = v5 i j) → (∀ i : Nat, i ∉ ([18] : List Nat) → arl6 i = ar5 i) → (∀ i : Nat, i ∉ ([] : List Nat) → all6 i = al5 i) → va_P D xcl (wW ad (yG ad K) 21 vl6 arl6 all6) H → va_S (inW ad 21) s.heap H locs → lv_has ls 2 [(1, .int (iI (y6_1))), (0, .ref (ad 0))] → W p l e (rmD 4) s m args below meth c H locs 0 0 Q (F0 m 6 ls []) := by
    intro k6
    induction k6 using Nat.strongRecOn with
    | _ k6 ih6 =>
      intro y6_1  vl6 arl6 all6 H locs ls hk6 hb_y6_1 hI hfr6 hfa6 hfl6 hP hS hl
      refine lv_iload_n hE.1 hE.2.1 dX9_startsGame_6 rfl (lv_at hl 0 rfl) ?_
      refine lv_ldc (v := 163840) hE.1 hE.2.1 hE.2.2.2.1 (hE.2.2.2.2 _ mw_1333) dX9_startsGame_7 ?_
      refine x_top (y := iI (163840)) (by decide) ?_
      refine s_icmp_ge (a := y6_1) (b := 163840) (tgt := 25) hE.1 hE.2.1 (by omega) (by omega) dX9_startsGame_9 (by decide) (fun c7 => ?_) (fun c7 => ?_)
      · skip
        exact kr vl6 arl6 all6 _ _ _ _ ⟨hI, fun i j h => ((hfr6 i j (fun q => h (mem_sub (by decide) q))).trans (hq5 i j (fun q => h (mem_sub (by decide) q)))), fun i h => ((hfa6 i (fun q => h (mem_subn (by decide) q))).trans (hqa5 i (fun q => h (mem_subn (by decide) q)))), fun i h => ((hfl6 i (fun q => h (mem_subn (by decide) q))).trans (hql5 i (fun q => h (mem_subn (by decide) q)))), (show SI2 w_1 (arl6 14) from SI2_of (fun t ht => by rw [show arl6 14 = ar5 14 from (hfa6 14 (by decide))]; exact LY_sil hI0 hly5 ez3 (by omega) ez4 (by omega) ew_1 (by omega) t ht)), x5_1, x5_2, x5_3, by omega, ((hfr6 0 24 (by decide)).trans ex5_1), ((hfr6 0 25 (by decide)).trans ex5_2), ((hfr6 0 26 (by decide)).trans ex5_3)⟩ hP hS dX9_startsGame_25
      · skip
        refine lv_aload_n hE.1 hE.2.1 dX9_startsGame_12 rfl (lv_at hl 1 rfl) ?_
        refine x_get (x := .ref (ad 18)) hE hK hP 0 (by decide) (yG_9 rfl) rfl hin9 43 (by decide) mw_1377 rfl dX9_startsGame_13 ?_
        refine lv_iload_n hE.1 hE.2.1 dX9_startsGame_16 rfl (lv_at hl 0 rfl) ?_
        refine lv_iconst (v := iI (0)) hE.1 hE.2.1 dX9_startsGame_17 (by decide) ?_
        refine x_iast (j := iI (y6_1)) hE hK hN hP hS 18 (by decide) (fun _ => yG_10 rfl) (iI_in (n := 163840) (by omega)) dX9_startsGame_18 (fun ar8 H locs ha8 hP hS => ?_)
        have hI := YI_ast hI ha8 (by decide)
        refine lv_iinc (v := iI (y6_1 + 1)) (lv' := [(1, .int (iI (y6_1 + 1))), (0, .ref (ad 0))]) hE.1 hE.2.1 dX9_startsGame_19 hl (k := 0) rfl ((iI_add (y6_1) (1)).trans (congrArg iI (by omega))) (by decide) rfl (fun ls hl => ?_)
        refine lv_goto (tgt := 6) hE.1 hE.2.1 dX9_startsGame_22 (by decide) ?_
        exact ih6 _ (by omega) (y6_1 + 1)  vl6 ar8 all6 _ _ _ rfl (by omega)  hI (fun i j h => (hfr6 i j h)) (fun i h => ((upx_ne ha8 i (fun q => h (by rw [q]; decide))).trans (hfa6 i h))) (fun i h => (hfl6 i h)) hP hS (lv_sub hl [0, 1] rfl)
  exact loop6 _ (0)  v5 ar5 al5 _ _ _ rfl (by omega)  hI (fun _ _ _ => rfl) (fun _ _ => rfl) (fun _ _ => rfl) hP hS hl

theorem dX9_outcomeNow_0 : decode cX9_outcomeNow 0 = .ok (.aload_n 0, 1) := by decide +kernel
theorem dX9_outcomeNow_1 : decode cX9_outcomeNow 1 = .ok (.invokevirtual 391, 3) := by decide +kernel
theorem dX9_outcomeNow_4 : decode cX9_outcomeNow 4 = .ok (.aload_n 0, 1) := by decide +kernel
theorem dX9_outcomeNow_5 : decode cX9_outcomeNow 5 = .ok (.aload_n 0, 1) := by decide +kernel
theorem dX9_outcomeNow_6 : decode cX9_outcomeNow 6 = .ok (.getfield 34, 3) := by decide +kernel
theorem dX9_outcomeNow_9 : decode cX9_outcomeNow 9 = .ok (.iconst 1, 1) := by decide +kernel
theorem dX9_outcomeNow_10 : decode cX9_outcomeNow 10 = .ok (.iaload, 1) := by decide +kernel
theorem dX9_outcomeNow_11 : decode cX9_outcomeNow 11 = .ok (.aload_n 0, 1) := by decide +kernel
theorem dX9_outcomeNow_12 : decode cX9_outcomeNow 12 = .ok (.getfield 56, 3) := by decide +kernel
theorem dX9_outcomeNow_15 : decode cX9_outcomeNow 15 = .ok (.iconst 0, 1) := by decide +kernel
theorem dX9_outcomeNow_16 : decode cX9_outcomeNow 16 = .ok (.iaload, 1) := by decide +kernel
theorem dX9_outcomeNow_17 : decode cX9_outcomeNow 17 = .ok (.isub, 1) := by decide +kernel
theorem dX9_outcomeNow_18 : decode cX9_outcomeNow 18 = .ok (.putfield 394, 3) := by decide +kernel
theorem dX9_outcomeNow_21 : decode cX9_outcomeNow 21 = .ok (.aload_n 0, 1) := by decide +kernel
theorem dX9_outcomeNow_22 : decode cX9_outcomeNow 22 = .ok (.aload_n 0, 1) := by decide +kernel
theorem dX9_outcomeNow_23 : decode cX9_outcomeNow 23 = .ok (.getfield 34, 3) := by decide +kernel
theorem dX9_outcomeNow_26 : decode cX9_outcomeNow 26 = .ok (.iconst 1, 1) := by decide +kernel
theorem dX9_outcomeNow_27 : decode cX9_outcomeNow 27 = .ok (.iaload, 1) := by decide +kernel
theorem dX9_outcomeNow_28 : decode cX9_outcomeNow 28 = .ok (.aload_n 0, 1) := by decide +kernel
theorem dX9_outcomeNow_29 : decode cX9_outcomeNow 29 = .ok (.getfield 56, 3) := by decide +kernel
theorem dX9_outcomeNow_32 : decode cX9_outcomeNow 32 = .ok (.iconst 1, 1) := by decide +kernel
theorem dX9_outcomeNow_33 : decode cX9_outcomeNow 33 = .ok (.iaload, 1) := by decide +kernel
theorem dX9_outcomeNow_34 : decode cX9_outcomeNow 34 = .ok (.isub, 1) := by decide +kernel
theorem dX9_outcomeNow_35 : decode cX9_outcomeNow 35 = .ok (.putfield 397, 3) := by decide +kernel
theorem dX9_outcomeNow_38 : decode cX9_outcomeNow 38 = .ok (.aload_n 0, 1) := by decide +kernel
theorem dX9_outcomeNow_39 : decode cX9_outcomeNow 39 = .ok (.aload_n 0, 1) := by decide +kernel
theorem dX9_outcomeNow_40 : decode cX9_outcomeNow 40 = .ok (.getfield 268, 3) := by decide +kernel
theorem dX9_outcomeNow_43 : decode cX9_outcomeNow 43 = .ok (.aload_n 0, 1) := by decide +kernel
theorem dX9_outcomeNow_44 : decode cX9_outcomeNow 44 = .ok (.getfield 277, 3) := by decide +kernel
theorem dX9_outcomeNow_47 : decode cX9_outcomeNow 47 = .ok (.aload_n 0, 1) := by decide +kernel
theorem dX9_outcomeNow_48 : decode cX9_outcomeNow 48 = .ok (.getfield 265, 3) := by decide +kernel
theorem dX9_outcomeNow_51 : decode cX9_outcomeNow 51 = .ok (.iconst 2, 1) := by decide +kernel
theorem dX9_outcomeNow_52 : decode cX9_outcomeNow 52 = .ok (.irem, 1) := by decide +kernel
theorem dX9_outcomeNow_53 : decode cX9_outcomeNow 53 = .ok (.aload_n 0, 1) := by decide +kernel
theorem dX9_outcomeNow_54 : decode cX9_outcomeNow 54 = .ok (.getfield 394, 3) := by decide +kernel
theorem dX9_outcomeNow_57 : decode cX9_outcomeNow 57 = .ok (.aload_n 0, 1) := by decide +kernel
theorem dX9_outcomeNow_58 : decode cX9_outcomeNow 58 = .ok (.getfield 397, 3) := by decide +kernel
theorem dX9_outcomeNow_61 : decode cX9_outcomeNow 61 = .ok (.invokevirtual 384, 3) := by decide +kernel
theorem dX9_outcomeNow_64 : decode cX9_outcomeNow 64 = .ok (.ireturn, 1) := by decide +kernel
set_option maxHeartbeats 4000000 in
set_option maxRecDepth 100000 in
theorem s_X9_outcomeNow_e (l : Launch) (D : va_G) (K : Nat → ClassId) (ad : Nat → Nat) (v ar : sI) (al : sL) (hI : YI v ar) : Met l yX9_outcomeNow (wM yX9_outcomeNow cX9_outcomeNow 1 (some .int)) (rmD 35) (va_Pc [.ref (ad 0)] (wPre D K ad (yG ad K) 21 v ar al)) (va_Qi (fun (r : Int32) (u : sT) => (∃ z : Int, (-2147483648 ≤ z ∧ z ≤ 2147483647) ∧ r = iI z) ∧ YI u.1 u.2.1 ∧ (∀ i j : Nat, (i, j) ∉ ([(0, 24), (0, 25), (0, 26), (0, 27), (0, 44), (0, 45)] : List (Nat × Nat)) → u.1 i j = v i j) ∧ (∀ i : Nat, i ∉ ([12, 13, 14, 18] : List Nat) → u.2.1 i = ar i) ∧ (∀ i : Nat, i ∉ ([] : List Nat) → u.2.2 i = al i) ∧ (∃ x_1 x_2 : Int, (0 ≤ x_1 ∧ x_1 ≤ 3 ∧ 0 ≤ x_2 ∧ x_2 ≤ 3 ∧ (0 ≤ x_1)) ∧ u.1 0 44 = iI x_1 ∧ u.1 0 45 = iI x_2)) (wB D ad (yG ad K) 21) (inW ad 21)) 0 0 (inW ad 21) := by
  refine s_metI (by decide) (Nat.le_of_ble_eq_true rfl) ?_
  intro p e s m below meth c ls args Q hE hB hl kr
  have hE : CallFix p m c cX9_outcomeNow 1 s args tbG "TaleCourtModel" := hE
  obtain ⟨hP, hK, hN⟩ := hB
  have hS : va_S (inW ad 21) s.heap s.heap [] := va_S.rf
  have hl : lv_has ls 1 [(0, .ref (ad 0))] := hl
  refine lv_aload_n hE.1 hE.2.1 dX9_outcomeNow_0 rfl (lv_at hl 0 rfl) ?_
  obtain ⟨z1, hz1, ez1⟩ := YI_h1 hI 1 (by decide)
  refine x_vv (nn := 0) (As := []) (rest := []) hE hK hN hP hS (s_X9_startsGame_e l D K ad v ar al hI (z1) (by omega) ez1 ) (x_recv hK hP 0 (by decide) (yG_9 rfl) rfl) rfl mw_1887 mw_1889 mw_96 mw_123 mw_1890 (by decide +kernel) ⟨by decide, by decide⟩ hl.1 rfl (Nat.le_of_ble_eq_true rfl) ⟨Nat.zero_le _, Nat.zero_le _⟩ dX9_outcomeNow_1 (fun v2 ar2 al2 H locs hq2 hP hS => ?_)
  obtain ⟨hI, hq2, hqa2, hql2, hp2, x2_1, x2_2, x2_3, hx2, ex2_1, ex2_2, ex2_3⟩ := hq2
  have hI : YI v2 ar2 := hI
  have hp2 : SI2 (z1) (ar2 14) := hp2
  obtain ⟨q2_0, q2_1, hq2_2, eq2_0, eq2_1⟩ := hp2
  refine lv_aload_n hE.1 hE.2.1 dX9_outcomeNow_4 rfl (lv_at hl 0 rfl) ?_
  refine lv_aload_n hE.1 hE.2.1 dX9_outcomeNow_5 rfl (lv_at hl 0 rfl) ?_
  refine x_get (x := .ref (ad 7)) hE hK hP 0 (by decide) (yG_9 rfl) rfl hin9 17 (by decide) mw_1351 rfl dX9_outcomeNow_6 ?_
  refine lv_iconst (v := iI (1)) hE.1 hE.2.1 dX9_outcomeNow_9 (by decide) ?_
  refine x_iald (j := iI (1)) hE hK hP 7 (by decide) (yG_10 rfl) (iI_in (n := 30) (by omega)) dX9_outcomeNow_10 ?_
  refine x_top (y := iI (z1)) (by rw [show (iI (1)).toNatClampNeg = 1 from by decide]; exact ((congrFun (hqa2 7 (by decide)) 1).trans ez1)) ?_
  refine lv_aload_n hE.1 hE.2.1 dX9_outcomeNow_11 rfl (lv_at hl 0 rfl) ?_
  refine x_get (x := .ref (ad 14)) hE hK hP 0 (by decide) (yG_9 rfl) rfl hin9 28 (by decide) mw_1362 rfl dX9_outcomeNow_12 ?_
  refine lv_iconst (v := iI (0)) hE.1 hE.2.1 dX9_outcomeNow_15 (by decide) ?_
  refine x_iald (j := iI (0)) hE hK hP 14 (by decide) (yG_10 rfl) (iI_in (n := 3) (by omega)) dX9_outcomeNow_16 ?_
  refine x_top (y := iI (q2_0)) (by rw [show (iI (0)).toNatClampNeg = 0 from by decide]; exact eq2_0) ?_
  refine lv_isub hE.1 hE.2.1 dX9_outcomeNow_17 ?_
  refine x_top (y := iI (-q2_0 + z1)) ((iI_sub (z1) (q2_0)).trans (congrArg iI (by omega))) ?_
  refine x_put (x := iI (-q2_0 + z1)) hE hK hN hP hS 0 (by decide) (yG_9 rfl) rfl hin9 tyX9 tyX9_ok nmX9 44 (by decide) mw_1378 rfl rfl rfl (Nat.le_of_ble_eq_true rfl) (yG_9 rfl) dX9_outcomeNow_18 (fun v5 H locs hv5 hP hS => ?_)
  have hI := YI_putN hI hv5 (by decide)
  refine lv_aload_n hE.1 hE.2.1 dX9_outcomeNow_21 rfl (lv_at hl 0 rfl) ?_
  refine lv_aload_n hE.1 hE.2.1 dX9_outcomeNow_22 rfl (lv_at hl 0 rfl) ?_
  refine x_get (x := .ref (ad 7)) hE hK hP 0 (by decide) (yG_9 rfl) rfl hin9 17 (by decide) mw_1351 rfl dX9_outcomeNow_23 ?_
  refine lv_iconst (v := iI (1)) hE.1 hE.2.1 dX9_outcomeNow_26 (by decide) ?_
  refine x_iald (j := iI (1)) hE hK hP 7 (by decide) (yG_10 rfl) (iI_in (n := 30) (by omega)) dX9_outcomeNow_27 ?_
  refine x_top (y := iI (z1)) (by rw [show (iI (1)).toNatClampNeg = 1 from by decide]; exact ((congrFun (hqa2 7 (by decide)) 1).trans ez1)) ?_
  refine lv_aload_n hE.1 hE.2.1 dX9_outcomeNow_28 rfl (lv_at hl 0 rfl) ?_
  refine x_get (x := .ref (ad 14)) hE hK hP 0 (by decide) (yG_9 rfl) rfl hin9 28 (by decide) mw_1362 rfl dX9_outcomeNow_29 ?_
  refine lv_iconst (v := iI (1)) hE.1 hE.2.1 dX9_outcomeNow_32 (by decide) ?_
  refine x_iald (j := iI (1)) hE hK hP 14 (by decide) (yG_10 rfl) (iI_in (n := 3) (by omega)) dX9_outcomeNow_33 ?_
  refine x_top (y := iI (q2_1)) (by rw [show (iI (1)).toNatClampNeg = 1 from by decide]; exact eq2_1) ?_
  refine lv_isub hE.1 hE.2.1 dX9_outcomeNow_34 ?_
  refine x_top (y := iI (-q2_1 + z1)) ((iI_sub (z1) (q2_1)).trans (congrArg iI (by omega))) ?_
  refine x_put (x := iI (-q2_1 + z1)) hE hK hN hP hS 0 (by decide) (yG_9 rfl) rfl hin9 tyX9 tyX9_ok nmX9 45 (by decide) mw_1379 rfl rfl rfl (Nat.le_of_ble_eq_true rfl) (yG_9 rfl) dX9_outcomeNow_35 (fun v8 H locs hv8 hP hS => ?_)
  have hI := YI_putN hI hv8 (by decide)
  refine lv_aload_n hE.1 hE.2.1 dX9_outcomeNow_38 rfl (lv_at hl 0 rfl) ?_
  refine lv_aload_n hE.1 hE.2.1 dX9_outcomeNow_39 rfl (lv_at hl 0 rfl) ?_
  refine x_get (x := .int (v8 0 25)) hE hK hP 0 (by decide) (yG_9 rfl) rfl hin9 25 (by decide) mw_1359 rfl dX9_outcomeNow_40 ?_
  refine x_top (y := iI (x2_2)) ((up_oth hv8 (by decide)).trans ((up_oth hv5 (by decide)).trans ex2_2)) ?_
  refine lv_aload_n hE.1 hE.2.1 dX9_outcomeNow_43 rfl (lv_at hl 0 rfl) ?_
  refine x_get (x := .int (v8 0 26)) hE hK hP 0 (by decide) (yG_9 rfl) rfl hin9 26 (by decide) mw_1360 rfl dX9_outcomeNow_44 ?_
  refine x_top (y := iI (x2_3)) ((up_oth hv8 (by decide)).trans ((up_oth hv5 (by decide)).trans ex2_3)) ?_
  refine lv_aload_n hE.1 hE.2.1 dX9_outcomeNow_47 rfl (lv_at hl 0 rfl) ?_
  refine x_get (x := .int (v8 0 24)) hE hK hP 0 (by decide) (yG_9 rfl) rfl hin9 24 (by decide) mw_1358 rfl dX9_outcomeNow_48 ?_
  refine x_top (y := iI (x2_1)) ((up_oth hv8 (by decide)).trans ((up_oth hv5 (by decide)).trans ex2_1)) ?_
  refine lv_iconst (v := iI (2)) hE.1 hE.2.1 dX9_outcomeNow_51 (by decide) ?_
  refine lv_irem hE.1 hE.2.1 dX9_outcomeNow_52 (iI_ne0 (by omega) (by omega)) ?_
  obtain ⟨z9, hz9⟩ : ∃ z : Int, z = (x2_1) % (2) ∧ 0 ≤ z ∧ z < 2 := ⟨_, rfl, Int.emod_nonneg _ (by omega), Int.emod_lt_of_pos _ (by omega)⟩
  refine x_top (y := iI (z9)) ((iI_rem (by omega) (by omega)).trans (congrArg iI hz9.1.symm)) ?_
  have er9 : z9 = rm (x2_1) (2) := hz9.1
  replace hz9 := hz9.2
  refine lv_aload_n hE.1 hE.2.1 dX9_outcomeNow_53 rfl (lv_at hl 0 rfl) ?_
  refine x_get (x := .int (v8 0 44)) hE hK hP 0 (by decide) (yG_9 rfl) rfl hin9 44 (by decide) mw_1378 rfl dX9_outcomeNow_54 ?_
  refine x_top (y := iI (-q2_0 + z1)) ((up_oth hv8 (by decide)).trans (up_eq hv5)) ?_
  refine lv_aload_n hE.1 hE.2.1 dX9_outcomeNow_57 rfl (lv_at hl 0 rfl) ?_
  refine x_get (x := .int (v8 0 45)) hE hK hP 0 (by decide) (yG_9 rfl) rfl hin9 45 (by decide) mw_1379 rfl dX9_outcomeNow_58 ?_
  refine x_top (y := iI (-q2_1 + z1)) (up_eq hv8) ?_
  have hplc10 := pc_le (x2_2)
  refine x_vi (nn := 5) (As := [.int (iI (x2_2)), .int (iI (x2_3)), .int (iI (z9)), .int (iI (-q2_0 + z1)), .int (iI (-q2_1 + z1))]) (rest := []) hE hK hN hP hS (s_X9_plays l D K ad 15 v8 ar2 al2 hI  (x2_2) (by omega) (x2_3) (by omega) (z9) (by omega) (-q2_0 + z1) (by omega) (-q2_1 + z1) (by omega) (by omega)) (x_recv hK hP 0 (by decide) (yG_9 rfl) rfl) rfl mw_1891 mw_1893 mw_97 mw_123 mw_1894 (by decide +kernel) ⟨by decide, by decide⟩ hl.1 rfl (Nat.le_of_ble_eq_true rfl) ⟨Nat.zero_le _, Nat.zero_le _⟩ dX9_outcomeNow_61 (fun r11 v11 ar11 al11 H locs hq11 hP hS => ?_)
  obtain ⟨⟨z11, hz11, rfl⟩, hI, hq11, hqa11, hql11⟩ := hq11
  have hI : YI v11 ar11 := hI
  exact kr _ v11 ar11 al11 _ _ _ _ rfl ⟨⟨z11, by omega, rfl⟩, hI, fun i j h => ((hq11 i j (fun q => h (mem_sub (by decide) q))).trans ((up_oth hv8 (fun q => h (by rcases q with ⟨rfl, rfl⟩; decide))).trans ((up_oth hv5 (fun q => h (by rcases q with ⟨rfl, rfl⟩; decide))).trans (hq2 i j (fun q => h (mem_sub (by decide) q)))))), fun i h => ((hqa11 i (fun q => h (mem_subn (by decide) q))).trans (hqa2 i (fun q => h (mem_subn (by decide) q)))), fun i h => ((hql11 i (fun q => h (mem_subn (by decide) q))).trans (hql2 i (fun q => h (mem_subn (by decide) q)))), -q2_0 + z1, -q2_1 + z1, by omega, ((hq11 0 44 (by decide)).trans ((up_oth hv8 (by decide)).trans (up_eq hv5))), ((hq11 0 45 (by decide)).trans (up_eq hv8))⟩ hP hS dX9_outcomeNow_64

theorem dX9_wins_0 : decode cX9_wins 0 = .ok (.aload_n 0, 1) := by decide +kernel
theorem dX9_wins_1 : decode cX9_wins 1 = .ok (.iconst 0, 1) := by decide +kernel
theorem dX9_wins_2 : decode cX9_wins 2 = .ok (.putfield 81, 3) := by decide +kernel
theorem dX9_wins_5 : decode cX9_wins 5 = .ok (.aload_n 0, 1) := by decide +kernel
theorem dX9_wins_6 : decode cX9_wins 6 = .ok (.invokevirtual 400, 3) := by decide +kernel
theorem dX9_wins_9 : decode cX9_wins 9 = .ok (.istore_n 1, 1) := by decide +kernel
theorem dX9_wins_10 : decode cX9_wins 10 = .ok (.iload_n 1, 1) := by decide +kernel
theorem dX9_wins_11 : decode cX9_wins 11 = .ok (.ifCond .eq 7, 3) := by decide +kernel
theorem dX9_wins_14 : decode cX9_wins 14 = .ok (.iload_n 1, 1) := by decide +kernel
theorem dX9_wins_15 : decode cX9_wins 15 = .ok (.goto 17, 3) := by decide +kernel
theorem dX9_wins_18 : decode cX9_wins 18 = .ok (.aload_n 0, 1) := by decide +kernel
theorem dX9_wins_19 : decode cX9_wins 19 = .ok (.invokevirtual 403, 3) := by decide +kernel
theorem dX9_wins_22 : decode cX9_wins 22 = .ok (.bipush 100, 2) := by decide +kernel
theorem dX9_wins_24 : decode cX9_wins 24 = .ok (.if_icmp .le 7, 3) := by decide +kernel
theorem dX9_wins_27 : decode cX9_wins 27 = .ok (.iconst 1, 1) := by decide +kernel
theorem dX9_wins_28 : decode cX9_wins 28 = .ok (.goto 4, 3) := by decide +kernel
theorem dX9_wins_31 : decode cX9_wins 31 = .ok (.iconst 0, 1) := by decide +kernel
theorem dX9_wins_32 : decode cX9_wins 32 = .ok (.ireturn, 1) := by decide +kernel
set_option maxHeartbeats 4000000 in
set_option maxRecDepth 100000 in
theorem s_X9_wins (l : Launch) (D : va_G) (K : Nat → ClassId) (ad : Nat → Nat) (v ar : sI) (al : sL) (hI : YI v ar) : Met l yX9_wins (wM yX9_wins cX9_wins 2 (some .int)) (rmD 36) (va_Pc [.ref (ad 0)] (wPre D K ad (yG ad K) 21 v ar al)) (va_Qi (fun (r : Int32) (u : sT) => (∃ z : Int, (-2147483648 ≤ z ∧ z ≤ 2147483647) ∧ r = iI z) ∧ YI u.1 u.2.1 ∧ (∀ i j : Nat, (i, j) ∉ ([(0, 0), (0, 24), (0, 25), (0, 26), (0, 27), (0, 44), (0, 45)] : List (Nat × Nat)) → u.1 i j = v i j) ∧ (∀ i : Nat, i ∉ ([12, 13, 14, 18] : List Nat) → u.2.1 i = ar i) ∧ (∀ i : Nat, i ∉ ([] : List Nat) → u.2.2 i = al i)) (wB D ad (yG ad K) 21) (inW ad 21)) 0 0 (inW ad 21) := by
  refine s_metI (by decide) (Nat.le_of_ble_eq_true rfl) ?_
  intro p e s m below meth c ls args Q hE hB hl kr
  have hE : CallFix p m c cX9_wins 2 s args tbG "TaleCourtModel" := hE
  obtain ⟨hP, hK, hN⟩ := hB
  have hS : va_S (inW ad 21) s.heap s.heap [] := va_S.rf
  have hl : lv_has ls 2 [(0, .ref (ad 0))] := hl
  obtain ⟨z1, hz1, ez1⟩ := iI_of (ar 6 0)
  obtain ⟨z2, hz2, ez2⟩ := YI_h2 hI 2 (by decide)
  obtain ⟨z3, hz3, ez3⟩ := YI_h5 hI 5 (by decide)
  obtain ⟨z4, hz4, ez4⟩ := YI_h0 hI 0 (by decide)
  have ht0 := YI_t0 hI ez1 (by omega) ez2 (by omega) ez3 (by omega) ez4 (by omega)
  refine lv_aload_n hE.1 hE.2.1 dX9_wins_0 rfl (lv_at hl 0 rfl) ?_
  refine lv_iconst (v := iI (0)) hE.1 hE.2.1 dX9_wins_1 (by decide) ?_
  refine x_put (x := iI (0)) hE hK hN hP hS 0 (by decide) (yG_9 rfl) rfl hin9 tyX9 tyX9_ok nmX9 0 (by decide) mw_1334 rfl rfl rfl (Nat.le_of_ble_eq_true rfl) (yG_9 rfl) dX9_wins_2 (fun v5 H locs hv5 hP hS => ?_)
  have hI := YI_putN hI hv5 (by decide)
  refine lv_aload_n hE.1 hE.2.1 dX9_wins_5 rfl (lv_at hl 0 rfl) ?_
  refine x_vp (nn := 0) (As := []) (rest := []) hE (s_X9_whyNoGame l D K ad v5 ar al hI (z1) (by omega) ez1 (z4) (by omega) ez4 ) wPre_blind (wPre_now hK hN hP) (x_recv hK hP 0 (by decide) (yG_9 rfl) rfl) rfl mw_1879 mw_1881 mw_94 mw_123 mw_1882 (by decide +kernel) ⟨by decide, by decide⟩ hl.1 rfl (Nat.le_of_ble_eq_true rfl) ⟨Nat.zero_le _, Nat.zero_le _⟩ dX9_wins_6 (fun r6 hr6 => ?_)
  obtain ⟨z6, hz6, rfl⟩ := hr6
  refine lv_istore_n (lv' := [(1, .int (iI (z6))), (0, .ref (ad 0))]) hE.1 hE.2.1 dX9_wins_9 rfl hl (by decide) rfl (fun ls hl => ?_)
  refine lv_iload_n hE.1 hE.2.1 dX9_wins_10 rfl (lv_at hl 0 rfl) ?_
  refine s_if_eq (a := z6) (tgt := 18) hE.1 hE.2.1 (by omega) dX9_wins_11 (by decide) (fun c7 => ?_) (fun c7 => ?_)
  · skip
    refine lv_aload_n hE.1 hE.2.1 dX9_wins_18 rfl (lv_at hl 1 rfl) ?_
    refine x_vi (nn := 0) (As := []) (rest := []) hE hK hN hP hS (s_X9_outcomeNow_e l D K ad v5 ar al hI  ) (x_recv hK hP 0 (by decide) (yG_9 rfl) rfl) rfl mw_1883 mw_1885 mw_95 mw_123 mw_1886 (by decide +kernel) ⟨by decide, by decide⟩ hl.1 rfl (Nat.le_of_ble_eq_true rfl) ⟨Nat.zero_le _, Nat.zero_le _⟩ dX9_wins_19 (fun r8 v8 ar8 al8 H locs hq8 hP hS => ?_)
    obtain ⟨⟨z8, hz8, rfl⟩, hI, hq8, hqa8, hql8, x8_1, x8_2, hx8, ex8_1, ex8_2⟩ := hq8
    have hI : YI v8 ar8 := hI
    refine lv_bipush (v := iI (100)) hE.1 hE.2.1 dX9_wins_22 (by decide) ?_
    refine s_icmp_le (a := z8) (b := 100) (tgt := 31) hE.1 hE.2.1 (by omega) (by omega) dX9_wins_24 (by decide) (fun c9 => ?_) (fun c9 => ?_)
    · skip
      refine lv_iconst (v := iI (0)) hE.1 hE.2.1 dX9_wins_31 (by decide) ?_
      exact kr _ v8 ar8 al8 _ _ _ _ rfl ⟨⟨0, by omega, rfl⟩, hI, fun i j h => ((hq8 i j (fun q => h (mem_sub (by decide) q))).trans (up_oth hv5 (fun q => h (by rcases q with ⟨rfl, rfl⟩; decide)))), fun i h => (hqa8 i (fun q => h (mem_subn (by decide) q))), fun i h => (hql8 i (fun q => h (mem_subn (by decide) q)))⟩ hP hS dX9_wins_32
    · skip
      refine lv_iconst (v := iI (1)) hE.1 hE.2.1 dX9_wins_27 (by decide) ?_
      refine lv_goto (tgt := 32) hE.1 hE.2.1 dX9_wins_28 (by decide) ?_
      exact kr _ v8 ar8 al8 _ _ _ _ rfl ⟨⟨1, by omega, rfl⟩, hI, fun i j h => ((hq8 i j (fun q => h (mem_sub (by decide) q))).trans (up_oth hv5 (fun q => h (by rcases q with ⟨rfl, rfl⟩; decide)))), fun i h => (hqa8 i (fun q => h (mem_subn (by decide) q))), fun i h => (hql8 i (fun q => h (mem_subn (by decide) q)))⟩ hP hS dX9_wins_32
  · skip
    refine lv_iload_n hE.1 hE.2.1 dX9_wins_14 rfl (lv_at hl 0 rfl) ?_
    refine lv_goto (tgt := 32) hE.1 hE.2.1 dX9_wins_15 (by decide) ?_
    exact kr _ v5 ar al _ _ _ _ rfl ⟨⟨z6, by omega, rfl⟩, hI, fun i j h => (up_oth hv5 (fun q => h (by rcases q with ⟨rfl, rfl⟩; decide))), fun i h => rfl, fun i h => rfl⟩ hP hS dX9_wins_32

theorem dX9_winsBy_0 : decode cX9_winsBy 0 = .ok (.aload_n 0, 1) := by decide +kernel
theorem dX9_winsBy_1 : decode cX9_winsBy 1 = .ok (.aload_n 0, 1) := by decide +kernel
theorem dX9_winsBy_2 : decode cX9_winsBy 2 = .ok (.getfield 268, 3) := by decide +kernel
theorem dX9_winsBy_5 : decode cX9_winsBy 5 = .ok (.aload_n 0, 1) := by decide +kernel
theorem dX9_winsBy_6 : decode cX9_winsBy 6 = .ok (.getfield 277, 3) := by decide +kernel
theorem dX9_winsBy_9 : decode cX9_winsBy 9 = .ok (.aload_n 0, 1) := by decide +kernel
theorem dX9_winsBy_10 : decode cX9_winsBy 10 = .ok (.getfield 265, 3) := by decide +kernel
theorem dX9_winsBy_13 : decode cX9_winsBy 13 = .ok (.iconst 2, 1) := by decide +kernel
theorem dX9_winsBy_14 : decode cX9_winsBy 14 = .ok (.irem, 1) := by decide +kernel
theorem dX9_winsBy_15 : decode cX9_winsBy 15 = .ok (.aload_n 0, 1) := by decide +kernel
theorem dX9_winsBy_16 : decode cX9_winsBy 16 = .ok (.getfield 394, 3) := by decide +kernel
theorem dX9_winsBy_19 : decode cX9_winsBy 19 = .ok (.aload_n 0, 1) := by decide +kernel
theorem dX9_winsBy_20 : decode cX9_winsBy 20 = .ok (.getfield 397, 3) := by decide +kernel
theorem dX9_winsBy_23 : decode cX9_winsBy 23 = .ok (.iload_n 1, 1) := by decide +kernel
theorem dX9_winsBy_24 : decode cX9_winsBy 24 = .ok (.invokevirtual 377, 3) := by decide +kernel
theorem dX9_winsBy_27 : decode cX9_winsBy 27 = .ok (.istore_n 2, 1) := by decide +kernel
theorem dX9_winsBy_28 : decode cX9_winsBy 28 = .ok (.iload_n 2, 1) := by decide +kernel
theorem dX9_winsBy_29 : decode cX9_winsBy 29 = .ok (.ifCond .le 13, 3) := by decide +kernel
theorem dX9_winsBy_32 : decode cX9_winsBy 32 = .ok (.iload_n 2, 1) := by decide +kernel
theorem dX9_winsBy_33 : decode cX9_winsBy 33 = .ok (.bipush 100, 2) := by decide +kernel
theorem dX9_winsBy_35 : decode cX9_winsBy 35 = .ok (.if_icmp .ge 7, 3) := by decide +kernel
theorem dX9_winsBy_38 : decode cX9_winsBy 38 = .ok (.iconst 1, 1) := by decide +kernel
theorem dX9_winsBy_39 : decode cX9_winsBy 39 = .ok (.goto 4, 3) := by decide +kernel
theorem dX9_winsBy_42 : decode cX9_winsBy 42 = .ok (.iconst 0, 1) := by decide +kernel
theorem dX9_winsBy_43 : decode cX9_winsBy 43 = .ok (.ireturn, 1) := by decide +kernel
set_option maxHeartbeats 4000000 in
set_option maxRecDepth 100000 in
theorem s_X9_winsBy_e (l : Launch) (D : va_G) (K : Nat → ClassId) (ad : Nat → Nat) (v ar : sI) (al : sL) (hI : YI v ar) (w_1 : Int) (hw_1 : 0 ≤ w_1 ∧ w_1 ≤ 3) (ew_1 : v 0 44 = iI w_1) (w_2 : Int) (hw_2 : 0 ≤ w_2 ∧ w_2 ≤ 3) (ew_2 : v 0 45 = iI w_2) (z_1 : Int) (hz_1 : 0 ≤ z_1 ∧ z_1 ≤ 9) : Met l yX9_winsBy (wM yX9_winsBy cX9_winsBy 3 (some .boolean)) (rmD 34) (va_Pc [.ref (ad 0), .int (iI (z_1))] (wPre D K ad (yG ad K) 21 v ar al)) (va_Qi (fun (r : Int32) (u : sT) => (∃ z : Int, (0 ≤ z ∧ z ≤ 1) ∧ r = iI z) ∧ YI u.1 u.2.1 ∧ (∀ i j : Nat, (i, j) ∉ ([] : List (Nat × Nat)) → u.1 i j = v i j) ∧ (∀ i : Nat, i ∉ ([18] : List Nat) → u.2.1 i = ar i) ∧ (∀ i : Nat, i ∉ ([] : List Nat) → u.2.2 i = al i)) (wB D ad (yG ad K) 21) (inW ad 21)) 0 0 (inW ad 21) := by
  refine s_metI (by decide) (Nat.le_of_ble_eq_true rfl) ?_
  intro p e s m below meth c ls args Q hE hB hl kr
  have hE : CallFix p m c cX9_winsBy 3 s args tbG "TaleCourtModel" := hE
  obtain ⟨hP, hK, hN⟩ := hB
  have hS : va_S (inW ad 21) s.heap s.heap [] := va_S.rf
  have hl : lv_has ls 3 [(0, .ref (ad 0)), (1, .int (iI (z_1)))] := hl
  refine lv_aload_n hE.1 hE.2.1 dX9_winsBy_0 rfl (lv_at hl 0 rfl) ?_
  refine lv_aload_n hE.1 hE.2.1 dX9_winsBy_1 rfl (lv_at hl 0 rfl) ?_
  obtain ⟨z1, hz1, ez1⟩ := YI_get hI 0 25 0 511 (by decide)
  refine x_get (x := .int (v 0 25)) hE hK hP 0 (by decide) (yG_9 rfl) rfl hin9 25 (by decide) mw_1359 rfl dX9_winsBy_2 ?_
  refine x_top (y := iI (z1)) ez1 ?_
  refine lv_aload_n hE.1 hE.2.1 dX9_winsBy_5 rfl (lv_at hl 0 rfl) ?_
  obtain ⟨z2, hz2, ez2⟩ := YI_get hI 0 26 (-1) 8 (by decide)
  refine x_get (x := .int (v 0 26)) hE hK hP 0 (by decide) (yG_9 rfl) rfl hin9 26 (by decide) mw_1360 rfl dX9_winsBy_6 ?_
  refine x_top (y := iI (z2)) ez2 ?_
  refine lv_aload_n hE.1 hE.2.1 dX9_winsBy_9 rfl (lv_at hl 0 rfl) ?_
  obtain ⟨z3, hz3, ez3⟩ := YI_get hI 0 24 0 60 (by decide)
  refine x_get (x := .int (v 0 24)) hE hK hP 0 (by decide) (yG_9 rfl) rfl hin9 24 (by decide) mw_1358 rfl dX9_winsBy_10 ?_
  refine x_top (y := iI (z3)) ez3 ?_
  refine lv_iconst (v := iI (2)) hE.1 hE.2.1 dX9_winsBy_13 (by decide) ?_
  refine lv_irem hE.1 hE.2.1 dX9_winsBy_14 (iI_ne0 (by omega) (by omega)) ?_
  obtain ⟨z4, hz4⟩ : ∃ z : Int, z = (z3) % (2) ∧ 0 ≤ z ∧ z < 2 := ⟨_, rfl, Int.emod_nonneg _ (by omega), Int.emod_lt_of_pos _ (by omega)⟩
  refine x_top (y := iI (z4)) ((iI_rem (by omega) (by omega)).trans (congrArg iI hz4.1.symm)) ?_
  have er4 : z4 = rm (z3) (2) := hz4.1
  replace hz4 := hz4.2
  refine lv_aload_n hE.1 hE.2.1 dX9_winsBy_15 rfl (lv_at hl 0 rfl) ?_
  refine x_get (x := .int (v 0 44)) hE hK hP 0 (by decide) (yG_9 rfl) rfl hin9 44 (by decide) mw_1378 rfl dX9_winsBy_16 ?_
  refine x_top (y := iI (w_1)) ew_1 ?_
  refine lv_aload_n hE.1 hE.2.1 dX9_winsBy_19 rfl (lv_at hl 0 rfl) ?_
  refine x_get (x := .int (v 0 45)) hE hK hP 0 (by decide) (yG_9 rfl) rfl hin9 45 (by decide) mw_1379 rfl dX9_winsBy_20 ?_
  refine x_top (y := iI (w_2)) ew_2 ?_
  refine lv_iload_n hE.1 hE.2.1 dX9_winsBy_23 rfl (lv_at hl 1 rfl) ?_
  have hplc5 := pc_le (z1)
  refine x_vi (nn := 6) (As := [.int (iI (z1)), .int (iI (z2)), .int (iI (z4)), .int (iI (w_1)), .int (iI (w_2)), .int (iI (z_1))]) (rest := []) hE hK hN hP hS (s_X9_act l D K ad 15 (fun k1 h1 => by obtain rfl : k1 = 14 := (by omega); exact s_X9_plays l D K ad 14) v ar al hI  (z1) (by omega) (z2) (by omega) (z4) (by omega) (w_1) (by omega) (w_2) (by omega) (z_1) (by omega) (by omega)) (x_recv hK hP 0 (by decide) (yG_9 rfl) rfl) rfl mw_1899 mw_1901 mw_99 mw_123 mw_1902 (by decide +kernel) ⟨by decide, by decide⟩ hl.1 rfl (Nat.le_of_ble_eq_true rfl) ⟨Nat.zero_le _, Nat.zero_le _⟩ dX9_winsBy_24 (fun r6 v6 ar6 al6 H locs hq6 hP hS => ?_)
  obtain ⟨⟨z6, hz6, rfl⟩, hI, hq6, hqa6, hql6⟩ := hq6
  have hI : YI v6 ar6 := hI
  refine lv_istore_n (lv' := [(2, .int (iI (z6))), (0, .ref (ad 0)), (1, .int (iI (z_1)))]) hE.1 hE.2.1 dX9_winsBy_27 rfl hl (by decide) rfl (fun ls hl => ?_)
  refine lv_iload_n hE.1 hE.2.1 dX9_winsBy_28 rfl (lv_at hl 0 rfl) ?_
  refine s_if_le (a := z6) (tgt := 42) hE.1 hE.2.1 (by omega) dX9_winsBy_29 (by decide) (fun c7 => ?_) (fun c7 => ?_)
  · skip
    refine lv_iconst (v := iI (0)) hE.1 hE.2.1 dX9_winsBy_42 (by decide) ?_
    exact kr _ v6 ar6 al6 _ _ _ _ (nar01 (by omega)) ⟨⟨0, by omega, rfl⟩, hI, fun i j h => (hq6 i j (fun q => h (mem_sub (by decide) q))), fun i h => (hqa6 i (fun q => h (mem_subn (by decide) q))), fun i h => (hql6 i (fun q => h (mem_subn (by decide) q)))⟩ hP hS dX9_winsBy_43
  · skip
    refine lv_iload_n hE.1 hE.2.1 dX9_winsBy_32 rfl (lv_at hl 0 rfl) ?_
    refine lv_bipush (v := iI (100)) hE.1 hE.2.1 dX9_winsBy_33 (by decide) ?_
    refine s_icmp_ge (a := z6) (b := 100) (tgt := 42) hE.1 hE.2.1 (by omega) (by omega) dX9_winsBy_35 (by decide) (fun c8 => ?_) (fun c8 => ?_)
    · skip
      refine lv_iconst (v := iI (0)) hE.1 hE.2.1 dX9_winsBy_42 (by decide) ?_
      exact kr _ v6 ar6 al6 _ _ _ _ (nar01 (by omega)) ⟨⟨0, by omega, rfl⟩, hI, fun i j h => (hq6 i j (fun q => h (mem_sub (by decide) q))), fun i h => (hqa6 i (fun q => h (mem_subn (by decide) q))), fun i h => (hql6 i (fun q => h (mem_subn (by decide) q)))⟩ hP hS dX9_winsBy_43
    · skip
      refine lv_iconst (v := iI (1)) hE.1 hE.2.1 dX9_winsBy_38 (by decide) ?_
      refine lv_goto (tgt := 43) hE.1 hE.2.1 dX9_winsBy_39 (by decide) ?_
      exact kr _ v6 ar6 al6 _ _ _ _ (nar01 (by omega)) ⟨⟨1, by omega, rfl⟩, hI, fun i j h => (hq6 i j (fun q => h (mem_sub (by decide) q))), fun i h => (hqa6 i (fun q => h (mem_subn (by decide) q))), fun i h => (hql6 i (fun q => h (mem_subn (by decide) q)))⟩ hP hS dX9_winsBy_43

theorem dX9_move_0 : decode cX9_move 0 = .ok (.aload_n 0, 1) := by decide +kernel
theorem dX9_move_1 : decode cX9_move 1 = .ok (.iconst 0, 1) := by decide +kernel
theorem dX9_move_2 : decode cX9_move 2 = .ok (.putfield 81, 3) := by decide +kernel
theorem dX9_move_5 : decode cX9_move 5 = .ok (.aload_n 0, 1) := by decide +kernel
theorem dX9_move_6 : decode cX9_move 6 = .ok (.invokevirtual 400, 3) := by decide +kernel
theorem dX9_move_9 : decode cX9_move 9 = .ok (.istore_n 1, 1) := by decide +kernel
theorem dX9_move_10 : decode cX9_move 10 = .ok (.iload_n 1, 1) := by decide +kernel
theorem dX9_move_11 : decode cX9_move 11 = .ok (.ifCond .eq 5, 3) := by decide +kernel
theorem dX9_move_14 : decode cX9_move 14 = .ok (.iload_n 1, 1) := by decide +kernel
theorem dX9_move_15 : decode cX9_move 15 = .ok (.ireturn, 1) := by decide +kernel
theorem dX9_move_16 : decode cX9_move 16 = .ok (.aload_n 0, 1) := by decide +kernel
theorem dX9_move_17 : decode cX9_move 17 = .ok (.invokevirtual 403, 3) := by decide +kernel
theorem dX9_move_20 : decode cX9_move 20 = .ok (.pop, 1) := by decide +kernel
theorem dX9_move_21 : decode cX9_move 21 = .ok (.iconst 0, 1) := by decide +kernel
theorem dX9_move_22 : decode cX9_move 22 = .ok (.istore_n 2, 1) := by decide +kernel
theorem dX9_move_23 : decode cX9_move 23 = .ok (.iload_n 2, 1) := by decide +kernel
theorem dX9_move_24 : decode cX9_move 24 = .ok (.bipush 9, 2) := by decide +kernel
theorem dX9_move_26 : decode cX9_move 26 = .ok (.if_icmp .gt 19, 3) := by decide +kernel
theorem dX9_move_29 : decode cX9_move 29 = .ok (.aload_n 0, 1) := by decide +kernel
theorem dX9_move_30 : decode cX9_move 30 = .ok (.iload_n 2, 1) := by decide +kernel
theorem dX9_move_31 : decode cX9_move 31 = .ok (.invokevirtual 406, 3) := by decide +kernel
theorem dX9_move_34 : decode cX9_move 34 = .ok (.ifCond .eq 5, 3) := by decide +kernel
theorem dX9_move_37 : decode cX9_move 37 = .ok (.iload_n 2, 1) := by decide +kernel
theorem dX9_move_38 : decode cX9_move 38 = .ok (.ireturn, 1) := by decide +kernel
theorem dX9_move_39 : decode cX9_move 39 = .ok (.iinc 2 1, 3) := by decide +kernel
theorem dX9_move_42 : decode cX9_move 42 = .ok (.goto (-19), 3) := by decide +kernel
theorem dX9_move_45 : decode cX9_move 45 = .ok (.iconst (-1), 1) := by decide +kernel
theorem dX9_move_46 : decode cX9_move 46 = .ok (.ireturn, 1) := by decide +kernel
set_option maxHeartbeats 4000000 in
set_option maxRecDepth 100000 in
theorem s_X9_move (l : Launch) (D : va_G) (K : Nat → ClassId) (ad : Nat → Nat) (v ar : sI) (al : sL) (hI : YI v ar) : Met l yX9_move (wM yX9_move cX9_move 3 (some .int)) (rmD 36) (va_Pc [.ref (ad 0)] (wPre D K ad (yG ad K) 21 v ar al)) (va_Qi (fun (r : Int32) (u : sT) => (∃ z : Int, (-2147483648 ≤ z ∧ z ≤ 2147483647) ∧ r = iI z) ∧ YI u.1 u.2.1 ∧ (∀ i j : Nat, (i, j) ∉ ([(0, 0), (0, 24), (0, 25), (0, 26), (0, 27), (0, 44), (0, 45)] : List (Nat × Nat)) → u.1 i j = v i j) ∧ (∀ i : Nat, i ∉ ([12, 13, 14, 18] : List Nat) → u.2.1 i = ar i) ∧ (∀ i : Nat, i ∉ ([] : List Nat) → u.2.2 i = al i)) (wB D ad (yG ad K) 21) (inW ad 21)) 0 0 (inW ad 21) := by
  refine s_metI (by decide) (Nat.le_of_ble_eq_true rfl) ?_
  intro p e s m below meth c ls args Q hE hB hl kr
  have hE : CallFix p m c cX9_move 3 s args tbG "TaleCourtModel" := hE
  obtain ⟨hP, hK, hN⟩ := hB
  have hS : va_S (inW ad 21) s.heap s.heap [] := va_S.rf
  have hl : lv_has ls 3 [(0, .ref (ad 0))] := hl
  obtain ⟨z1, hz1, ez1⟩ := iI_of (ar 6 0)
  obtain ⟨z2, hz2, ez2⟩ := YI_h2 hI 2 (by decide)
  obtain ⟨z3, hz3, ez3⟩ := YI_h5 hI 5 (by decide)
  obtain ⟨z4, hz4, ez4⟩ := YI_h0 hI 0 (by decide)
  have ht0 := YI_t0 hI ez1 (by omega) ez2 (by omega) ez3 (by omega) ez4 (by omega)
  refine lv_aload_n hE.1 hE.2.1 dX9_move_0 rfl (lv_at hl 0 rfl) ?_
  refine lv_iconst (v := iI (0)) hE.1 hE.2.1 dX9_move_1 (by decide) ?_
  refine x_put (x := iI (0)) hE hK hN hP hS 0 (by decide) (yG_9 rfl) rfl hin9 tyX9 tyX9_ok nmX9 0 (by decide) mw_1334 rfl rfl rfl (Nat.le_of_ble_eq_true rfl) (yG_9 rfl) dX9_move_2 (fun v5 H locs hv5 hP hS => ?_)
  have hI := YI_putN hI hv5 (by decide)
  refine lv_aload_n hE.1 hE.2.1 dX9_move_5 rfl (lv_at hl 0 rfl) ?_
  refine x_vp (nn := 0) (As := []) (rest := []) hE (s_X9_whyNoGame l D K ad v5 ar al hI (z1) (by omega) ez1 (z4) (by omega) ez4 ) wPre_blind (wPre_now hK hN hP) (x_recv hK hP 0 (by decide) (yG_9 rfl) rfl) rfl mw_1879 mw_1881 mw_94 mw_123 mw_1882 (by decide +kernel) ⟨by decide, by decide⟩ hl.1 rfl (Nat.le_of_ble_eq_true rfl) ⟨Nat.zero_le _, Nat.zero_le _⟩ dX9_move_6 (fun r6 hr6 => ?_)
  obtain ⟨z6, hz6, rfl⟩ := hr6
  refine lv_istore_n (lv' := [(1, .int (iI (z6))), (0, .ref (ad 0))]) hE.1 hE.2.1 dX9_move_9 rfl hl (by decide) rfl (fun ls hl => ?_)
  refine lv_iload_n hE.1 hE.2.1 dX9_move_10 rfl (lv_at hl 0 rfl) ?_
  refine s_if_eq (a := z6) (tgt := 16) hE.1 hE.2.1 (by omega) dX9_move_11 (by decide) (fun c7 => ?_) (fun c7 => ?_)
  · skip
    refine lv_aload_n hE.1 hE.2.1 dX9_move_16 rfl (lv_at hl 1 rfl) ?_
    refine x_vi (nn := 0) (As := []) (rest := []) hE hK hN hP hS (s_X9_outcomeNow_e l D K ad v5 ar al hI  ) (x_recv hK hP 0 (by decide) (yG_9 rfl) rfl) rfl mw_1883 mw_1885 mw_95 mw_123 mw_1886 (by decide +kernel) ⟨by decide, by decide⟩ hl.1 rfl (Nat.le_of_ble_eq_true rfl) ⟨Nat.zero_le _, Nat.zero_le _⟩ dX9_move_17 (fun r8 v8 ar8 al8 H locs hq8 hP hS => ?_)
    obtain ⟨⟨z8, hz8, rfl⟩, hI, hq8, hqa8, hql8, x8_1, x8_2, hx8, ex8_1, ex8_2⟩ := hq8
    have hI : YI v8 ar8 := hI
    refine lv_pop hE.1 hE.2.1 dX9_move_20 rfl ?_
    refine lv_iconst (v := iI (0)) hE.1 hE.2.1 dX9_move_21 (by decide) ?_
    refine lv_istore_n (lv' := [(2, .int (iI (0))), (1, .int (iI (z6))), (0, .ref (ad 0))]) hE.1 hE.2.1 dX9_move_22 rfl hl (by decide) rfl (fun ls hl => ?_)
    have loop9 : ∀ (k9 : Nat) (y9_2 : Int) (vl9 arl9 : sI) (all9 : sL) (H : Heap) (locs : List Loc) (ls : Array Slot), (10 - y9_2).toNat = k9 → (0 ≤ y9_2 ∧ y9_2 ≤ 10) → YI vl9 arl9 → (∀ i j : Nat, (i, j) ∉ ([] : List (Nat × Nat)) → vl9 i j = v8 i j) → (∀ i : Nat, i ∉ ([18] : List Nat) → arl9 i = ar8 i) → (∀ i : Nat, i ∉ ([] : List Nat) → all9 i = al8 i) → va_P D xcl (wW ad (yG ad K) 21 vl9 arl9 all9) H → va_S (inW ad 21) s.heap H locs → lv_has ls 3 [(2, .int (iI (y9_2))), (1, .int (iI (z6))), (0, .ref (ad 0))] → W p l e (rmD 36) s m args below meth c H locs 0 0 Q (F0 m 23 ls []) := by
      intro k9
      induction k9 using Nat.strongRecOn with
      | _ k9 ih9 =>
        intro y9_2  vl9 arl9 all9 H locs ls hk9 hb_y9_2 hI hfr9 hfa9 hfl9 hP hS hl
        refine lv_iload_n hE.1 hE.2.1 dX9_move_23 rfl (lv_at hl 0 rfl) ?_
        refine lv_bipush (v := iI (9)) hE.1 hE.2.1 dX9_move_24 (by decide) ?_
        refine s_icmp_gt (a := y9_2) (b := 9) (tgt := 45) hE.1 hE.2.1 (by omega) (by omega) dX9_move_26 (by decide) (fun c10 => ?_) (fun c10 => ?_)
        · skip
          refine lv_iconst (v := iI (-1)) hE.1 hE.2.1 dX9_move_45 (by decide) ?_
          exact kr _ vl9 arl9 all9 _ _ _ _ rfl ⟨⟨-1, by omega, rfl⟩, hI, fun i j h => ((hfr9 i j (fun q => h (mem_sub (by decide) q))).trans ((hq8 i j (fun q => h (mem_sub (by decide) q))).trans (up_oth hv5 (fun q => h (by rcases q with ⟨rfl, rfl⟩; decide))))), fun i h => ((hfa9 i (fun q => h (mem_subn (by decide) q))).trans (hqa8 i (fun q => h (mem_subn (by decide) q)))), fun i h => ((hfl9 i (fun q => h (mem_subn (by decide) q))).trans (hql8 i (fun q => h (mem_subn (by decide) q))))⟩ hP hS dX9_move_46
        · skip
          refine lv_aload_n hE.1 hE.2.1 dX9_move_29 rfl (lv_at hl 2 rfl) ?_
          refine lv_iload_n hE.1 hE.2.1 dX9_move_30 rfl (lv_at hl 0 rfl) ?_
          refine x_vi (nn := 1) (As := [.int (iI (y9_2))]) (rest := []) hE hK hN hP hS (s_X9_winsBy_e l D K ad vl9 arl9 all9 hI (x8_1) (by omega) ((hfr9 0 44 (by decide)).trans ex8_1) (x8_2) (by omega) ((hfr9 0 45 (by decide)).trans ex8_2) (y9_2) (by omega)) (x_recv hK hP 0 (by decide) (yG_9 rfl) rfl) rfl mw_1914 mw_1916 mw_101 mw_123 mw_1917 (by decide +kernel) ⟨by decide, by decide⟩ hl.1 rfl (Nat.le_of_ble_eq_true rfl) ⟨Nat.zero_le _, Nat.zero_le _⟩ dX9_move_31 (fun r11 v11 ar11 al11 H locs hq11 hP hS => ?_)
          obtain ⟨⟨z11, hz11, rfl⟩, hI, hq11, hqa11, hql11⟩ := hq11
          have hI : YI v11 ar11 := hI
          refine s_if_eq (a := z11) (tgt := 39) hE.1 hE.2.1 (by omega) dX9_move_34 (by decide) (fun c12 => ?_) (fun c12 => ?_)
          · skip
            refine lv_iinc (v := iI (y9_2 + 1)) (lv' := [(2, .int (iI (y9_2 + 1))), (1, .int (iI (z6))), (0, .ref (ad 0))]) hE.1 hE.2.1 dX9_move_39 hl (k := 0) rfl ((iI_add (y9_2) (1)).trans (congrArg iI (by omega))) (by decide) rfl (fun ls hl => ?_)
            refine lv_goto (tgt := 23) hE.1 hE.2.1 dX9_move_42 (by decide) ?_
            exact ih9 _ (by omega) (y9_2 + 1)  v11 ar11 al11 _ _ _ rfl (by omega)  hI (fun i j h => ((hq11 i j (fun q => h (mem_sub (by decide) q))).trans (hfr9 i j h))) (fun i h => ((hqa11 i (fun q => h (mem_subn (by decide) q))).trans (hfa9 i h))) (fun i h => ((hql11 i (fun q => h (mem_subn (by decide) q))).trans (hfl9 i h))) hP hS (lv_sub hl [0, 1, 2] rfl)
          · skip
            refine lv_iload_n hE.1 hE.2.1 dX9_move_37 rfl (lv_at hl 0 rfl) ?_
            exact kr _ v11 ar11 al11 _ _ _ _ rfl ⟨⟨y9_2, by omega, rfl⟩, hI, fun i j h => ((hq11 i j (fun q => h (mem_sub (by decide) q))).trans ((hfr9 i j (fun q => h (mem_sub (by decide) q))).trans ((hq8 i j (fun q => h (mem_sub (by decide) q))).trans (up_oth hv5 (fun q => h (by rcases q with ⟨rfl, rfl⟩; decide)))))), fun i h => ((hqa11 i (fun q => h (mem_subn (by decide) q))).trans ((hfa9 i (fun q => h (mem_subn (by decide) q))).trans (hqa8 i (fun q => h (mem_subn (by decide) q))))), fun i h => ((hql11 i (fun q => h (mem_subn (by decide) q))).trans ((hfl9 i (fun q => h (mem_subn (by decide) q))).trans (hql8 i (fun q => h (mem_subn (by decide) q)))))⟩ hP hS dX9_move_38
    exact loop9 _ (0)  v8 ar8 al8 _ _ _ rfl (by omega)  hI (fun _ _ _ => rfl) (fun _ _ => rfl) (fun _ _ => rfl) hP hS hl
  · skip
    refine lv_iload_n hE.1 hE.2.1 dX9_move_14 rfl (lv_at hl 0 rfl) ?_
    exact kr _ v5 ar al _ _ _ _ rfl ⟨⟨z6, by omega, rfl⟩, hI, fun i j h => (up_oth hv5 (fun q => h (by rcases q with ⟨rfl, rfl⟩; decide))), fun i h => rfl, fun i h => rfl⟩ hP hS dX9_move_15

theorem dX9_lasts_0 : decode cX9_lasts 0 = .ok (.aload_n 0, 1) := by decide +kernel
theorem dX9_lasts_1 : decode cX9_lasts 1 = .ok (.iconst 0, 1) := by decide +kernel
theorem dX9_lasts_2 : decode cX9_lasts 2 = .ok (.putfield 81, 3) := by decide +kernel
theorem dX9_lasts_5 : decode cX9_lasts 5 = .ok (.aload_n 0, 1) := by decide +kernel
theorem dX9_lasts_6 : decode cX9_lasts 6 = .ok (.invokevirtual 400, 3) := by decide +kernel
theorem dX9_lasts_9 : decode cX9_lasts 9 = .ok (.istore_n 1, 1) := by decide +kernel
theorem dX9_lasts_10 : decode cX9_lasts 10 = .ok (.iload_n 1, 1) := by decide +kernel
theorem dX9_lasts_11 : decode cX9_lasts 11 = .ok (.ifCond .eq 7, 3) := by decide +kernel
theorem dX9_lasts_14 : decode cX9_lasts 14 = .ok (.iload_n 1, 1) := by decide +kernel
theorem dX9_lasts_15 : decode cX9_lasts 15 = .ok (.goto 12, 3) := by decide +kernel
theorem dX9_lasts_18 : decode cX9_lasts 18 = .ok (.aload_n 0, 1) := by decide +kernel
theorem dX9_lasts_19 : decode cX9_lasts 19 = .ok (.invokevirtual 403, 3) := by decide +kernel
theorem dX9_lasts_22 : decode cX9_lasts 22 = .ok (.bipush 100, 2) := by decide +kernel
theorem dX9_lasts_24 : decode cX9_lasts 24 = .ok (.irem, 1) := by decide +kernel
theorem dX9_lasts_25 : decode cX9_lasts 25 = .ok (.iconst 1, 1) := by decide +kernel
theorem dX9_lasts_26 : decode cX9_lasts 26 = .ok (.isub, 1) := by decide +kernel
theorem dX9_lasts_27 : decode cX9_lasts 27 = .ok (.ireturn, 1) := by decide +kernel
set_option maxHeartbeats 4000000 in
set_option maxRecDepth 100000 in
theorem s_X9_lasts (l : Launch) (D : va_G) (K : Nat → ClassId) (ad : Nat → Nat) (v ar : sI) (al : sL) (hI : YI v ar) : Met l yX9_lasts (wM yX9_lasts cX9_lasts 2 (some .int)) (rmD 36) (va_Pc [.ref (ad 0)] (wPre D K ad (yG ad K) 21 v ar al)) (va_Qi (fun (r : Int32) (u : sT) => (∃ z : Int, (-2147483648 ≤ z ∧ z ≤ 2147483647) ∧ r = iI z) ∧ YI u.1 u.2.1 ∧ (∀ i j : Nat, (i, j) ∉ ([(0, 0), (0, 24), (0, 25), (0, 26), (0, 27), (0, 44), (0, 45)] : List (Nat × Nat)) → u.1 i j = v i j) ∧ (∀ i : Nat, i ∉ ([12, 13, 14, 18] : List Nat) → u.2.1 i = ar i) ∧ (∀ i : Nat, i ∉ ([] : List Nat) → u.2.2 i = al i)) (wB D ad (yG ad K) 21) (inW ad 21)) 0 0 (inW ad 21) := by
  refine s_metI (by decide) (Nat.le_of_ble_eq_true rfl) ?_
  intro p e s m below meth c ls args Q hE hB hl kr
  have hE : CallFix p m c cX9_lasts 2 s args tbG "TaleCourtModel" := hE
  obtain ⟨hP, hK, hN⟩ := hB
  have hS : va_S (inW ad 21) s.heap s.heap [] := va_S.rf
  have hl : lv_has ls 2 [(0, .ref (ad 0))] := hl
  obtain ⟨z1, hz1, ez1⟩ := iI_of (ar 6 0)
  obtain ⟨z2, hz2, ez2⟩ := YI_h2 hI 2 (by decide)
  obtain ⟨z3, hz3, ez3⟩ := YI_h5 hI 5 (by decide)
  obtain ⟨z4, hz4, ez4⟩ := YI_h0 hI 0 (by decide)
  have ht0 := YI_t0 hI ez1 (by omega) ez2 (by omega) ez3 (by omega) ez4 (by omega)
  refine lv_aload_n hE.1 hE.2.1 dX9_lasts_0 rfl (lv_at hl 0 rfl) ?_
  refine lv_iconst (v := iI (0)) hE.1 hE.2.1 dX9_lasts_1 (by decide) ?_
  refine x_put (x := iI (0)) hE hK hN hP hS 0 (by decide) (yG_9 rfl) rfl hin9 tyX9 tyX9_ok nmX9 0 (by decide) mw_1334 rfl rfl rfl (Nat.le_of_ble_eq_true rfl) (yG_9 rfl) dX9_lasts_2 (fun v5 H locs hv5 hP hS => ?_)
  have hI := YI_putN hI hv5 (by decide)
  refine lv_aload_n hE.1 hE.2.1 dX9_lasts_5 rfl (lv_at hl 0 rfl) ?_
  refine x_vp (nn := 0) (As := []) (rest := []) hE (s_X9_whyNoGame l D K ad v5 ar al hI (z1) (by omega) ez1 (z4) (by omega) ez4 ) wPre_blind (wPre_now hK hN hP) (x_recv hK hP 0 (by decide) (yG_9 rfl) rfl) rfl mw_1879 mw_1881 mw_94 mw_123 mw_1882 (by decide +kernel) ⟨by decide, by decide⟩ hl.1 rfl (Nat.le_of_ble_eq_true rfl) ⟨Nat.zero_le _, Nat.zero_le _⟩ dX9_lasts_6 (fun r6 hr6 => ?_)
  obtain ⟨z6, hz6, rfl⟩ := hr6
  refine lv_istore_n (lv' := [(1, .int (iI (z6))), (0, .ref (ad 0))]) hE.1 hE.2.1 dX9_lasts_9 rfl hl (by decide) rfl (fun ls hl => ?_)
  refine lv_iload_n hE.1 hE.2.1 dX9_lasts_10 rfl (lv_at hl 0 rfl) ?_
  refine s_if_eq (a := z6) (tgt := 18) hE.1 hE.2.1 (by omega) dX9_lasts_11 (by decide) (fun c7 => ?_) (fun c7 => ?_)
  · skip
    refine lv_aload_n hE.1 hE.2.1 dX9_lasts_18 rfl (lv_at hl 1 rfl) ?_
    refine x_vi (nn := 0) (As := []) (rest := []) hE hK hN hP hS (s_X9_outcomeNow_e l D K ad v5 ar al hI  ) (x_recv hK hP 0 (by decide) (yG_9 rfl) rfl) rfl mw_1883 mw_1885 mw_95 mw_123 mw_1886 (by decide +kernel) ⟨by decide, by decide⟩ hl.1 rfl (Nat.le_of_ble_eq_true rfl) ⟨Nat.zero_le _, Nat.zero_le _⟩ dX9_lasts_19 (fun r8 v8 ar8 al8 H locs hq8 hP hS => ?_)
    obtain ⟨⟨z8, hz8, rfl⟩, hI, hq8, hqa8, hql8, x8_1, x8_2, hx8, ex8_1, ex8_2⟩ := hq8
    have hI : YI v8 ar8 := hI
    refine lv_bipush (v := iI (100)) hE.1 hE.2.1 dX9_lasts_22 (by decide) ?_
    refine lv_irem hE.1 hE.2.1 dX9_lasts_24 (iI_ne0 (by omega) (by omega)) ?_
    obtain ⟨z9, hz9, ez9⟩ := iI_of (iI (z8) - iI (z8) / iI (100) * iI (100))
    refine x_top ez9 ?_
    refine lv_iconst (v := iI (1)) hE.1 hE.2.1 dX9_lasts_25 (by decide) ?_
    refine lv_isub hE.1 hE.2.1 dX9_lasts_26 ?_
    obtain ⟨z10, hz10, ez10⟩ := iI_of (iI (z9) - iI (1))
    refine x_top ez10 ?_
    exact kr _ v8 ar8 al8 _ _ _ _ rfl ⟨⟨z10, by omega, rfl⟩, hI, fun i j h => ((hq8 i j (fun q => h (mem_sub (by decide) q))).trans (up_oth hv5 (fun q => h (by rcases q with ⟨rfl, rfl⟩; decide)))), fun i h => (hqa8 i (fun q => h (mem_subn (by decide) q))), fun i h => (hql8 i (fun q => h (mem_subn (by decide) q)))⟩ hP hS dX9_lasts_27
  · skip
    refine lv_iload_n hE.1 hE.2.1 dX9_lasts_14 rfl (lv_at hl 0 rfl) ?_
    refine lv_goto (tgt := 27) hE.1 hE.2.1 dX9_lasts_15 (by decide) ?_
    exact kr _ v5 ar al _ _ _ _ rfl ⟨⟨z6, by omega, rfl⟩, hI, fun i j h => (up_oth hv5 (fun q => h (by rcases q with ⟨rfl, rfl⟩; decide))), fun i h => rfl, fun i h => rfl⟩ hP hS dX9_lasts_27

theorem dX9_good_0 : decode cX9_good 0 = .ok (.aload_n 0, 1) := by decide +kernel
theorem dX9_good_1 : decode cX9_good 1 = .ok (.iconst 0, 1) := by decide +kernel
theorem dX9_good_2 : decode cX9_good 2 = .ok (.putfield 81, 3) := by decide +kernel
theorem dX9_good_5 : decode cX9_good 5 = .ok (.aload_n 0, 1) := by decide +kernel
theorem dX9_good_6 : decode cX9_good 6 = .ok (.invokevirtual 400, 3) := by decide +kernel
theorem dX9_good_9 : decode cX9_good 9 = .ok (.istore_n 1, 1) := by decide +kernel
theorem dX9_good_10 : decode cX9_good 10 = .ok (.iload_n 1, 1) := by decide +kernel
theorem dX9_good_11 : decode cX9_good 11 = .ok (.ifCond .eq 5, 3) := by decide +kernel
theorem dX9_good_14 : decode cX9_good 14 = .ok (.iload_n 1, 1) := by decide +kernel
theorem dX9_good_15 : decode cX9_good 15 = .ok (.ireturn, 1) := by decide +kernel
theorem dX9_good_16 : decode cX9_good 16 = .ok (.aload_n 0, 1) := by decide +kernel
theorem dX9_good_17 : decode cX9_good 17 = .ok (.invokevirtual 403, 3) := by decide +kernel
theorem dX9_good_20 : decode cX9_good 20 = .ok (.pop, 1) := by decide +kernel
theorem dX9_good_21 : decode cX9_good 21 = .ok (.iconst 0, 1) := by decide +kernel
theorem dX9_good_22 : decode cX9_good 22 = .ok (.istore_n 2, 1) := by decide +kernel
theorem dX9_good_23 : decode cX9_good 23 = .ok (.iconst 0, 1) := by decide +kernel
theorem dX9_good_24 : decode cX9_good 24 = .ok (.istore_n 3, 1) := by decide +kernel
theorem dX9_good_25 : decode cX9_good 25 = .ok (.iload_n 3, 1) := by decide +kernel
theorem dX9_good_26 : decode cX9_good 26 = .ok (.bipush 9, 2) := by decide +kernel
theorem dX9_good_28 : decode cX9_good 28 = .ok (.if_icmp .gt 27, 3) := by decide +kernel
theorem dX9_good_31 : decode cX9_good 31 = .ok (.iload_n 2, 1) := by decide +kernel
theorem dX9_good_32 : decode cX9_good 32 = .ok (.aload_n 0, 1) := by decide +kernel
theorem dX9_good_33 : decode cX9_good 33 = .ok (.iload_n 3, 1) := by decide +kernel
theorem dX9_good_34 : decode cX9_good 34 = .ok (.invokevirtual 406, 3) := by decide +kernel
theorem dX9_good_37 : decode cX9_good 37 = .ok (.ifCond .eq 9, 3) := by decide +kernel
theorem dX9_good_40 : decode cX9_good 40 = .ok (.iconst 1, 1) := by decide +kernel
theorem dX9_good_41 : decode cX9_good 41 = .ok (.iload_n 3, 1) := by decide +kernel
theorem dX9_good_42 : decode cX9_good 42 = .ok (.ishl, 1) := by decide +kernel
theorem dX9_good_43 : decode cX9_good 43 = .ok (.goto 4, 3) := by decide +kernel
theorem dX9_good_46 : decode cX9_good 46 = .ok (.iconst 0, 1) := by decide +kernel
theorem dX9_good_47 : decode cX9_good 47 = .ok (.ior, 1) := by decide +kernel
theorem dX9_good_48 : decode cX9_good 48 = .ok (.istore_n 2, 1) := by decide +kernel
theorem dX9_good_49 : decode cX9_good 49 = .ok (.iinc 3 1, 3) := by decide +kernel
theorem dX9_good_52 : decode cX9_good 52 = .ok (.goto (-27), 3) := by decide +kernel
theorem dX9_good_55 : decode cX9_good 55 = .ok (.iload_n 2, 1) := by decide +kernel
theorem dX9_good_56 : decode cX9_good 56 = .ok (.ireturn, 1) := by decide +kernel
set_option maxHeartbeats 4000000 in
set_option maxRecDepth 100000 in
theorem s_X9_good (l : Launch) (D : va_G) (K : Nat → ClassId) (ad : Nat → Nat) (v ar : sI) (al : sL) (hI : YI v ar) : Met l yX9_good (wM yX9_good cX9_good 4 (some .int)) (rmD 36) (va_Pc [.ref (ad 0)] (wPre D K ad (yG ad K) 21 v ar al)) (va_Qi (fun (r : Int32) (u : sT) => (∃ z : Int, (-2147483648 ≤ z ∧ z ≤ 2147483647) ∧ r = iI z) ∧ YI u.1 u.2.1 ∧ (∀ i j : Nat, (i, j) ∉ ([(0, 0), (0, 24), (0, 25), (0, 26), (0, 27), (0, 44), (0, 45)] : List (Nat × Nat)) → u.1 i j = v i j) ∧ (∀ i : Nat, i ∉ ([12, 13, 14, 18] : List Nat) → u.2.1 i = ar i) ∧ (∀ i : Nat, i ∉ ([] : List Nat) → u.2.2 i = al i)) (wB D ad (yG ad K) 21) (inW ad 21)) 0 0 (inW ad 21) := by
  refine s_metI (by decide) (Nat.le_of_ble_eq_true rfl) ?_
  intro p e s m below meth c ls args Q hE hB hl kr
  have hE : CallFix p m c cX9_good 4 s args tbG "TaleCourtModel" := hE
  obtain ⟨hP, hK, hN⟩ := hB
  have hS : va_S (inW ad 21) s.heap s.heap [] := va_S.rf
  have hl : lv_has ls 4 [(0, .ref (ad 0))] := hl
  obtain ⟨z1, hz1, ez1⟩ := iI_of (ar 6 0)
  obtain ⟨z2, hz2, ez2⟩ := YI_h2 hI 2 (by decide)
  obtain ⟨z3, hz3, ez3⟩ := YI_h5 hI 5 (by decide)
  obtain ⟨z4, hz4, ez4⟩ := YI_h0 hI 0 (by decide)
  have ht0 := YI_t0 hI ez1 (by omega) ez2 (by omega) ez3 (by omega) ez4 (by omega)
  refine lv_aload_n hE.1 hE.2.1 dX9_good_0 rfl (lv_at hl 0 rfl) ?_
  refine lv_iconst (v := iI (0)) hE.1 hE.2.1 dX9_good_1 (by decide) ?_
  refine x_put (x := iI (0)) hE hK hN hP hS 0 (by decide) (yG_9 rfl) rfl hin9 tyX9 tyX9_ok nmX9 0 (by decide) mw_1334 rfl rfl rfl (Nat.le_of_ble_eq_true rfl) (yG_9 rfl) dX9_good_2 (fun v5 H locs hv5 hP hS => ?_)
  have hI := YI_putN hI hv5 (by decide)
  refine lv_aload_n hE.1 hE.2.1 dX9_good_5 rfl (lv_at hl 0 rfl) ?_
  refine x_vp (nn := 0) (As := []) (rest := []) hE (s_X9_whyNoGame l D K ad v5 ar al hI (z1) (by omega) ez1 (z4) (by omega) ez4 ) wPre_blind (wPre_now hK hN hP) (x_recv hK hP 0 (by decide) (yG_9 rfl) rfl) rfl mw_1879 mw_1881 mw_94 mw_123 mw_1882 (by decide +kernel) ⟨by decide, by decide⟩ hl.1 rfl (Nat.le_of_ble_eq_true rfl) ⟨Nat.zero_le _, Nat.zero_le _⟩ dX9_good_6 (fun r6 hr6 => ?_)
  obtain ⟨z6, hz6, rfl⟩ := hr6
  refine lv_istore_n (lv' := [(1, .int (iI (z6))), (0, .ref (ad 0))]) hE.1 hE.2.1 dX9_good_9 rfl hl (by decide) rfl (fun ls hl => ?_)
  refine lv_iload_n hE.1 hE.2.1 dX9_good_10 rfl (lv_at hl 0 rfl) ?_
  refine s_if_eq (a := z6) (tgt := 16) hE.1 hE.2.1 (by omega) dX9_good_11 (by decide) (fun c7 => ?_) (fun c7 => ?_)
  · skip
    refine lv_aload_n hE.1 hE.2.1 dX9_good_16 rfl (lv_at hl 1 rfl) ?_
    refine x_vi (nn := 0) (As := []) (rest := []) hE hK hN hP hS (s_X9_outcomeNow_e l D K ad v5 ar al hI  ) (x_recv hK hP 0 (by decide) (yG_9 rfl) rfl) rfl mw_1883 mw_1885 mw_95 mw_123 mw_1886 (by decide +kernel) ⟨by decide, by decide⟩ hl.1 rfl (Nat.le_of_ble_eq_true rfl) ⟨Nat.zero_le _, Nat.zero_le _⟩ dX9_good_17 (fun r8 v8 ar8 al8 H locs hq8 hP hS => ?_)
    obtain ⟨⟨z8, hz8, rfl⟩, hI, hq8, hqa8, hql8, x8_1, x8_2, hx8, ex8_1, ex8_2⟩ := hq8
    have hI : YI v8 ar8 := hI
    refine lv_pop hE.1 hE.2.1 dX9_good_20 rfl ?_
    refine lv_iconst (v := iI (0)) hE.1 hE.2.1 dX9_good_21 (by decide) ?_
    refine lv_istore_n (lv' := [(2, .int (iI (0))), (1, .int (iI (z6))), (0, .ref (ad 0))]) hE.1 hE.2.1 dX9_good_22 rfl hl (by decide) rfl (fun ls hl => ?_)
    refine lv_iconst (v := iI (0)) hE.1 hE.2.1 dX9_good_23 (by decide) ?_
    refine lv_istore_n (lv' := [(3, .int (iI (0))), (2, .int (iI (0))), (1, .int (iI (z6))), (0, .ref (ad 0))]) hE.1 hE.2.1 dX9_good_24 rfl hl (by decide) rfl (fun ls hl => ?_)
    have loop9 : ∀ (k9 : Nat) (y9_3 : Int) (y9_2 : Int) (vl9 arl9 : sI) (all9 : sL) (H : Heap) (locs : List Loc) (ls : Array Slot), (10 - y9_3).toNat = k9 → (0 ≤ y9_3 ∧ y9_3 ≤ 10) → (-2147483648 ≤ y9_2 ∧ y9_2 ≤ 2147483647) → YI vl9 arl9 → (∀ i j : Nat, (i, j) ∉ ([] : List (Nat × Nat)) → vl9 i j = v8 i j) → (∀ i : Nat, i ∉ ([18] : List Nat) → arl9 i = ar8 i) → (∀ i : Nat, i ∉ ([] : List Nat) → all9 i = al8 i) → va_P D xcl (wW ad (yG ad K) 21 vl9 arl9 all9) H → va_S (inW ad 21) s.heap H locs → lv_has ls 4 [(3, .int (iI (y9_3))), (2, .int (iI (y9_2))), (1, .int (iI (z6))), (0, .ref (ad 0))] → W p l e (rmD 36) s m args below meth c H locs 0 0 Q (F0 m 25 ls []) := by
      intro k9
      induction k9 using Nat.strongRecOn with
      | _ k9 ih9 =>
        intro y9_3 y9_2  vl9 arl9 all9 H locs ls hk9 hb_y9_3 hb_y9_2 hI hfr9 hfa9 hfl9 hP hS hl
        refine lv_iload_n hE.1 hE.2.1 dX9_good_25 rfl (lv_at hl 0 rfl) ?_
        refine lv_bipush (v := iI (9)) hE.1 hE.2.1 dX9_good_26 (by decide) ?_
        refine s_icmp_gt (a := y9_3) (b := 9) (tgt := 55) hE.1 hE.2.1 (by omega) (by omega) dX9_good_28 (by decide) (fun c10 => ?_) (fun c10 => ?_)
        · skip
          refine lv_iload_n hE.1 hE.2.1 dX9_good_55 rfl (lv_at hl 1 rfl) ?_
          exact kr _ vl9 arl9 all9 _ _ _ _ rfl ⟨⟨y9_2, by omega, rfl⟩, hI, fun i j h => ((hfr9 i j (fun q => h (mem_sub (by decide) q))).trans ((hq8 i j (fun q => h (mem_sub (by decide) q))).trans (up_oth hv5 (fun q => h (by rcases q with ⟨rfl, rfl⟩; decide))))), fun i h => ((hfa9 i (fun q => h (mem_subn (by decide) q))).trans (hqa8 i (fun q => h (mem_subn (by decide) q)))), fun i h => ((hfl9 i (fun q => h (mem_subn (by decide) q))).trans (hql8 i (fun q => h (mem_subn (by decide) q))))⟩ hP hS dX9_good_56
        · skip
          refine lv_iload_n hE.1 hE.2.1 dX9_good_31 rfl (lv_at hl 1 rfl) ?_
          refine lv_aload_n hE.1 hE.2.1 dX9_good_32 rfl (lv_at hl 3 rfl) ?_
          refine lv_iload_n hE.1 hE.2.1 dX9_good_33 rfl (lv_at hl 0 rfl) ?_
          refine x_vi (nn := 1) (As := [.int (iI (y9_3))]) (rest := [.int (iI (y9_2))]) hE hK hN hP hS (s_X9_winsBy_e l D K ad vl9 arl9 all9 hI (x8_1) (by omega) ((hfr9 0 44 (by decide)).trans ex8_1) (x8_2) (by omega) ((hfr9 0 45 (by decide)).trans ex8_2) (y9_3) (by omega)) (x_recv hK hP 0 (by decide) (yG_9 rfl) rfl) rfl mw_1914 mw_1916 mw_101 mw_123 mw_1917 (by decide +kernel) ⟨by decide, by decide⟩ hl.1 rfl (Nat.le_of_ble_eq_true rfl) ⟨Nat.zero_le _, Nat.zero_le _⟩ dX9_good_34 (fun r11 v11 ar11 al11 H locs hq11 hP hS => ?_)
          obtain ⟨⟨z11, hz11, rfl⟩, hI, hq11, hqa11, hql11⟩ := hq11
          have hI : YI v11 ar11 := hI
          refine s_if_eq (a := z11) (tgt := 46) hE.1 hE.2.1 (by omega) dX9_good_37 (by decide) (fun c12 => ?_) (fun c12 => ?_)
          · skip
            refine lv_iconst (v := iI (0)) hE.1 hE.2.1 dX9_good_46 (by decide) ?_
            refine lv_ior hE.1 hE.2.1 dX9_good_47 ?_
            refine x_top (y := iI (y9_2)) (iI_or0 (y9_2)) ?_
            refine lv_istore_n (lv' := [(2, .int (iI (y9_2))), (3, .int (iI (y9_3))), (1, .int (iI (z6))), (0, .ref (ad 0))]) hE.1 hE.2.1 dX9_good_48 rfl hl (by decide) rfl (fun ls hl => ?_)
            refine lv_iinc (v := iI (y9_3 + 1)) (lv' := [(3, .int (iI (y9_3 + 1))), (2, .int (iI (y9_2))), (1, .int (iI (z6))), (0, .ref (ad 0))]) hE.1 hE.2.1 dX9_good_49 hl (k := 1) rfl ((iI_add (y9_3) (1)).trans (congrArg iI (by omega))) (by decide) rfl (fun ls hl => ?_)
            refine lv_goto (tgt := 25) hE.1 hE.2.1 dX9_good_52 (by decide) ?_
            exact ih9 _ (by omega) (y9_3 + 1) (y9_2)  v11 ar11 al11 _ _ _ rfl (by omega) (by omega)  hI (fun i j h => ((hq11 i j (fun q => h (mem_sub (by decide) q))).trans (hfr9 i j h))) (fun i h => ((hqa11 i (fun q => h (mem_subn (by decide) q))).trans (hfa9 i h))) (fun i h => ((hql11 i (fun q => h (mem_subn (by decide) q))).trans (hfl9 i h))) hP hS (lv_sub hl [0, 1, 2, 3] rfl)
          · skip
            refine lv_iconst (v := iI (1)) hE.1 hE.2.1 dX9_good_40 (by decide) ?_
            refine lv_iload_n hE.1 hE.2.1 dX9_good_41 rfl (lv_at hl 0 rfl) ?_
            refine lv_ishl hE.1 hE.2.1 dX9_good_42 ?_
            obtain ⟨z13, hz13, ez13⟩ := iI_shl9 (a := y9_3) (by omega)
            refine x_top ez13 ?_
            refine lv_goto (tgt := 47) hE.1 hE.2.1 dX9_good_43 (by decide) ?_
            refine lv_ior hE.1 hE.2.1 dX9_good_47 ?_
            obtain ⟨z14, hz14, ez14⟩ := iI_of (iI (y9_2) ||| iI (z13))
            refine x_top ez14 ?_
            refine lv_istore_n (lv' := [(2, .int (iI (z14))), (3, .int (iI (y9_3))), (1, .int (iI (z6))), (0, .ref (ad 0))]) hE.1 hE.2.1 dX9_good_48 rfl hl (by decide) rfl (fun ls hl => ?_)
            refine lv_iinc (v := iI (y9_3 + 1)) (lv' := [(3, .int (iI (y9_3 + 1))), (2, .int (iI (z14))), (1, .int (iI (z6))), (0, .ref (ad 0))]) hE.1 hE.2.1 dX9_good_49 hl (k := 1) rfl ((iI_add (y9_3) (1)).trans (congrArg iI (by omega))) (by decide) rfl (fun ls hl => ?_)
            refine lv_goto (tgt := 25) hE.1 hE.2.1 dX9_good_52 (by decide) ?_
            exact ih9 _ (by omega) (y9_3 + 1) (z14)  v11 ar11 al11 _ _ _ rfl (by omega) (by omega)  hI (fun i j h => ((hq11 i j (fun q => h (mem_sub (by decide) q))).trans (hfr9 i j h))) (fun i h => ((hqa11 i (fun q => h (mem_subn (by decide) q))).trans (hfa9 i h))) (fun i h => ((hql11 i (fun q => h (mem_subn (by decide) q))).trans (hfl9 i h))) hP hS (lv_sub hl [0, 1, 2, 3] rfl)
    exact loop9 _ (0) (0)  v8 ar8 al8 _ _ _ rfl (by omega) (by omega)  hI (fun _ _ _ => rfl) (fun _ _ => rfl) (fun _ _ => rfl) hP hS hl
  · skip
    refine lv_iload_n hE.1 hE.2.1 dX9_good_14 rfl (lv_at hl 0 rfl) ?_
    exact kr _ v5 ar al _ _ _ _ rfl ⟨⟨z6, by omega, rfl⟩, hI, fun i j h => (up_oth hv5 (fun q => h (by rcases q with ⟨rfl, rfl⟩; decide))), fun i h => rfl, fun i h => rfl⟩ hP hS dX9_good_15

theorem dX9_kept_0 : decode cX9_kept 0 = .ok (.aload_n 0, 1) := by decide +kernel
theorem dX9_kept_1 : decode cX9_kept 1 = .ok (.iconst 0, 1) := by decide +kernel
theorem dX9_kept_2 : decode cX9_kept 2 = .ok (.putfield 81, 3) := by decide +kernel
theorem dX9_kept_5 : decode cX9_kept 5 = .ok (.aload_n 0, 1) := by decide +kernel
theorem dX9_kept_6 : decode cX9_kept 6 = .ok (.iload_n 1, 1) := by decide +kernel
theorem dX9_kept_7 : decode cX9_kept 7 = .ok (.i2l, 1) := by decide +kernel
theorem dX9_kept_8 : decode cX9_kept 8 = .ok (.invokevirtual 253, 3) := by decide +kernel
theorem dX9_kept_11 : decode cX9_kept 11 = .ok (.ifCond .eq 16, 3) := by decide +kernel
theorem dX9_kept_14 : decode cX9_kept 14 = .ok (.iload_n 2, 1) := by decide +kernel
theorem dX9_kept_15 : decode cX9_kept 15 = .ok (.iconst (-1), 1) := by decide +kernel
theorem dX9_kept_16 : decode cX9_kept 16 = .ok (.if_icmp .eq 14, 3) := by decide +kernel
theorem dX9_kept_19 : decode cX9_kept 19 = .ok (.aload_n 0, 1) := by decide +kernel
theorem dX9_kept_20 : decode cX9_kept 20 = .ok (.iload_n 2, 1) := by decide +kernel
theorem dX9_kept_21 : decode cX9_kept 21 = .ok (.invokevirtual 313, 3) := by decide +kernel
theorem dX9_kept_24 : decode cX9_kept 24 = .ok (.ifCond .ne 6, 3) := by decide +kernel
theorem dX9_kept_27 : decode cX9_kept 27 = .ok (.bipush (-2), 2) := by decide +kernel
theorem dX9_kept_29 : decode cX9_kept 29 = .ok (.ireturn, 1) := by decide +kernel
theorem dX9_kept_30 : decode cX9_kept 30 = .ok (.aload_n 0, 1) := by decide +kernel
theorem dX9_kept_31 : decode cX9_kept 31 = .ok (.invokevirtual 400, 3) := by decide +kernel
theorem dX9_kept_34 : decode cX9_kept 34 = .ok (.istore_n 3, 1) := by decide +kernel
theorem dX9_kept_35 : decode cX9_kept 35 = .ok (.iload_n 3, 1) := by decide +kernel
theorem dX9_kept_36 : decode cX9_kept 36 = .ok (.ifCond .eq 5, 3) := by decide +kernel
theorem dX9_kept_39 : decode cX9_kept 39 = .ok (.iload_n 3, 1) := by decide +kernel
theorem dX9_kept_40 : decode cX9_kept 40 = .ok (.ireturn, 1) := by decide +kernel
theorem dX9_kept_41 : decode cX9_kept 41 = .ok (.aload_n 0, 1) := by decide +kernel
theorem dX9_kept_42 : decode cX9_kept 42 = .ok (.iload_n 1, 1) := by decide +kernel
theorem dX9_kept_43 : decode cX9_kept 43 = .ok (.bipush 6, 2) := by decide +kernel
theorem dX9_kept_45 : decode cX9_kept 45 = .ok (.invokevirtual 258, 3) := by decide +kernel
theorem dX9_kept_48 : decode cX9_kept 48 = .ok (.istore 4, 2) := by decide +kernel
theorem dX9_kept_50 : decode cX9_kept 50 = .ok (.aload_n 0, 1) := by decide +kernel
theorem dX9_kept_51 : decode cX9_kept 51 = .ok (.getfield 37, 3) := by decide +kernel
theorem dX9_kept_54 : decode cX9_kept 54 = .ok (.bipush 9, 2) := by decide +kernel
theorem dX9_kept_56 : decode cX9_kept 56 = .ok (.iload_n 1, 1) := by decide +kernel
theorem dX9_kept_57 : decode cX9_kept 57 = .ok (.imul, 1) := by decide +kernel
theorem dX9_kept_58 : decode cX9_kept 58 = .ok (.bipush 6, 2) := by decide +kernel
theorem dX9_kept_60 : decode cX9_kept 60 = .ok (.iadd, 1) := by decide +kernel
theorem dX9_kept_61 : decode cX9_kept 61 = .ok (.iload_n 2, 1) := by decide +kernel
theorem dX9_kept_62 : decode cX9_kept 62 = .ok (.iastore, 1) := by decide +kernel
theorem dX9_kept_63 : decode cX9_kept 63 = .ok (.aload_n 0, 1) := by decide +kernel
theorem dX9_kept_64 : decode cX9_kept 64 = .ok (.invokevirtual 403, 3) := by decide +kernel
theorem dX9_kept_67 : decode cX9_kept 67 = .ok (.istore 5, 2) := by decide +kernel
theorem dX9_kept_69 : decode cX9_kept 69 = .ok (.aload_n 0, 1) := by decide +kernel
theorem dX9_kept_70 : decode cX9_kept 70 = .ok (.getfield 37, 3) := by decide +kernel
theorem dX9_kept_73 : decode cX9_kept 73 = .ok (.bipush 9, 2) := by decide +kernel
theorem dX9_kept_75 : decode cX9_kept 75 = .ok (.iload_n 1, 1) := by decide +kernel
theorem dX9_kept_76 : decode cX9_kept 76 = .ok (.imul, 1) := by decide +kernel
theorem dX9_kept_77 : decode cX9_kept 77 = .ok (.bipush 6, 2) := by decide +kernel
theorem dX9_kept_79 : decode cX9_kept 79 = .ok (.iadd, 1) := by decide +kernel
theorem dX9_kept_80 : decode cX9_kept 80 = .ok (.iload 4, 2) := by decide +kernel
theorem dX9_kept_82 : decode cX9_kept 82 = .ok (.iastore, 1) := by decide +kernel
theorem dX9_kept_83 : decode cX9_kept 83 = .ok (.iload 5, 2) := by decide +kernel
theorem dX9_kept_85 : decode cX9_kept 85 = .ok (.bipush 100, 2) := by decide +kernel
theorem dX9_kept_87 : decode cX9_kept 87 = .ok (.if_icmp .le 7, 3) := by decide +kernel
theorem dX9_kept_90 : decode cX9_kept 90 = .ok (.iconst 1, 1) := by decide +kernel
theorem dX9_kept_91 : decode cX9_kept 91 = .ok (.goto 4, 3) := by decide +kernel
theorem dX9_kept_94 : decode cX9_kept 94 = .ok (.iconst 0, 1) := by decide +kernel
theorem dX9_kept_95 : decode cX9_kept 95 = .ok (.ireturn, 1) := by decide +kernel
set_option maxHeartbeats 4000000 in
set_option maxRecDepth 100000 in
theorem s_X9_kept (l : Launch) (D : va_G) (K : Nat → ClassId) (ad : Nat → Nat) (v ar : sI) (al : sL) (hI : YI v ar) (z_1 : Int) (hz_1 : -2147483648 ≤ z_1 ∧ z_1 ≤ 2147483647) (z_2 : Int) (hz_2 : -2147483648 ≤ z_2 ∧ z_2 ≤ 2147483647) : Met l yX9_kept (wM yX9_kept cX9_kept 6 (some .int)) (rmD 36) (va_Pc [.ref (ad 0), .int (iI (z_1)), .int (iI (z_2))] (wPre D K ad (yG ad K) 21 v ar al)) (va_Qi (fun (r : Int32) (u : sT) => (∃ z : Int, (-2147483648 ≤ z ∧ z ≤ 2147483647) ∧ r = iI z) ∧ YI u.1 u.2.1 ∧ (∀ i j : Nat, (i, j) ∉ ([(0, 0), (0, 24), (0, 25), (0, 26), (0, 27), (0, 44), (0, 45)] : List (Nat × Nat)) → u.1 i j = v i j) ∧ (∀ i : Nat, i ∉ ([8, 12, 13, 14, 18] : List Nat) → u.2.1 i = ar i) ∧ (∀ i : Nat, i ∉ ([] : List Nat) → u.2.2 i = al i)) (wB D ad (yG ad K) 21) (inW ad 21)) 0 0 (inW ad 21) := by
  refine s_metI (by decide) (Nat.le_of_ble_eq_true rfl) ?_
  intro p e s m below meth c ls args Q hE hB hl kr
  have hE : CallFix p m c cX9_kept 6 s args tbG "TaleCourtModel" := hE
  obtain ⟨hP, hK, hN⟩ := hB
  have hS : va_S (inW ad 21) s.heap s.heap [] := va_S.rf
  have hl : lv_has ls 6 [(0, .ref (ad 0)), (1, .int (iI (z_1))), (2, .int (iI (z_2)))] := hl
  obtain ⟨z1, hz1, ez1⟩ := iI_of (ar 6 0)
  obtain ⟨z2, hz2, ez2⟩ := YI_h2 hI 2 (by decide)
  obtain ⟨z3, hz3, ez3⟩ := YI_h5 hI 5 (by decide)
  obtain ⟨z4, hz4, ez4⟩ := YI_h0 hI 0 (by decide)
  have ht0 := YI_t0 hI ez1 (by omega) ez2 (by omega) ez3 (by omega) ez4 (by omega)
  refine lv_aload_n hE.1 hE.2.1 dX9_kept_0 rfl (lv_at hl 0 rfl) ?_
  refine lv_iconst (v := iI (0)) hE.1 hE.2.1 dX9_kept_1 (by decide) ?_
  refine x_put (x := iI (0)) hE hK hN hP hS 0 (by decide) (yG_9 rfl) rfl hin9 tyX9 tyX9_ok nmX9 0 (by decide) mw_1334 rfl rfl rfl (Nat.le_of_ble_eq_true rfl) (yG_9 rfl) dX9_kept_2 (fun v5 H locs hv5 hP hS => ?_)
  have hI := YI_putN hI hv5 (by decide)
  refine lv_aload_n hE.1 hE.2.1 dX9_kept_5 rfl (lv_at hl 0 rfl) ?_
  refine lv_iload_n hE.1 hE.2.1 dX9_kept_6 rfl (lv_at hl 1 rfl) ?_
  refine lv_i2l (v := lI (z_1)) hE.1 hE.2.1 dX9_kept_7 (iI_i2l (by omega)) ?_
  refine x_vp (nn := 1) (As := [.long (lI (z_1))]) (rest := []) hE (s_X9_isMotif l D K ad v5 ar al hI (z2) (by omega) ez2 (z_1) (by omega)) wPre_blind (wPre_now hK hN hP) (x_recv hK hP 0 (by decide) (yG_9 rfl) rfl) rfl mw_1662 mw_1664 mw_74 mw_123 mw_1665 (by decide +kernel) ⟨by decide, by decide⟩ hl.1 rfl (Nat.le_of_ble_eq_true rfl) ⟨Nat.zero_le _, Nat.zero_le _⟩ dX9_kept_8 (fun r6 hr6 => ?_)
  obtain ⟨z6, hz6, rfl⟩ := hr6
  refine s_if_eq (a := z6) (tgt := 27) hE.1 hE.2.1 (by omega) dX9_kept_11 (by decide) (fun c7 => ?_) (fun c7 => ?_)
  · skip
    refine lv_bipush (v := iI (-2)) hE.1 hE.2.1 dX9_kept_27 (by decide) ?_
    exact kr _ v5 ar al _ _ _ _ rfl ⟨⟨-2, by omega, rfl⟩, hI, fun i j h => (up_oth hv5 (fun q => h (by rcases q with ⟨rfl, rfl⟩; decide))), fun i h => rfl, fun i h => rfl⟩ hP hS dX9_kept_29
  · skip
    refine lv_iload_n hE.1 hE.2.1 dX9_kept_14 rfl (lv_at hl 2 rfl) ?_
    refine lv_iconst (v := iI (-1)) hE.1 hE.2.1 dX9_kept_15 (by decide) ?_
    refine s_icmp_eq (a := z_2) (b := -1) (tgt := 30) hE.1 hE.2.1 (by omega) (by omega) dX9_kept_16 (by decide) (fun c8 => ?_) (fun c8 => ?_)
    · skip
      refine lv_aload_n hE.1 hE.2.1 dX9_kept_30 rfl (lv_at hl 0 rfl) ?_
      refine x_vp (nn := 0) (As := []) (rest := []) hE (s_X9_whyNoGame l D K ad v5 ar al hI (z1) (by omega) ez1 (z4) (by omega) ez4 ) wPre_blind (wPre_now hK hN hP) (x_recv hK hP 0 (by decide) (yG_9 rfl) rfl) rfl mw_1879 mw_1881 mw_94 mw_123 mw_1882 (by decide +kernel) ⟨by decide, by decide⟩ hl.1 rfl (Nat.le_of_ble_eq_true rfl) ⟨Nat.zero_le _, Nat.zero_le _⟩ dX9_kept_31 (fun r9 hr9 => ?_)
      obtain ⟨z9, hz9, rfl⟩ := hr9
      refine lv_istore_n (lv' := [(3, .int (iI (z9))), (0, .ref (ad 0)), (1, .int (iI (z_1))), (2, .int (iI (z_2)))]) hE.1 hE.2.1 dX9_kept_34 rfl hl (by decide) rfl (fun ls hl => ?_)
      refine lv_iload_n hE.1 hE.2.1 dX9_kept_35 rfl (lv_at hl 0 rfl) ?_
      refine s_if_eq (a := z9) (tgt := 41) hE.1 hE.2.1 (by omega) dX9_kept_36 (by decide) (fun c10 => ?_) (fun c10 => ?_)
      · skip
        refine lv_aload_n hE.1 hE.2.1 dX9_kept_41 rfl (lv_at hl 1 rfl) ?_
        refine lv_iload_n hE.1 hE.2.1 dX9_kept_42 rfl (lv_at hl 2 rfl) ?_
        refine lv_bipush (v := iI (6)) hE.1 hE.2.1 dX9_kept_43 (by decide) ?_
        refine x_vp (nn := 2) (As := [.int (iI (z_1)), .int (iI (6))]) (rest := []) hE (s_X9_of l D K ad v5 ar al hI  (z_1) (by omega) (6) (by omega)) wPre_blind (wPre_now hK hN hP) (x_recv hK hP 0 (by decide) (yG_9 rfl) rfl) rfl mw_1654 mw_1656 mw_73 mw_123 mw_1657 (by decide +kernel) ⟨by decide, by decide⟩ hl.1 rfl (Nat.le_of_ble_eq_true rfl) ⟨Nat.zero_le _, Nat.zero_le _⟩ dX9_kept_45 (fun r11 hr11 => ?_)
        obtain ⟨z11, hz11, rfl⟩ := hr11
        refine lv_istore (lv' := [(4, .int (iI (z11))), (3, .int (iI (z9))), (0, .ref (ad 0)), (1, .int (iI (z_1))), (2, .int (iI (z_2)))]) hE.1 hE.2.1 dX9_kept_48 hl (by decide) rfl (fun ls hl => ?_)
        refine lv_aload_n hE.1 hE.2.1 dX9_kept_50 rfl (lv_at hl 2 rfl) ?_
        refine x_get (x := .ref (ad 8)) hE hK hP 0 (by decide) (yG_9 rfl) rfl hin9 18 (by decide) mw_1352 rfl dX9_kept_51 ?_
        refine lv_bipush (v := iI (9)) hE.1 hE.2.1 dX9_kept_54 (by decide) ?_
        refine lv_iload_n hE.1 hE.2.1 dX9_kept_56 rfl (lv_at hl 3 rfl) ?_
        refine lv_imul hE.1 hE.2.1 dX9_kept_57 ?_
        refine x_top (y := iI (9 * z_1)) ((iI_mul (9) (z_1)).trans (congrArg iI (by omega))) ?_
        refine lv_bipush (v := iI (6)) hE.1 hE.2.1 dX9_kept_58 (by decide) ?_
        refine lv_iadd hE.1 hE.2.1 dX9_kept_60 ?_
        refine x_top (y := iI (9 * z_1 + 6)) ((iI_add (9 * z_1) (6)).trans (congrArg iI (by omega))) ?_
        refine lv_iload_n hE.1 hE.2.1 dX9_kept_61 rfl (lv_at hl 4 rfl) ?_
        refine x_iast (j := iI (9 * z_1 + 6)) hE hK hN hP hS 8 (by decide) (fun _ => yG_10 rfl) (iI_in (n := 405) (by omega)) dX9_kept_62 (fun ar12 H locs ha12 hP hS => ?_)
        have hI := YI_ast hI ha12 (by decide)
        refine lv_aload_n hE.1 hE.2.1 dX9_kept_63 rfl (lv_at hl 2 rfl) ?_
        refine x_vi (nn := 0) (As := []) (rest := []) hE hK hN hP hS (s_X9_outcomeNow_e l D K ad v5 ar12 al hI  ) (x_recv hK hP 0 (by decide) (yG_9 rfl) rfl) rfl mw_1883 mw_1885 mw_95 mw_123 mw_1886 (by decide +kernel) ⟨by decide, by decide⟩ hl.1 rfl (Nat.le_of_ble_eq_true rfl) ⟨Nat.zero_le _, Nat.zero_le _⟩ dX9_kept_64 (fun r13 v13 ar13 al13 H locs hq13 hP hS => ?_)
        obtain ⟨⟨z13, hz13, rfl⟩, hI, hq13, hqa13, hql13, x13_1, x13_2, hx13, ex13_1, ex13_2⟩ := hq13
        have hI : YI v13 ar13 := hI
        refine lv_istore (lv' := [(5, .int (iI (z13))), (4, .int (iI (z11))), (3, .int (iI (z9))), (0, .ref (ad 0)), (1, .int (iI (z_1))), (2, .int (iI (z_2)))]) hE.1 hE.2.1 dX9_kept_67 hl (by decide) rfl (fun ls hl => ?_)
        refine lv_aload_n hE.1 hE.2.1 dX9_kept_69 rfl (lv_at hl 3 rfl) ?_
        refine x_get (x := .ref (ad 8)) hE hK hP 0 (by decide) (yG_9 rfl) rfl hin9 18 (by decide) mw_1352 rfl dX9_kept_70 ?_
        refine lv_bipush (v := iI (9)) hE.1 hE.2.1 dX9_kept_73 (by decide) ?_
        refine lv_iload_n hE.1 hE.2.1 dX9_kept_75 rfl (lv_at hl 4 rfl) ?_
        refine lv_imul hE.1 hE.2.1 dX9_kept_76 ?_
        refine x_top (y := iI (9 * z_1)) ((iI_mul (9) (z_1)).trans (congrArg iI (by omega))) ?_
        refine lv_bipush (v := iI (6)) hE.1 hE.2.1 dX9_kept_77 (by decide) ?_
        refine lv_iadd hE.1 hE.2.1 dX9_kept_79 ?_
        refine x_top (y := iI (9 * z_1 + 6)) ((iI_add (9 * z_1) (6)).trans (congrArg iI (by omega))) ?_
        refine lv_iload hE.1 hE.2.1 dX9_kept_80 (lv_at hl 1 rfl) ?_
        refine x_iast (j := iI (9 * z_1 + 6)) hE hK hN hP hS 8 (by decide) (fun _ => yG_10 rfl) (iI_in (n := 405) (by omega)) dX9_kept_82 (fun ar14 H locs ha14 hP hS => ?_)
        have hI := YI_ast hI ha14 (by decide)
        refine lv_iload hE.1 hE.2.1 dX9_kept_83 (lv_at hl 0 rfl) ?_
        refine lv_bipush (v := iI (100)) hE.1 hE.2.1 dX9_kept_85 (by decide) ?_
        refine s_icmp_le (a := z13) (b := 100) (tgt := 94) hE.1 hE.2.1 (by omega) (by omega) dX9_kept_87 (by decide) (fun c15 => ?_) (fun c15 => ?_)
        · skip
          refine lv_iconst (v := iI (0)) hE.1 hE.2.1 dX9_kept_94 (by decide) ?_
          exact kr _ v13 ar14 al13 _ _ _ _ rfl ⟨⟨0, by omega, rfl⟩, hI, fun i j h => ((hq13 i j (fun q => h (mem_sub (by decide) q))).trans (up_oth hv5 (fun q => h (by rcases q with ⟨rfl, rfl⟩; decide)))), fun i h => ((upx_ne ha14 i (fun q => h (by rw [q]; decide))).trans ((hqa13 i (fun q => h (mem_subn (by decide) q))).trans (upx_ne ha12 i (fun q => h (by rw [q]; decide))))), fun i h => (hql13 i (fun q => h (mem_subn (by decide) q)))⟩ hP hS dX9_kept_95
        · skip
          refine lv_iconst (v := iI (1)) hE.1 hE.2.1 dX9_kept_90 (by decide) ?_
          refine lv_goto (tgt := 95) hE.1 hE.2.1 dX9_kept_91 (by decide) ?_
          exact kr _ v13 ar14 al13 _ _ _ _ rfl ⟨⟨1, by omega, rfl⟩, hI, fun i j h => ((hq13 i j (fun q => h (mem_sub (by decide) q))).trans (up_oth hv5 (fun q => h (by rcases q with ⟨rfl, rfl⟩; decide)))), fun i h => ((upx_ne ha14 i (fun q => h (by rw [q]; decide))).trans ((hqa13 i (fun q => h (mem_subn (by decide) q))).trans (upx_ne ha12 i (fun q => h (by rw [q]; decide))))), fun i h => (hql13 i (fun q => h (mem_subn (by decide) q)))⟩ hP hS dX9_kept_95
      · skip
        refine lv_iload_n hE.1 hE.2.1 dX9_kept_39 rfl (lv_at hl 0 rfl) ?_
        exact kr _ v5 ar al _ _ _ _ rfl ⟨⟨z9, by omega, rfl⟩, hI, fun i j h => (up_oth hv5 (fun q => h (by rcases q with ⟨rfl, rfl⟩; decide))), fun i h => rfl, fun i h => rfl⟩ hP hS dX9_kept_40
    · skip
      refine lv_aload_n hE.1 hE.2.1 dX9_kept_19 rfl (lv_at hl 0 rfl) ?_
      refine lv_iload_n hE.1 hE.2.1 dX9_kept_20 rfl (lv_at hl 2 rfl) ?_
      refine x_vp (nn := 1) (As := [.int (iI (z_2))]) (rest := []) hE (s_X9_isTeller l D K ad v5 ar al hI (z4) (by omega) ez4 (z_2) (by omega)) wPre_blind (wPre_now hK hN hP) (x_recv hK hP 0 (by decide) (yG_9 rfl) rfl) rfl mw_1786 mw_1788 mw_84 mw_123 mw_1789 (by decide +kernel) ⟨by decide, by decide⟩ hl.1 rfl (Nat.le_of_ble_eq_true rfl) ⟨Nat.zero_le _, Nat.zero_le _⟩ dX9_kept_21 (fun r16 hr16 => ?_)
      obtain ⟨z16, hz16, rfl⟩ := hr16
      refine s_if_ne (a := z16) (tgt := 30) hE.1 hE.2.1 (by omega) dX9_kept_24 (by decide) (fun c17 => ?_) (fun c17 => ?_)
      · skip
        refine lv_aload_n hE.1 hE.2.1 dX9_kept_30 rfl (lv_at hl 0 rfl) ?_
        refine x_vp (nn := 0) (As := []) (rest := []) hE (s_X9_whyNoGame l D K ad v5 ar al hI (z1) (by omega) ez1 (z4) (by omega) ez4 ) wPre_blind (wPre_now hK hN hP) (x_recv hK hP 0 (by decide) (yG_9 rfl) rfl) rfl mw_1879 mw_1881 mw_94 mw_123 mw_1882 (by decide +kernel) ⟨by decide, by decide⟩ hl.1 rfl (Nat.le_of_ble_eq_true rfl) ⟨Nat.zero_le _, Nat.zero_le _⟩ dX9_kept_31 (fun r18 hr18 => ?_)
        obtain ⟨z18, hz18, rfl⟩ := hr18
        refine lv_istore_n (lv' := [(3, .int (iI (z18))), (0, .ref (ad 0)), (1, .int (iI (z_1))), (2, .int (iI (z_2)))]) hE.1 hE.2.1 dX9_kept_34 rfl hl (by decide) rfl (fun ls hl => ?_)
        refine lv_iload_n hE.1 hE.2.1 dX9_kept_35 rfl (lv_at hl 0 rfl) ?_
        refine s_if_eq (a := z18) (tgt := 41) hE.1 hE.2.1 (by omega) dX9_kept_36 (by decide) (fun c19 => ?_) (fun c19 => ?_)
        · skip
          refine lv_aload_n hE.1 hE.2.1 dX9_kept_41 rfl (lv_at hl 1 rfl) ?_
          refine lv_iload_n hE.1 hE.2.1 dX9_kept_42 rfl (lv_at hl 2 rfl) ?_
          refine lv_bipush (v := iI (6)) hE.1 hE.2.1 dX9_kept_43 (by decide) ?_
          refine x_vp (nn := 2) (As := [.int (iI (z_1)), .int (iI (6))]) (rest := []) hE (s_X9_of l D K ad v5 ar al hI  (z_1) (by omega) (6) (by omega)) wPre_blind (wPre_now hK hN hP) (x_recv hK hP 0 (by decide) (yG_9 rfl) rfl) rfl mw_1654 mw_1656 mw_73 mw_123 mw_1657 (by decide +kernel) ⟨by decide, by decide⟩ hl.1 rfl (Nat.le_of_ble_eq_true rfl) ⟨Nat.zero_le _, Nat.zero_le _⟩ dX9_kept_45 (fun r20 hr20 => ?_)
          obtain ⟨z20, hz20, rfl⟩ := hr20
          refine lv_istore (lv' := [(4, .int (iI (z20))), (3, .int (iI (z18))), (0, .ref (ad 0)), (1, .int (iI (z_1))), (2, .int (iI (z_2)))]) hE.1 hE.2.1 dX9_kept_48 hl (by decide) rfl (fun ls hl => ?_)
          refine lv_aload_n hE.1 hE.2.1 dX9_kept_50 rfl (lv_at hl 2 rfl) ?_
          refine x_get (x := .ref (ad 8)) hE hK hP 0 (by decide) (yG_9 rfl) rfl hin9 18 (by decide) mw_1352 rfl dX9_kept_51 ?_
          refine lv_bipush (v := iI (9)) hE.1 hE.2.1 dX9_kept_54 (by decide) ?_
          refine lv_iload_n hE.1 hE.2.1 dX9_kept_56 rfl (lv_at hl 3 rfl) ?_
          refine lv_imul hE.1 hE.2.1 dX9_kept_57 ?_
          refine x_top (y := iI (9 * z_1)) ((iI_mul (9) (z_1)).trans (congrArg iI (by omega))) ?_
          refine lv_bipush (v := iI (6)) hE.1 hE.2.1 dX9_kept_58 (by decide) ?_
          refine lv_iadd hE.1 hE.2.1 dX9_kept_60 ?_
          refine x_top (y := iI (9 * z_1 + 6)) ((iI_add (9 * z_1) (6)).trans (congrArg iI (by omega))) ?_
          refine lv_iload_n hE.1 hE.2.1 dX9_kept_61 rfl (lv_at hl 4 rfl) ?_
          refine x_iast (j := iI (9 * z_1 + 6)) hE hK hN hP hS 8 (by decide) (fun _ => yG_10 rfl) (iI_in (n := 405) (by omega)) dX9_kept_62 (fun ar21 H locs ha21 hP hS => ?_)
          have hI := YI_ast hI ha21 (by decide)
          refine lv_aload_n hE.1 hE.2.1 dX9_kept_63 rfl (lv_at hl 2 rfl) ?_
          refine x_vi (nn := 0) (As := []) (rest := []) hE hK hN hP hS (s_X9_outcomeNow_e l D K ad v5 ar21 al hI  ) (x_recv hK hP 0 (by decide) (yG_9 rfl) rfl) rfl mw_1883 mw_1885 mw_95 mw_123 mw_1886 (by decide +kernel) ⟨by decide, by decide⟩ hl.1 rfl (Nat.le_of_ble_eq_true rfl) ⟨Nat.zero_le _, Nat.zero_le _⟩ dX9_kept_64 (fun r22 v22 ar22 al22 H locs hq22 hP hS => ?_)
          obtain ⟨⟨z22, hz22, rfl⟩, hI, hq22, hqa22, hql22, x22_1, x22_2, hx22, ex22_1, ex22_2⟩ := hq22
          have hI : YI v22 ar22 := hI
          refine lv_istore (lv' := [(5, .int (iI (z22))), (4, .int (iI (z20))), (3, .int (iI (z18))), (0, .ref (ad 0)), (1, .int (iI (z_1))), (2, .int (iI (z_2)))]) hE.1 hE.2.1 dX9_kept_67 hl (by decide) rfl (fun ls hl => ?_)
          refine lv_aload_n hE.1 hE.2.1 dX9_kept_69 rfl (lv_at hl 3 rfl) ?_
          refine x_get (x := .ref (ad 8)) hE hK hP 0 (by decide) (yG_9 rfl) rfl hin9 18 (by decide) mw_1352 rfl dX9_kept_70 ?_
          refine lv_bipush (v := iI (9)) hE.1 hE.2.1 dX9_kept_73 (by decide) ?_
          refine lv_iload_n hE.1 hE.2.1 dX9_kept_75 rfl (lv_at hl 4 rfl) ?_
          refine lv_imul hE.1 hE.2.1 dX9_kept_76 ?_
          refine x_top (y := iI (9 * z_1)) ((iI_mul (9) (z_1)).trans (congrArg iI (by omega))) ?_
          refine lv_bipush (v := iI (6)) hE.1 hE.2.1 dX9_kept_77 (by decide) ?_
          refine lv_iadd hE.1 hE.2.1 dX9_kept_79 ?_
          refine x_top (y := iI (9 * z_1 + 6)) ((iI_add (9 * z_1) (6)).trans (congrArg iI (by omega))) ?_
          refine lv_iload hE.1 hE.2.1 dX9_kept_80 (lv_at hl 1 rfl) ?_
          refine x_iast (j := iI (9 * z_1 + 6)) hE hK hN hP hS 8 (by decide) (fun _ => yG_10 rfl) (iI_in (n := 405) (by omega)) dX9_kept_82 (fun ar23 H locs ha23 hP hS => ?_)
          have hI := YI_ast hI ha23 (by decide)
          refine lv_iload hE.1 hE.2.1 dX9_kept_83 (lv_at hl 0 rfl) ?_
          refine lv_bipush (v := iI (100)) hE.1 hE.2.1 dX9_kept_85 (by decide) ?_
          refine s_icmp_le (a := z22) (b := 100) (tgt := 94) hE.1 hE.2.1 (by omega) (by omega) dX9_kept_87 (by decide) (fun c24 => ?_) (fun c24 => ?_)
          · skip
            refine lv_iconst (v := iI (0)) hE.1 hE.2.1 dX9_kept_94 (by decide) ?_
            exact kr _ v22 ar23 al22 _ _ _ _ rfl ⟨⟨0, by omega, rfl⟩, hI, fun i j h => ((hq22 i j (fun q => h (mem_sub (by decide) q))).trans (up_oth hv5 (fun q => h (by rcases q with ⟨rfl, rfl⟩; decide)))), fun i h => ((upx_ne ha23 i (fun q => h (by rw [q]; decide))).trans ((hqa22 i (fun q => h (mem_subn (by decide) q))).trans (upx_ne ha21 i (fun q => h (by rw [q]; decide))))), fun i h => (hql22 i (fun q => h (mem_subn (by decide) q)))⟩ hP hS dX9_kept_95
          · skip
            refine lv_iconst (v := iI (1)) hE.1 hE.2.1 dX9_kept_90 (by decide) ?_
            refine lv_goto (tgt := 95) hE.1 hE.2.1 dX9_kept_91 (by decide) ?_
            exact kr _ v22 ar23 al22 _ _ _ _ rfl ⟨⟨1, by omega, rfl⟩, hI, fun i j h => ((hq22 i j (fun q => h (mem_sub (by decide) q))).trans (up_oth hv5 (fun q => h (by rcases q with ⟨rfl, rfl⟩; decide)))), fun i h => ((upx_ne ha23 i (fun q => h (by rw [q]; decide))).trans ((hqa22 i (fun q => h (mem_subn (by decide) q))).trans (upx_ne ha21 i (fun q => h (by rw [q]; decide))))), fun i h => (hql22 i (fun q => h (mem_subn (by decide) q)))⟩ hP hS dX9_kept_95
        · skip
          refine lv_iload_n hE.1 hE.2.1 dX9_kept_39 rfl (lv_at hl 0 rfl) ?_
          exact kr _ v5 ar al _ _ _ _ rfl ⟨⟨z18, by omega, rfl⟩, hI, fun i j h => (up_oth hv5 (fun q => h (by rcases q with ⟨rfl, rfl⟩; decide))), fun i h => rfl, fun i h => rfl⟩ hP hS dX9_kept_40
      · skip
        refine lv_bipush (v := iI (-2)) hE.1 hE.2.1 dX9_kept_27 (by decide) ?_
        exact kr _ v5 ar al _ _ _ _ rfl ⟨⟨-2, by omega, rfl⟩, hI, fun i j h => (up_oth hv5 (fun q => h (by rcases q with ⟨rfl, rfl⟩; decide))), fun i h => rfl, fun i h => rfl⟩ hP hS dX9_kept_29

theorem dX9_changes_0 : decode cX9_changes 0 = .ok (.aload_n 0, 1) := by decide +kernel
theorem dX9_changes_1 : decode cX9_changes 1 = .ok (.iload_n 1, 1) := by decide +kernel
theorem dX9_changes_2 : decode cX9_changes 2 = .ok (.bipush 6, 2) := by decide +kernel
theorem dX9_changes_4 : decode cX9_changes 4 = .ok (.invokevirtual 258, 3) := by decide +kernel
theorem dX9_changes_7 : decode cX9_changes 7 = .ok (.istore_n 3, 1) := by decide +kernel
theorem dX9_changes_8 : decode cX9_changes 8 = .ok (.aload_n 0, 1) := by decide +kernel
theorem dX9_changes_9 : decode cX9_changes 9 = .ok (.getfield 37, 3) := by decide +kernel
theorem dX9_changes_12 : decode cX9_changes 12 = .ok (.bipush 9, 2) := by decide +kernel
theorem dX9_changes_14 : decode cX9_changes 14 = .ok (.iload_n 1, 1) := by decide +kernel
theorem dX9_changes_15 : decode cX9_changes 15 = .ok (.imul, 1) := by decide +kernel
theorem dX9_changes_16 : decode cX9_changes 16 = .ok (.bipush 6, 2) := by decide +kernel
theorem dX9_changes_18 : decode cX9_changes 18 = .ok (.iadd, 1) := by decide +kernel
theorem dX9_changes_19 : decode cX9_changes 19 = .ok (.aload_n 0, 1) := by decide +kernel
theorem dX9_changes_20 : decode cX9_changes 20 = .ok (.iload_n 2, 1) := by decide +kernel
theorem dX9_changes_21 : decode cX9_changes 21 = .ok (.bipush 6, 2) := by decide +kernel
theorem dX9_changes_23 : decode cX9_changes 23 = .ok (.invokevirtual 258, 3) := by decide +kernel
theorem dX9_changes_26 : decode cX9_changes 26 = .ok (.iastore, 1) := by decide +kernel
theorem dX9_changes_27 : decode cX9_changes 27 = .ok (.aload_n 0, 1) := by decide +kernel
theorem dX9_changes_28 : decode cX9_changes 28 = .ok (.getfield 37, 3) := by decide +kernel
theorem dX9_changes_31 : decode cX9_changes 31 = .ok (.bipush 9, 2) := by decide +kernel
theorem dX9_changes_33 : decode cX9_changes 33 = .ok (.iload_n 2, 1) := by decide +kernel
theorem dX9_changes_34 : decode cX9_changes 34 = .ok (.imul, 1) := by decide +kernel
theorem dX9_changes_35 : decode cX9_changes 35 = .ok (.bipush 6, 2) := by decide +kernel
theorem dX9_changes_37 : decode cX9_changes 37 = .ok (.iadd, 1) := by decide +kernel
theorem dX9_changes_38 : decode cX9_changes 38 = .ok (.iload_n 3, 1) := by decide +kernel
theorem dX9_changes_39 : decode cX9_changes 39 = .ok (.iastore, 1) := by decide +kernel
theorem dX9_changes_40 : decode cX9_changes 40 = .ok (.return_, 1) := by decide +kernel
set_option maxHeartbeats 4000000 in
set_option maxRecDepth 100000 in
theorem s_X9_changes_e (l : Launch) (D : va_G) (K : Nat → ClassId) (ad : Nat → Nat) (v ar : sI) (al : sL) (hI : YI v ar) (z_1 : Int) (hz_1 : 0 ≤ z_1 ∧ z_1 ≤ 8) (z_2 : Int) (hz_2 : 0 ≤ z_2 ∧ z_2 ≤ 8) : Met l yX9_changes (wM yX9_changes cX9_changes 4 none) (rmD 1) (va_Pc [.ref (ad 0), .int (iI (z_1)), .int (iI (z_2))] (wPre D K ad (yG ad K) 21 v ar al)) (va_Qv (fun u : sT => YI u.1 u.2.1 ∧ (∀ i j : Nat, (i, j) ∉ ([] : List (Nat × Nat)) → u.1 i j = v i j) ∧ (∀ i : Nat, i ∉ ([8] : List Nat) → u.2.1 i = ar i) ∧ (∀ i : Nat, i ∉ ([] : List Nat) → u.2.2 i = al i)) (wB D ad (yG ad K) 21) (inW ad 21)) 0 0 (inW ad 21) := by
  refine s_metV (by decide) (Nat.le_of_ble_eq_true rfl) ?_
  intro p e s m below meth c ls args Q hE hB hl kr
  have hE : CallFix p m c cX9_changes 4 s args tbG "TaleCourtModel" := hE
  obtain ⟨hP, hK, hN⟩ := hB
  have hS : va_S (inW ad 21) s.heap s.heap [] := va_S.rf
  have hl : lv_has ls 4 [(0, .ref (ad 0)), (1, .int (iI (z_1))), (2, .int (iI (z_2)))] := hl
  refine lv_aload_n hE.1 hE.2.1 dX9_changes_0 rfl (lv_at hl 0 rfl) ?_
  refine lv_iload_n hE.1 hE.2.1 dX9_changes_1 rfl (lv_at hl 1 rfl) ?_
  refine lv_bipush (v := iI (6)) hE.1 hE.2.1 dX9_changes_2 (by decide) ?_
  refine x_vp (nn := 2) (As := [.int (iI (z_1)), .int (iI (6))]) (rest := []) hE (s_X9_of l D K ad v ar al hI  (z_1) (by omega) (6) (by omega)) wPre_blind (wPre_now hK hN hP) (x_recv hK hP 0 (by decide) (yG_9 rfl) rfl) rfl mw_1654 mw_1656 mw_73 mw_123 mw_1657 (by decide +kernel) ⟨by decide, by decide⟩ hl.1 rfl (Nat.le_of_ble_eq_true rfl) ⟨Nat.zero_le _, Nat.zero_le _⟩ dX9_changes_4 (fun r1 hr1 => ?_)
  obtain ⟨z1, hz1, rfl⟩ := hr1
  refine lv_istore_n (lv' := [(3, .int (iI (z1))), (0, .ref (ad 0)), (1, .int (iI (z_1))), (2, .int (iI (z_2)))]) hE.1 hE.2.1 dX9_changes_7 rfl hl (by decide) rfl (fun ls hl => ?_)
  refine lv_aload_n hE.1 hE.2.1 dX9_changes_8 rfl (lv_at hl 1 rfl) ?_
  refine x_get (x := .ref (ad 8)) hE hK hP 0 (by decide) (yG_9 rfl) rfl hin9 18 (by decide) mw_1352 rfl dX9_changes_9 ?_
  refine lv_bipush (v := iI (9)) hE.1 hE.2.1 dX9_changes_12 (by decide) ?_
  refine lv_iload_n hE.1 hE.2.1 dX9_changes_14 rfl (lv_at hl 2 rfl) ?_
  refine lv_imul hE.1 hE.2.1 dX9_changes_15 ?_
  refine x_top (y := iI (9 * z_1)) ((iI_mul (9) (z_1)).trans (congrArg iI (by omega))) ?_
  refine lv_bipush (v := iI (6)) hE.1 hE.2.1 dX9_changes_16 (by decide) ?_
  refine lv_iadd hE.1 hE.2.1 dX9_changes_18 ?_
  refine x_top (y := iI (9 * z_1 + 6)) ((iI_add (9 * z_1) (6)).trans (congrArg iI (by omega))) ?_
  refine lv_aload_n hE.1 hE.2.1 dX9_changes_19 rfl (lv_at hl 1 rfl) ?_
  refine lv_iload_n hE.1 hE.2.1 dX9_changes_20 rfl (lv_at hl 3 rfl) ?_
  refine lv_bipush (v := iI (6)) hE.1 hE.2.1 dX9_changes_21 (by decide) ?_
  refine x_vp (nn := 2) (As := [.int (iI (z_2)), .int (iI (6))]) (rest := [.int (iI (9 * z_1 + 6)), .ref (ad 8)]) hE (s_X9_of l D K ad v ar al hI  (z_2) (by omega) (6) (by omega)) wPre_blind (wPre_now hK hN hP) (x_recv hK hP 0 (by decide) (yG_9 rfl) rfl) rfl mw_1654 mw_1656 mw_73 mw_123 mw_1657 (by decide +kernel) ⟨by decide, by decide⟩ hl.1 rfl (Nat.le_of_ble_eq_true rfl) ⟨Nat.zero_le _, Nat.zero_le _⟩ dX9_changes_23 (fun r2 hr2 => ?_)
  obtain ⟨z2, hz2, rfl⟩ := hr2
  refine x_iast (j := iI (9 * z_1 + 6)) hE hK hN hP hS 8 (by decide) (fun _ => yG_10 rfl) (iI_in (n := 405) (by omega)) dX9_changes_26 (fun ar3 H locs ha3 hP hS => ?_)
  have hI := YI_ast hI ha3 (by decide)
  refine lv_aload_n hE.1 hE.2.1 dX9_changes_27 rfl (lv_at hl 1 rfl) ?_
  refine x_get (x := .ref (ad 8)) hE hK hP 0 (by decide) (yG_9 rfl) rfl hin9 18 (by decide) mw_1352 rfl dX9_changes_28 ?_
  refine lv_bipush (v := iI (9)) hE.1 hE.2.1 dX9_changes_31 (by decide) ?_
  refine lv_iload_n hE.1 hE.2.1 dX9_changes_33 rfl (lv_at hl 3 rfl) ?_
  refine lv_imul hE.1 hE.2.1 dX9_changes_34 ?_
  refine x_top (y := iI (9 * z_2)) ((iI_mul (9) (z_2)).trans (congrArg iI (by omega))) ?_
  refine lv_bipush (v := iI (6)) hE.1 hE.2.1 dX9_changes_35 (by decide) ?_
  refine lv_iadd hE.1 hE.2.1 dX9_changes_37 ?_
  refine x_top (y := iI (9 * z_2 + 6)) ((iI_add (9 * z_2) (6)).trans (congrArg iI (by omega))) ?_
  refine lv_iload_n hE.1 hE.2.1 dX9_changes_38 rfl (lv_at hl 0 rfl) ?_
  refine x_iast (j := iI (9 * z_2 + 6)) hE hK hN hP hS 8 (by decide) (fun _ => yG_10 rfl) (iI_in (n := 405) (by omega)) dX9_changes_39 (fun ar4 H locs ha4 hP hS => ?_)
  have hI := YI_ast hI ha4 (by decide)
  exact kr v ar4 al _ _ _ _ ⟨hI, fun i j h => rfl, fun i h => ((upx_ne ha4 i (fun q => h (by rw [q]; decide))).trans (upx_ne ha3 i (fun q => h (by rw [q]; decide)))), fun i h => rfl⟩ hP hS dX9_changes_40

theorem dX9_trade_0 : decode cX9_trade 0 = .ok (.aload_n 0, 1) := by decide +kernel
theorem dX9_trade_1 : decode cX9_trade 1 = .ok (.iconst 0, 1) := by decide +kernel
theorem dX9_trade_2 : decode cX9_trade 2 = .ok (.putfield 81, 3) := by decide +kernel
theorem dX9_trade_5 : decode cX9_trade 5 = .ok (.aload_n 0, 1) := by decide +kernel
theorem dX9_trade_6 : decode cX9_trade 6 = .ok (.invokevirtual 400, 3) := by decide +kernel
theorem dX9_trade_9 : decode cX9_trade 9 = .ok (.istore_n 1, 1) := by decide +kernel
theorem dX9_trade_10 : decode cX9_trade 10 = .ok (.iload_n 1, 1) := by decide +kernel
theorem dX9_trade_11 : decode cX9_trade 11 = .ok (.ifCond .eq 5, 3) := by decide +kernel
theorem dX9_trade_14 : decode cX9_trade 14 = .ok (.iload_n 1, 1) := by decide +kernel
theorem dX9_trade_15 : decode cX9_trade 15 = .ok (.ireturn, 1) := by decide +kernel
theorem dX9_trade_16 : decode cX9_trade 16 = .ok (.aload_n 0, 1) := by decide +kernel
theorem dX9_trade_17 : decode cX9_trade 17 = .ok (.invokevirtual 403, 3) := by decide +kernel
theorem dX9_trade_20 : decode cX9_trade 20 = .ok (.bipush 100, 2) := by decide +kernel
theorem dX9_trade_22 : decode cX9_trade 22 = .ok (.if_icmp .le 5, 3) := by decide +kernel
theorem dX9_trade_25 : decode cX9_trade 25 = .ok (.iconst (-1), 1) := by decide +kernel
theorem dX9_trade_26 : decode cX9_trade 26 = .ok (.ireturn, 1) := by decide +kernel
theorem dX9_trade_27 : decode cX9_trade 27 = .ok (.iconst 0, 1) := by decide +kernel
theorem dX9_trade_28 : decode cX9_trade 28 = .ok (.istore_n 2, 1) := by decide +kernel
theorem dX9_trade_29 : decode cX9_trade 29 = .ok (.iload_n 2, 1) := by decide +kernel
theorem dX9_trade_30 : decode cX9_trade 30 = .ok (.aload_n 0, 1) := by decide +kernel
theorem dX9_trade_31 : decode cX9_trade 31 = .ok (.getfield 34, 3) := by decide +kernel
theorem dX9_trade_34 : decode cX9_trade 34 = .ok (.iconst 2, 1) := by decide +kernel
theorem dX9_trade_35 : decode cX9_trade 35 = .ok (.iaload, 1) := by decide +kernel
theorem dX9_trade_36 : decode cX9_trade 36 = .ok (.if_icmp .ge 103, 3) := by decide +kernel
theorem dX9_trade_39 : decode cX9_trade 39 = .ok (.iload_n 2, 1) := by decide +kernel
theorem dX9_trade_40 : decode cX9_trade 40 = .ok (.iconst 1, 1) := by decide +kernel
theorem dX9_trade_41 : decode cX9_trade 41 = .ok (.iadd, 1) := by decide +kernel
theorem dX9_trade_42 : decode cX9_trade 42 = .ok (.istore_n 3, 1) := by decide +kernel
theorem dX9_trade_43 : decode cX9_trade 43 = .ok (.iload_n 3, 1) := by decide +kernel
theorem dX9_trade_44 : decode cX9_trade 44 = .ok (.aload_n 0, 1) := by decide +kernel
theorem dX9_trade_45 : decode cX9_trade 45 = .ok (.getfield 34, 3) := by decide +kernel
theorem dX9_trade_48 : decode cX9_trade 48 = .ok (.iconst 2, 1) := by decide +kernel
theorem dX9_trade_49 : decode cX9_trade 49 = .ok (.iaload, 1) := by decide +kernel
theorem dX9_trade_50 : decode cX9_trade 50 = .ok (.if_icmp .ge 83, 3) := by decide +kernel
theorem dX9_trade_53 : decode cX9_trade 53 = .ok (.aload_n 0, 1) := by decide +kernel
theorem dX9_trade_54 : decode cX9_trade 54 = .ok (.iload_n 2, 1) := by decide +kernel
theorem dX9_trade_55 : decode cX9_trade 55 = .ok (.bipush 6, 2) := by decide +kernel
theorem dX9_trade_57 : decode cX9_trade 57 = .ok (.invokevirtual 258, 3) := by decide +kernel
theorem dX9_trade_60 : decode cX9_trade 60 = .ok (.iconst (-1), 1) := by decide +kernel
theorem dX9_trade_61 : decode cX9_trade 61 = .ok (.if_icmp .eq 66, 3) := by decide +kernel
theorem dX9_trade_64 : decode cX9_trade 64 = .ok (.aload_n 0, 1) := by decide +kernel
theorem dX9_trade_65 : decode cX9_trade 65 = .ok (.iload_n 3, 1) := by decide +kernel
theorem dX9_trade_66 : decode cX9_trade 66 = .ok (.bipush 6, 2) := by decide +kernel
theorem dX9_trade_68 : decode cX9_trade 68 = .ok (.invokevirtual 258, 3) := by decide +kernel
theorem dX9_trade_71 : decode cX9_trade 71 = .ok (.iconst (-1), 1) := by decide +kernel
theorem dX9_trade_72 : decode cX9_trade 72 = .ok (.if_icmp .eq 55, 3) := by decide +kernel
theorem dX9_trade_75 : decode cX9_trade 75 = .ok (.aload_n 0, 1) := by decide +kernel
theorem dX9_trade_76 : decode cX9_trade 76 = .ok (.iload_n 2, 1) := by decide +kernel
theorem dX9_trade_77 : decode cX9_trade 77 = .ok (.bipush 6, 2) := by decide +kernel
theorem dX9_trade_79 : decode cX9_trade 79 = .ok (.invokevirtual 258, 3) := by decide +kernel
theorem dX9_trade_82 : decode cX9_trade 82 = .ok (.aload_n 0, 1) := by decide +kernel
theorem dX9_trade_83 : decode cX9_trade 83 = .ok (.iload_n 3, 1) := by decide +kernel
theorem dX9_trade_84 : decode cX9_trade 84 = .ok (.bipush 6, 2) := by decide +kernel
theorem dX9_trade_86 : decode cX9_trade 86 = .ok (.invokevirtual 258, 3) := by decide +kernel
theorem dX9_trade_89 : decode cX9_trade 89 = .ok (.if_icmp .ne 6, 3) := by decide +kernel
theorem dX9_trade_92 : decode cX9_trade 92 = .ok (.goto 35, 3) := by decide +kernel
theorem dX9_trade_95 : decode cX9_trade 95 = .ok (.aload_n 0, 1) := by decide +kernel
theorem dX9_trade_96 : decode cX9_trade 96 = .ok (.iload_n 2, 1) := by decide +kernel
theorem dX9_trade_97 : decode cX9_trade 97 = .ok (.iload_n 3, 1) := by decide +kernel
theorem dX9_trade_98 : decode cX9_trade 98 = .ok (.invokevirtual 409, 3) := by decide +kernel
theorem dX9_trade_101 : decode cX9_trade 101 = .ok (.aload_n 0, 1) := by decide +kernel
theorem dX9_trade_102 : decode cX9_trade 102 = .ok (.invokevirtual 403, 3) := by decide +kernel
theorem dX9_trade_105 : decode cX9_trade 105 = .ok (.istore 4, 2) := by decide +kernel
theorem dX9_trade_107 : decode cX9_trade 107 = .ok (.aload_n 0, 1) := by decide +kernel
theorem dX9_trade_108 : decode cX9_trade 108 = .ok (.iload_n 2, 1) := by decide +kernel
theorem dX9_trade_109 : decode cX9_trade 109 = .ok (.iload_n 3, 1) := by decide +kernel
theorem dX9_trade_110 : decode cX9_trade 110 = .ok (.invokevirtual 409, 3) := by decide +kernel
theorem dX9_trade_113 : decode cX9_trade 113 = .ok (.iload 4, 2) := by decide +kernel
theorem dX9_trade_115 : decode cX9_trade 115 = .ok (.bipush 100, 2) := by decide +kernel
theorem dX9_trade_117 : decode cX9_trade 117 = .ok (.if_icmp .le 10, 3) := by decide +kernel
theorem dX9_trade_120 : decode cX9_trade 120 = .ok (.bipush 10, 2) := by decide +kernel
theorem dX9_trade_122 : decode cX9_trade 122 = .ok (.iload_n 2, 1) := by decide +kernel
theorem dX9_trade_123 : decode cX9_trade 123 = .ok (.imul, 1) := by decide +kernel
theorem dX9_trade_124 : decode cX9_trade 124 = .ok (.iload_n 3, 1) := by decide +kernel
theorem dX9_trade_125 : decode cX9_trade 125 = .ok (.iadd, 1) := by decide +kernel
theorem dX9_trade_126 : decode cX9_trade 126 = .ok (.ireturn, 1) := by decide +kernel
theorem dX9_trade_127 : decode cX9_trade 127 = .ok (.iinc 3 1, 3) := by decide +kernel
theorem dX9_trade_130 : decode cX9_trade 130 = .ok (.goto (-87), 3) := by decide +kernel
theorem dX9_trade_133 : decode cX9_trade 133 = .ok (.iinc 2 1, 3) := by decide +kernel
theorem dX9_trade_136 : decode cX9_trade 136 = .ok (.goto (-107), 3) := by decide +kernel
theorem dX9_trade_139 : decode cX9_trade 139 = .ok (.iconst (-1), 1) := by decide +kernel
theorem dX9_trade_140 : decode cX9_trade 140 = .ok (.ireturn, 1) := by decide +kernel
set_option maxHeartbeats 4000000 in
set_option maxRecDepth 100000 in
theorem s_X9_trade (l : Launch) (D : va_G) (K : Nat → ClassId) (ad : Nat → Nat) (v ar : sI) (al : sL) (hI : YI v ar) : Met l yX9_trade (wM yX9_trade cX9_trade 5 (some .int)) (rmD 36) (va_Pc [.ref (ad 0)] (wPre D K ad (yG ad K) 21 v ar al)) (va_Qi (fun (r : Int32) (u : sT) => (∃ z : Int, (-2147483648 ≤ z ∧ z ≤ 2147483647) ∧ r = iI z) ∧ YI u.1 u.2.1 ∧ (∀ i j : Nat, (i, j) ∉ ([(0, 0), (0, 24), (0, 25), (0, 26), (0, 27), (0, 44), (0, 45)] : List (Nat × Nat)) → u.1 i j = v i j) ∧ (∀ i : Nat, i ∉ ([8, 12, 13, 14, 18] : List Nat) → u.2.1 i = ar i) ∧ (∀ i : Nat, i ∉ ([] : List Nat) → u.2.2 i = al i)) (wB D ad (yG ad K) 21) (inW ad 21)) 0 0 (inW ad 21) := by
  refine s_metI (by decide) (Nat.le_of_ble_eq_true rfl) ?_
  intro p e s m below meth c ls args Q hE hB hl kr
  have hE : CallFix p m c cX9_trade 5 s args tbG "TaleCourtModel" := hE
  obtain ⟨hP, hK, hN⟩ := hB
  have hS : va_S (inW ad 21) s.heap s.heap [] := va_S.rf
  have hl : lv_has ls 5 [(0, .ref (ad 0))] := hl
  obtain ⟨z1, hz1, ez1⟩ := iI_of (ar 6 0)
  obtain ⟨z2, hz2, ez2⟩ := YI_h2 hI 2 (by decide)
  obtain ⟨z3, hz3, ez3⟩ := YI_h5 hI 5 (by decide)
  obtain ⟨z4, hz4, ez4⟩ := YI_h0 hI 0 (by decide)
  have ht0 := YI_t0 hI ez1 (by omega) ez2 (by omega) ez3 (by omega) ez4 (by omega)
  refine lv_aload_n hE.1 hE.2.1 dX9_trade_0 rfl (lv_at hl 0 rfl) ?_
  refine lv_iconst (v := iI (0)) hE.1 hE.2.1 dX9_trade_1 (by decide) ?_
  refine x_put (x := iI (0)) hE hK hN hP hS 0 (by decide) (yG_9 rfl) rfl hin9 tyX9 tyX9_ok nmX9 0 (by decide) mw_1334 rfl rfl rfl (Nat.le_of_ble_eq_true rfl) (yG_9 rfl) dX9_trade_2 (fun v5 H locs hv5 hP hS => ?_)
  have hI := YI_putN hI hv5 (by decide)
  refine lv_aload_n hE.1 hE.2.1 dX9_trade_5 rfl (lv_at hl 0 rfl) ?_
  refine x_vp (nn := 0) (As := []) (rest := []) hE (s_X9_whyNoGame l D K ad v5 ar al hI (z1) (by omega) ez1 (z4) (by omega) ez4 ) wPre_blind (wPre_now hK hN hP) (x_recv hK hP 0 (by decide) (yG_9 rfl) rfl) rfl mw_1879 mw_1881 mw_94 mw_123 mw_1882 (by decide +kernel) ⟨by decide, by decide⟩ hl.1 rfl (Nat.le_of_ble_eq_true rfl) ⟨Nat.zero_le _, Nat.zero_le _⟩ dX9_trade_6 (fun r6 hr6 => ?_)
  obtain ⟨z6, hz6, rfl⟩ := hr6
  refine lv_istore_n (lv' := [(1, .int (iI (z6))), (0, .ref (ad 0))]) hE.1 hE.2.1 dX9_trade_9 rfl hl (by decide) rfl (fun ls hl => ?_)
  refine lv_iload_n hE.1 hE.2.1 dX9_trade_10 rfl (lv_at hl 0 rfl) ?_
  refine s_if_eq (a := z6) (tgt := 16) hE.1 hE.2.1 (by omega) dX9_trade_11 (by decide) (fun c7 => ?_) (fun c7 => ?_)
  · skip
    refine lv_aload_n hE.1 hE.2.1 dX9_trade_16 rfl (lv_at hl 1 rfl) ?_
    refine x_vi (nn := 0) (As := []) (rest := []) hE hK hN hP hS (s_X9_outcomeNow_e l D K ad v5 ar al hI  ) (x_recv hK hP 0 (by decide) (yG_9 rfl) rfl) rfl mw_1883 mw_1885 mw_95 mw_123 mw_1886 (by decide +kernel) ⟨by decide, by decide⟩ hl.1 rfl (Nat.le_of_ble_eq_true rfl) ⟨Nat.zero_le _, Nat.zero_le _⟩ dX9_trade_17 (fun r8 v8 ar8 al8 H locs hq8 hP hS => ?_)
    obtain ⟨⟨z8, hz8, rfl⟩, hI, hq8, hqa8, hql8, x8_1, x8_2, hx8, ex8_1, ex8_2⟩ := hq8
    have hI : YI v8 ar8 := hI
    refine lv_bipush (v := iI (100)) hE.1 hE.2.1 dX9_trade_20 (by decide) ?_
    refine s_icmp_le (a := z8) (b := 100) (tgt := 27) hE.1 hE.2.1 (by omega) (by omega) dX9_trade_22 (by decide) (fun c9 => ?_) (fun c9 => ?_)
    · skip
      refine lv_iconst (v := iI (0)) hE.1 hE.2.1 dX9_trade_27 (by decide) ?_
      refine lv_istore_n (lv' := [(2, .int (iI (0))), (1, .int (iI (z6))), (0, .ref (ad 0))]) hE.1 hE.2.1 dX9_trade_28 rfl hl (by decide) rfl (fun ls hl => ?_)
      have loop10 : ∀ (k10 : Nat) (y10_2 : Int) (vl10 arl10 : sI) (all10 : sL) (H : Heap) (locs : List Loc) (ls : Array Slot), (9 - y10_2).toNat = k10 → (0 ≤ y10_2 ∧ y10_2 ≤ 9) → YI vl10 arl10 → (∀ i j : Nat, (i, j) ∉ ([(0, 24), (0, 25), (0, 26), (0, 27), (0, 44), (0, 45)] : List (Nat × Nat)) → vl10 i j = v8 i j) → (∀ i : Nat, i ∉ ([8, 12, 13, 14, 18] : List Nat) → arl10 i = ar8 i) → (∀ i : Nat, i ∉ ([] : List Nat) → all10 i = al8 i) → va_P D xcl (wW ad (yG ad K) 21 vl10 arl10 all10) H → va_S (inW ad 21) s.heap H locs → lv_has ls 5 [(2, .int (iI (y10_2))), (1, .int (iI (z6))), (0, .ref (ad 0))] → W p l e (rmD 36) s m args below meth c H locs 0 0 Q (F0 m 29 ls []) := by
        intro k10
        induction k10 using Nat.strongRecOn with
        | _ k10 ih10 =>
          intro y10_2  vl10 arl10 all10 H locs ls hk10 hb_y10_2 hI hfr10 hfa10 hfl10 hP hS hl
          refine lv_iload_n hE.1 hE.2.1 dX9_trade_29 rfl (lv_at hl 0 rfl) ?_
          refine lv_aload_n hE.1 hE.2.1 dX9_trade_30 rfl (lv_at hl 2 rfl) ?_
          refine x_get (x := .ref (ad 7)) hE hK hP 0 (by decide) (yG_9 rfl) rfl hin9 17 (by decide) mw_1351 rfl dX9_trade_31 ?_
          refine lv_iconst (v := iI (2)) hE.1 hE.2.1 dX9_trade_34 (by decide) ?_
          refine x_iald (j := iI (2)) hE hK hP 7 (by decide) (yG_10 rfl) (iI_in (n := 30) (by omega)) dX9_trade_35 ?_
          refine x_top (y := iI (z2)) (by rw [show (iI (2)).toNatClampNeg = 2 from by decide]; exact ((congrFun (hfa10 7 (by decide)) 2).trans ((congrFun (hqa8 7 (by decide)) 2).trans ez2))) ?_
          refine s_icmp_ge (a := y10_2) (b := z2) (tgt := 139) hE.1 hE.2.1 (by omega) (by omega) dX9_trade_36 (by decide) (fun c12 => ?_) (fun c12 => ?_)
          · skip
            refine lv_iconst (v := iI (-1)) hE.1 hE.2.1 dX9_trade_139 (by decide) ?_
            exact kr _ vl10 arl10 all10 _ _ _ _ rfl ⟨⟨-1, by omega, rfl⟩, hI, fun i j h => ((hfr10 i j (fun q => h (mem_sub (by decide) q))).trans ((hq8 i j (fun q => h (mem_sub (by decide) q))).trans (up_oth hv5 (fun q => h (by rcases q with ⟨rfl, rfl⟩; decide))))), fun i h => ((hfa10 i (fun q => h (mem_subn (by decide) q))).trans (hqa8 i (fun q => h (mem_subn (by decide) q)))), fun i h => ((hfl10 i (fun q => h (mem_subn (by decide) q))).trans (hql8 i (fun q => h (mem_subn (by decide) q))))⟩ hP hS dX9_trade_140
          · skip
            refine lv_iload_n hE.1 hE.2.1 dX9_trade_39 rfl (lv_at hl 0 rfl) ?_
            refine lv_iconst (v := iI (1)) hE.1 hE.2.1 dX9_trade_40 (by decide) ?_
            refine lv_iadd hE.1 hE.2.1 dX9_trade_41 ?_
            refine x_top (y := iI (y10_2 + 1)) ((iI_add (y10_2) (1)).trans (congrArg iI (by omega))) ?_
            refine lv_istore_n (lv' := [(3, .int (iI (y10_2 + 1))), (2, .int (iI (y10_2))), (1, .int (iI (z6))), (0, .ref (ad 0))]) hE.1 hE.2.1 dX9_trade_42 rfl hl (by decide) rfl (fun ls hl => ?_)
            have loop13 : ∀ (k13 : Nat) (y13_3 : Int) (vl13 arl13 : sI) (all13 : sL) (H : Heap) (locs : List Loc) (ls : Array Slot), (9 - y13_3).toNat = k13 → (1 ≤ y13_3 ∧ y13_3 ≤ 9) → YI vl13 arl13 → (∀ i j : Nat, (i, j) ∉ ([(0, 24), (0, 25), (0, 26), (0, 27), (0, 44), (0, 45)] : List (Nat × Nat)) → vl13 i j = vl10 i j) → (∀ i : Nat, i ∉ ([8, 12, 13, 14, 18] : List Nat) → arl13 i = arl10 i) → (∀ i : Nat, i ∉ ([] : List Nat) → all13 i = all10 i) → va_P D xcl (wW ad (yG ad K) 21 vl13 arl13 all13) H → va_S (inW ad 21) s.heap H locs → lv_has ls 5 [(3, .int (iI (y13_3))), (2, .int (iI (y10_2))), (1, .int (iI (z6))), (0, .ref (ad 0))] → W p l e (rmD 36) s m args below meth c H locs 0 0 Q (F0 m 43 ls []) := by
              intro k13
              induction k13 using Nat.strongRecOn with
              | _ k13 ih13 =>
                intro y13_3  vl13 arl13 all13 H locs ls hk13 hb_y13_3 hI hfr13 hfa13 hfl13 hP hS hl
                refine lv_iload_n hE.1 hE.2.1 dX9_trade_43 rfl (lv_at hl 0 rfl) ?_
                refine lv_aload_n hE.1 hE.2.1 dX9_trade_44 rfl (lv_at hl 3 rfl) ?_
                refine x_get (x := .ref (ad 7)) hE hK hP 0 (by decide) (yG_9 rfl) rfl hin9 17 (by decide) mw_1351 rfl dX9_trade_45 ?_
                refine lv_iconst (v := iI (2)) hE.1 hE.2.1 dX9_trade_48 (by decide) ?_
                refine x_iald (j := iI (2)) hE hK hP 7 (by decide) (yG_10 rfl) (iI_in (n := 30) (by omega)) dX9_trade_49 ?_
                refine x_top (y := iI (z2)) (by rw [show (iI (2)).toNatClampNeg = 2 from by decide]; exact ((congrFun (hfa13 7 (by decide)) 2).trans ((congrFun (hfa10 7 (by decide)) 2).trans ((congrFun (hqa8 7 (by decide)) 2).trans ez2)))) ?_
                refine s_icmp_ge (a := y13_3) (b := z2) (tgt := 133) hE.1 hE.2.1 (by omega) (by omega) dX9_trade_50 (by decide) (fun c15 => ?_) (fun c15 => ?_)
                · skip
                  refine lv_iinc (v := iI (y10_2 + 1)) (lv' := [(2, .int (iI (y10_2 + 1))), (3, .int (iI (y13_3))), (1, .int (iI (z6))), (0, .ref (ad 0))]) hE.1 hE.2.1 dX9_trade_133 hl (k := 1) rfl ((iI_add (y10_2) (1)).trans (congrArg iI (by omega))) (by decide) rfl (fun ls hl => ?_)
                  refine lv_goto (tgt := 29) hE.1 hE.2.1 dX9_trade_136 (by decide) ?_
                  exact ih10 _ (by omega) (y10_2 + 1)  vl13 arl13 all13 _ _ _ rfl (by omega)  hI (fun i j h => ((hfr13 i j (fun q => h (mem_sub (by decide) q))).trans (hfr10 i j h))) (fun i h => ((hfa13 i (fun q => h (mem_subn (by decide) q))).trans (hfa10 i h))) (fun i h => ((hfl13 i (fun q => h (mem_subn (by decide) q))).trans (hfl10 i h))) hP hS (lv_sub hl [0, 2, 3] rfl)
                · skip
                  refine lv_aload_n hE.1 hE.2.1 dX9_trade_53 rfl (lv_at hl 3 rfl) ?_
                  refine lv_iload_n hE.1 hE.2.1 dX9_trade_54 rfl (lv_at hl 1 rfl) ?_
                  refine lv_bipush (v := iI (6)) hE.1 hE.2.1 dX9_trade_55 (by decide) ?_
                  refine x_vp (nn := 2) (As := [.int (iI (y10_2)), .int (iI (6))]) (rest := []) hE (s_X9_of l D K ad vl13 arl13 all13 hI  (y10_2) (by omega) (6) (by omega)) wPre_blind (wPre_now hK hN hP) (x_recv hK hP 0 (by decide) (yG_9 rfl) rfl) rfl mw_1654 mw_1656 mw_73 mw_123 mw_1657 (by decide +kernel) ⟨by decide, by decide⟩ hl.1 rfl (Nat.le_of_ble_eq_true rfl) ⟨Nat.zero_le _, Nat.zero_le _⟩ dX9_trade_57 (fun r16 hr16 => ?_)
                  obtain ⟨z16, hz16, rfl⟩ := hr16
                  refine lv_iconst (v := iI (-1)) hE.1 hE.2.1 dX9_trade_60 (by decide) ?_
                  refine s_icmp_eq (a := z16) (b := -1) (tgt := 127) hE.1 hE.2.1 (by omega) (by omega) dX9_trade_61 (by decide) (fun c17 => ?_) (fun c17 => ?_)
                  · skip
                    refine lv_iinc (v := iI (y13_3 + 1)) (lv' := [(3, .int (iI (y13_3 + 1))), (2, .int (iI (y10_2))), (1, .int (iI (z6))), (0, .ref (ad 0))]) hE.1 hE.2.1 dX9_trade_127 hl (k := 0) rfl ((iI_add (y13_3) (1)).trans (congrArg iI (by omega))) (by decide) rfl (fun ls hl => ?_)
                    refine lv_goto (tgt := 43) hE.1 hE.2.1 dX9_trade_130 (by decide) ?_
                    exact ih13 _ (by omega) (y13_3 + 1)  vl13 arl13 all13 _ _ _ rfl (by omega)  hI (fun i j h => (hfr13 i j h)) (fun i h => (hfa13 i h)) (fun i h => (hfl13 i h)) hP hS (lv_sub hl [0, 1, 2, 3] rfl)
                  · skip
                    refine lv_aload_n hE.1 hE.2.1 dX9_trade_64 rfl (lv_at hl 3 rfl) ?_
                    refine lv_iload_n hE.1 hE.2.1 dX9_trade_65 rfl (lv_at hl 0 rfl) ?_
                    refine lv_bipush (v := iI (6)) hE.1 hE.2.1 dX9_trade_66 (by decide) ?_
                    refine x_vp (nn := 2) (As := [.int (iI (y13_3)), .int (iI (6))]) (rest := []) hE (s_X9_of l D K ad vl13 arl13 all13 hI  (y13_3) (by omega) (6) (by omega)) wPre_blind (wPre_now hK hN hP) (x_recv hK hP 0 (by decide) (yG_9 rfl) rfl) rfl mw_1654 mw_1656 mw_73 mw_123 mw_1657 (by decide +kernel) ⟨by decide, by decide⟩ hl.1 rfl (Nat.le_of_ble_eq_true rfl) ⟨Nat.zero_le _, Nat.zero_le _⟩ dX9_trade_68 (fun r18 hr18 => ?_)
                    obtain ⟨z18, hz18, rfl⟩ := hr18
                    refine lv_iconst (v := iI (-1)) hE.1 hE.2.1 dX9_trade_71 (by decide) ?_
                    refine s_icmp_eq (a := z18) (b := -1) (tgt := 127) hE.1 hE.2.1 (by omega) (by omega) dX9_trade_72 (by decide) (fun c19 => ?_) (fun c19 => ?_)
                    · skip
                      refine lv_iinc (v := iI (y13_3 + 1)) (lv' := [(3, .int (iI (y13_3 + 1))), (2, .int (iI (y10_2))), (1, .int (iI (z6))), (0, .ref (ad 0))]) hE.1 hE.2.1 dX9_trade_127 hl (k := 0) rfl ((iI_add (y13_3) (1)).trans (congrArg iI (by omega))) (by decide) rfl (fun ls hl => ?_)
                      refine lv_goto (tgt := 43) hE.1 hE.2.1 dX9_trade_130 (by decide) ?_
                      exact ih13 _ (by omega) (y13_3 + 1)  vl13 arl13 all13 _ _ _ rfl (by omega)  hI (fun i j h => (hfr13 i j h)) (fun i h => (hfa13 i h)) (fun i h => (hfl13 i h)) hP hS (lv_sub hl [0, 1, 2, 3] rfl)
                    · skip
                      refine lv_aload_n hE.1 hE.2.1 dX9_trade_75 rfl (lv_at hl 3 rfl) ?_
                      refine lv_iload_n hE.1 hE.2.1 dX9_trade_76 rfl (lv_at hl 1 rfl) ?_
                      refine lv_bipush (v := iI (6)) hE.1 hE.2.1 dX9_trade_77 (by decide) ?_
                      refine x_vp (nn := 2) (As := [.int (iI (y10_2)), .int (iI (6))]) (rest := []) hE (s_X9_of l D K ad vl13 arl13 all13 hI  (y10_2) (by omega) (6) (by omega)) wPre_blind (wPre_now hK hN hP) (x_recv hK hP 0 (by decide) (yG_9 rfl) rfl) rfl mw_1654 mw_1656 mw_73 mw_123 mw_1657 (by decide +kernel) ⟨by decide, by decide⟩ hl.1 rfl (Nat.le_of_ble_eq_true rfl) ⟨Nat.zero_le _, Nat.zero_le _⟩ dX9_trade_79 (fun r20 hr20 => ?_)
                      obtain ⟨z20, hz20, rfl⟩ := hr20
                      refine lv_aload_n hE.1 hE.2.1 dX9_trade_82 rfl (lv_at hl 3 rfl) ?_
                      refine lv_iload_n hE.1 hE.2.1 dX9_trade_83 rfl (lv_at hl 0 rfl) ?_
                      refine lv_bipush (v := iI (6)) hE.1 hE.2.1 dX9_trade_84 (by decide) ?_
                      refine x_vp (nn := 2) (As := [.int (iI (y13_3)), .int (iI (6))]) (rest := [.int (iI (z20))]) hE (s_X9_of l D K ad vl13 arl13 all13 hI  (y13_3) (by omega) (6) (by omega)) wPre_blind (wPre_now hK hN hP) (x_recv hK hP 0 (by decide) (yG_9 rfl) rfl) rfl mw_1654 mw_1656 mw_73 mw_123 mw_1657 (by decide +kernel) ⟨by decide, by decide⟩ hl.1 rfl (Nat.le_of_ble_eq_true rfl) ⟨Nat.zero_le _, Nat.zero_le _⟩ dX9_trade_86 (fun r21 hr21 => ?_)
                      obtain ⟨z21, hz21, rfl⟩ := hr21
                      refine s_icmp_ne (a := z20) (b := z21) (tgt := 95) hE.1 hE.2.1 (by omega) (by omega) dX9_trade_89 (by decide) (fun c22 => ?_) (fun c22 => ?_)
                      · skip
                        refine lv_aload_n hE.1 hE.2.1 dX9_trade_95 rfl (lv_at hl 3 rfl) ?_
                        refine lv_iload_n hE.1 hE.2.1 dX9_trade_96 rfl (lv_at hl 1 rfl) ?_
                        refine lv_iload_n hE.1 hE.2.1 dX9_trade_97 rfl (lv_at hl 0 rfl) ?_
                        refine x_vv (nn := 2) (As := [.int (iI (y10_2)), .int (iI (y13_3))]) (rest := []) hE hK hN hP hS (s_X9_changes_e l D K ad vl13 arl13 all13 hI  (y10_2) (by omega) (y13_3) (by omega)) (x_recv hK hP 0 (by decide) (yG_9 rfl) rfl) rfl mw_1934 mw_1936 mw_102 mw_123 mw_1937 (by decide +kernel) ⟨by decide, by decide⟩ hl.1 rfl (Nat.le_of_ble_eq_true rfl) ⟨Nat.zero_le _, Nat.zero_le _⟩ dX9_trade_98 (fun v23 ar23 al23 H locs hq23 hP hS => ?_)
                        obtain ⟨hI, hq23, hqa23, hql23⟩ := hq23
                        have hI : YI v23 ar23 := hI
                        refine lv_aload_n hE.1 hE.2.1 dX9_trade_101 rfl (lv_at hl 3 rfl) ?_
                        refine x_vi (nn := 0) (As := []) (rest := []) hE hK hN hP hS (s_X9_outcomeNow_e l D K ad v23 ar23 al23 hI  ) (x_recv hK hP 0 (by decide) (yG_9 rfl) rfl) rfl mw_1883 mw_1885 mw_95 mw_123 mw_1886 (by decide +kernel) ⟨by decide, by decide⟩ hl.1 rfl (Nat.le_of_ble_eq_true rfl) ⟨Nat.zero_le _, Nat.zero_le _⟩ dX9_trade_102 (fun r24 v24 ar24 al24 H locs hq24 hP hS => ?_)
                        obtain ⟨⟨z24, hz24, rfl⟩, hI, hq24, hqa24, hql24, x24_1, x24_2, hx24, ex24_1, ex24_2⟩ := hq24
                        have hI : YI v24 ar24 := hI
                        refine lv_istore (lv' := [(4, .int (iI (z24))), (3, .int (iI (y13_3))), (2, .int (iI (y10_2))), (1, .int (iI (z6))), (0, .ref (ad 0))]) hE.1 hE.2.1 dX9_trade_105 hl (by decide) rfl (fun ls hl => ?_)
                        refine lv_aload_n hE.1 hE.2.1 dX9_trade_107 rfl (lv_at hl 4 rfl) ?_
                        refine lv_iload_n hE.1 hE.2.1 dX9_trade_108 rfl (lv_at hl 2 rfl) ?_
                        refine lv_iload_n hE.1 hE.2.1 dX9_trade_109 rfl (lv_at hl 1 rfl) ?_
                        refine x_vv (nn := 2) (As := [.int (iI (y10_2)), .int (iI (y13_3))]) (rest := []) hE hK hN hP hS (s_X9_changes_e l D K ad v24 ar24 al24 hI  (y10_2) (by omega) (y13_3) (by omega)) (x_recv hK hP 0 (by decide) (yG_9 rfl) rfl) rfl mw_1934 mw_1936 mw_102 mw_123 mw_1937 (by decide +kernel) ⟨by decide, by decide⟩ hl.1 rfl (Nat.le_of_ble_eq_true rfl) ⟨Nat.zero_le _, Nat.zero_le _⟩ dX9_trade_110 (fun v25 ar25 al25 H locs hq25 hP hS => ?_)
                        obtain ⟨hI, hq25, hqa25, hql25⟩ := hq25
                        have hI : YI v25 ar25 := hI
                        refine lv_iload hE.1 hE.2.1 dX9_trade_113 (lv_at hl 0 rfl) ?_
                        refine lv_bipush (v := iI (100)) hE.1 hE.2.1 dX9_trade_115 (by decide) ?_
                        refine s_icmp_le (a := z24) (b := 100) (tgt := 127) hE.1 hE.2.1 (by omega) (by omega) dX9_trade_117 (by decide) (fun c26 => ?_) (fun c26 => ?_)
                        · skip
                          refine lv_iinc (v := iI (y13_3 + 1)) (lv' := [(3, .int (iI (y13_3 + 1))), (4, .int (iI (z24))), (2, .int (iI (y10_2))), (1, .int (iI (z6))), (0, .ref (ad 0))]) hE.1 hE.2.1 dX9_trade_127 hl (k := 1) rfl ((iI_add (y13_3) (1)).trans (congrArg iI (by omega))) (by decide) rfl (fun ls hl => ?_)
                          refine lv_goto (tgt := 43) hE.1 hE.2.1 dX9_trade_130 (by decide) ?_
                          exact ih13 _ (by omega) (y13_3 + 1)  v25 ar25 al25 _ _ _ rfl (by omega)  hI (fun i j h => (((hq25 i j (fun q => h (mem_sub (by decide) q))).trans ((hq24 i j (fun q => h (mem_sub (by decide) q))).trans (hq23 i j (fun q => h (mem_sub (by decide) q))))).trans (hfr13 i j h))) (fun i h => (((hqa25 i (fun q => h (mem_subn (by decide) q))).trans ((hqa24 i (fun q => h (mem_subn (by decide) q))).trans (hqa23 i (fun q => h (mem_subn (by decide) q))))).trans (hfa13 i h))) (fun i h => (((hql25 i (fun q => h (mem_subn (by decide) q))).trans ((hql24 i (fun q => h (mem_subn (by decide) q))).trans (hql23 i (fun q => h (mem_subn (by decide) q))))).trans (hfl13 i h))) hP hS (lv_sub hl [0, 2, 3, 4] rfl)
                        · skip
                          refine lv_bipush (v := iI (10)) hE.1 hE.2.1 dX9_trade_120 (by decide) ?_
                          refine lv_iload_n hE.1 hE.2.1 dX9_trade_122 rfl (lv_at hl 2 rfl) ?_
                          refine lv_imul hE.1 hE.2.1 dX9_trade_123 ?_
                          refine x_top (y := iI (10 * y10_2)) ((iI_mul (10) (y10_2)).trans (congrArg iI (by omega))) ?_
                          refine lv_iload_n hE.1 hE.2.1 dX9_trade_124 rfl (lv_at hl 1 rfl) ?_
                          refine lv_iadd hE.1 hE.2.1 dX9_trade_125 ?_
                          refine x_top (y := iI (10 * y10_2 + y13_3)) ((iI_add (10 * y10_2) (y13_3)).trans (congrArg iI (by omega))) ?_
                          exact kr _ v25 ar25 al25 _ _ _ _ rfl ⟨⟨10 * y10_2 + y13_3, by omega, rfl⟩, hI, fun i j h => ((hq25 i j (fun q => h (mem_sub (by decide) q))).trans ((hq24 i j (fun q => h (mem_sub (by decide) q))).trans ((hq23 i j (fun q => h (mem_sub (by decide) q))).trans ((hfr13 i j (fun q => h (mem_sub (by decide) q))).trans ((hfr10 i j (fun q => h (mem_sub (by decide) q))).trans ((hq8 i j (fun q => h (mem_sub (by decide) q))).trans (up_oth hv5 (fun q => h (by rcases q with ⟨rfl, rfl⟩; decide))))))))), fun i h => ((hqa25 i (fun q => h (mem_subn (by decide) q))).trans ((hqa24 i (fun q => h (mem_subn (by decide) q))).trans ((hqa23 i (fun q => h (mem_subn (by decide) q))).trans ((hfa13 i (fun q => h (mem_subn (by decide) q))).trans ((hfa10 i (fun q => h (mem_subn (by decide) q))).trans (hqa8 i (fun q => h (mem_subn (by decide) q)))))))), fun i h => ((hql25 i (fun q => h (mem_subn (by decide) q))).trans ((hql24 i (fun q => h (mem_subn (by decide) q))).trans ((hql23 i (fun q => h (mem_subn (by decide) q))).trans ((hfl13 i (fun q => h (mem_subn (by decide) q))).trans ((hfl10 i (fun q => h (mem_subn (by decide) q))).trans (hql8 i (fun q => h (mem_subn (by decide) q))))))))⟩ hP hS dX9_trade_126
                      · skip
                        refine lv_goto (tgt := 127) hE.1 hE.2.1 dX9_trade_92 (by decide) ?_
                        refine lv_iinc (v := iI (y13_3 + 1)) (lv' := [(3, .int (iI (y13_3 + 1))), (2, .int (iI (y10_2))), (1, .int (iI (z6))), (0, .ref (ad 0))]) hE.1 hE.2.1 dX9_trade_127 hl (k := 0) rfl ((iI_add (y13_3) (1)).trans (congrArg iI (by omega))) (by decide) rfl (fun ls hl => ?_)
                        refine lv_goto (tgt := 43) hE.1 hE.2.1 dX9_trade_130 (by decide) ?_
                        exact ih13 _ (by omega) (y13_3 + 1)  vl13 arl13 all13 _ _ _ rfl (by omega)  hI (fun i j h => (hfr13 i j h)) (fun i h => (hfa13 i h)) (fun i h => (hfl13 i h)) hP hS (lv_sub hl [0, 1, 2, 3] rfl)
            exact loop13 _ (y10_2 + 1)  vl10 arl10 all10 _ _ _ rfl (by omega)  hI (fun _ _ _ => rfl) (fun _ _ => rfl) (fun _ _ => rfl) hP hS hl
      exact loop10 _ (0)  v8 ar8 al8 _ _ _ rfl (by omega)  hI (fun _ _ _ => rfl) (fun _ _ => rfl) (fun _ _ => rfl) hP hS hl
    · skip
      refine lv_iconst (v := iI (-1)) hE.1 hE.2.1 dX9_trade_25 (by decide) ?_
      exact kr _ v8 ar8 al8 _ _ _ _ rfl ⟨⟨-1, by omega, rfl⟩, hI, fun i j h => ((hq8 i j (fun q => h (mem_sub (by decide) q))).trans (up_oth hv5 (fun q => h (by rcases q with ⟨rfl, rfl⟩; decide)))), fun i h => (hqa8 i (fun q => h (mem_subn (by decide) q))), fun i h => (hql8 i (fun q => h (mem_subn (by decide) q)))⟩ hP hS dX9_trade_26
  · skip
    refine lv_iload_n hE.1 hE.2.1 dX9_trade_14 rfl (lv_at hl 0 rfl) ?_
    exact kr _ v5 ar al _ _ _ _ rfl ⟨⟨z6, by omega, rfl⟩, hI, fun i j h => (up_oth hv5 (fun q => h (by rcases q with ⟨rfl, rfl⟩; decide))), fun i h => rfl, fun i h => rfl⟩ hP hS dX9_trade_15

theorem dX9_blunder_0 : decode cX9_blunder 0 = .ok (.aload_n 0, 1) := by decide +kernel
theorem dX9_blunder_1 : decode cX9_blunder 1 = .ok (.iconst 0, 1) := by decide +kernel
theorem dX9_blunder_2 : decode cX9_blunder 2 = .ok (.putfield 81, 3) := by decide +kernel
theorem dX9_blunder_5 : decode cX9_blunder 5 = .ok (.aload_n 0, 1) := by decide +kernel
theorem dX9_blunder_6 : decode cX9_blunder 6 = .ok (.invokevirtual 400, 3) := by decide +kernel
theorem dX9_blunder_9 : decode cX9_blunder 9 = .ok (.istore_n 1, 1) := by decide +kernel
theorem dX9_blunder_10 : decode cX9_blunder 10 = .ok (.iload_n 1, 1) := by decide +kernel
theorem dX9_blunder_11 : decode cX9_blunder 11 = .ok (.ifCond .eq 5, 3) := by decide +kernel
theorem dX9_blunder_14 : decode cX9_blunder 14 = .ok (.iload_n 1, 1) := by decide +kernel
theorem dX9_blunder_15 : decode cX9_blunder 15 = .ok (.ireturn, 1) := by decide +kernel
theorem dX9_blunder_16 : decode cX9_blunder 16 = .ok (.aload_n 0, 1) := by decide +kernel
theorem dX9_blunder_17 : decode cX9_blunder 17 = .ok (.getfield 34, 3) := by decide +kernel
theorem dX9_blunder_20 : decode cX9_blunder 20 = .ok (.iconst 5, 1) := by decide +kernel
theorem dX9_blunder_21 : decode cX9_blunder 21 = .ok (.iaload, 1) := by decide +kernel
theorem dX9_blunder_22 : decode cX9_blunder 22 = .ok (.istore_n 2, 1) := by decide +kernel
theorem dX9_blunder_23 : decode cX9_blunder 23 = .ok (.iconst (-1), 1) := by decide +kernel
theorem dX9_blunder_24 : decode cX9_blunder 24 = .ok (.istore_n 3, 1) := by decide +kernel
theorem dX9_blunder_25 : decode cX9_blunder 25 = .ok (.iconst 0, 1) := by decide +kernel
theorem dX9_blunder_26 : decode cX9_blunder 26 = .ok (.istore 4, 2) := by decide +kernel
theorem dX9_blunder_28 : decode cX9_blunder 28 = .ok (.iload 4, 2) := by decide +kernel
theorem dX9_blunder_30 : decode cX9_blunder 30 = .ok (.iload_n 2, 1) := by decide +kernel
theorem dX9_blunder_31 : decode cX9_blunder 31 = .ok (.if_icmp .ge 69, 3) := by decide +kernel
theorem dX9_blunder_34 : decode cX9_blunder 34 = .ok (.iload_n 3, 1) := by decide +kernel
theorem dX9_blunder_35 : decode cX9_blunder 35 = .ok (.iconst (-1), 1) := by decide +kernel
theorem dX9_blunder_36 : decode cX9_blunder 36 = .ok (.if_icmp .ne 64, 3) := by decide +kernel
theorem dX9_blunder_39 : decode cX9_blunder 39 = .ok (.aload_n 0, 1) := by decide +kernel
theorem dX9_blunder_40 : decode cX9_blunder 40 = .ok (.getfield 34, 3) := by decide +kernel
theorem dX9_blunder_43 : decode cX9_blunder 43 = .ok (.iconst 5, 1) := by decide +kernel
theorem dX9_blunder_44 : decode cX9_blunder 44 = .ok (.iload 4, 2) := by decide +kernel
theorem dX9_blunder_46 : decode cX9_blunder 46 = .ok (.iastore, 1) := by decide +kernel
theorem dX9_blunder_47 : decode cX9_blunder 47 = .ok (.aload_n 0, 1) := by decide +kernel
theorem dX9_blunder_48 : decode cX9_blunder 48 = .ok (.invokevirtual 403, 3) := by decide +kernel
theorem dX9_blunder_51 : decode cX9_blunder 51 = .ok (.bipush 100, 2) := by decide +kernel
theorem dX9_blunder_53 : decode cX9_blunder 53 = .ok (.if_icmp .le 7, 3) := by decide +kernel
theorem dX9_blunder_56 : decode cX9_blunder 56 = .ok (.iconst 1, 1) := by decide +kernel
theorem dX9_blunder_57 : decode cX9_blunder 57 = .ok (.goto 4, 3) := by decide +kernel
theorem dX9_blunder_60 : decode cX9_blunder 60 = .ok (.iconst 0, 1) := by decide +kernel
theorem dX9_blunder_61 : decode cX9_blunder 61 = .ok (.istore 5, 2) := by decide +kernel
theorem dX9_blunder_63 : decode cX9_blunder 63 = .ok (.aload_n 0, 1) := by decide +kernel
theorem dX9_blunder_64 : decode cX9_blunder 64 = .ok (.getfield 34, 3) := by decide +kernel
theorem dX9_blunder_67 : decode cX9_blunder 67 = .ok (.iconst 5, 1) := by decide +kernel
theorem dX9_blunder_68 : decode cX9_blunder 68 = .ok (.iload 4, 2) := by decide +kernel
theorem dX9_blunder_70 : decode cX9_blunder 70 = .ok (.iconst 1, 1) := by decide +kernel
theorem dX9_blunder_71 : decode cX9_blunder 71 = .ok (.iadd, 1) := by decide +kernel
theorem dX9_blunder_72 : decode cX9_blunder 72 = .ok (.iastore, 1) := by decide +kernel
theorem dX9_blunder_73 : decode cX9_blunder 73 = .ok (.iload 5, 2) := by decide +kernel
theorem dX9_blunder_75 : decode cX9_blunder 75 = .ok (.ifCond .eq 17, 3) := by decide +kernel
theorem dX9_blunder_78 : decode cX9_blunder 78 = .ok (.aload_n 0, 1) := by decide +kernel
theorem dX9_blunder_79 : decode cX9_blunder 79 = .ok (.invokevirtual 403, 3) := by decide +kernel
theorem dX9_blunder_82 : decode cX9_blunder 82 = .ok (.bipush 100, 2) := by decide +kernel
theorem dX9_blunder_84 : decode cX9_blunder 84 = .ok (.if_icmp .le 8, 3) := by decide +kernel
theorem dX9_blunder_87 : decode cX9_blunder 87 = .ok (.iload 4, 2) := by decide +kernel
theorem dX9_blunder_89 : decode cX9_blunder 89 = .ok (.goto 4, 3) := by decide +kernel
theorem dX9_blunder_92 : decode cX9_blunder 92 = .ok (.iconst (-1), 1) := by decide +kernel
theorem dX9_blunder_93 : decode cX9_blunder 93 = .ok (.istore_n 3, 1) := by decide +kernel
theorem dX9_blunder_94 : decode cX9_blunder 94 = .ok (.iinc 4 1, 3) := by decide +kernel
theorem dX9_blunder_97 : decode cX9_blunder 97 = .ok (.goto (-69), 3) := by decide +kernel
theorem dX9_blunder_100 : decode cX9_blunder 100 = .ok (.aload_n 0, 1) := by decide +kernel
theorem dX9_blunder_101 : decode cX9_blunder 101 = .ok (.getfield 34, 3) := by decide +kernel
theorem dX9_blunder_104 : decode cX9_blunder 104 = .ok (.iconst 5, 1) := by decide +kernel
theorem dX9_blunder_105 : decode cX9_blunder 105 = .ok (.iload_n 2, 1) := by decide +kernel
theorem dX9_blunder_106 : decode cX9_blunder 106 = .ok (.iastore, 1) := by decide +kernel
theorem dX9_blunder_107 : decode cX9_blunder 107 = .ok (.iload_n 3, 1) := by decide +kernel
theorem dX9_blunder_108 : decode cX9_blunder 108 = .ok (.ireturn, 1) := by decide +kernel
set_option maxHeartbeats 4000000 in
set_option maxRecDepth 100000 in
theorem s_X9_blunder (l : Launch) (D : va_G) (K : Nat → ClassId) (ad : Nat → Nat) (v ar : sI) (al : sL) (hI : YI v ar) : Met l yX9_blunder (wM yX9_blunder cX9_blunder 6 (some .int)) (rmD 36) (va_Pc [.ref (ad 0)] (wPre D K ad (yG ad K) 21 v ar al)) (va_Qi (fun (r : Int32) (u : sT) => (∃ z : Int, (-2147483648 ≤ z ∧ z ≤ 2147483647) ∧ r = iI z) ∧ YI u.1 u.2.1 ∧ (∀ i j : Nat, (i, j) ∉ ([(0, 0), (0, 24), (0, 25), (0, 26), (0, 27), (0, 44), (0, 45)] : List (Nat × Nat)) → u.1 i j = v i j) ∧ (∀ i : Nat, i ∉ ([7, 12, 13, 14, 18] : List Nat) → u.2.1 i = ar i) ∧ (∀ i : Nat, i ∉ ([] : List Nat) → u.2.2 i = al i)) (wB D ad (yG ad K) 21) (inW ad 21)) 0 0 (inW ad 21) := by
  refine s_metI (by decide) (Nat.le_of_ble_eq_true rfl) ?_
  intro p e s m below meth c ls args Q hE hB hl kr
  have hE : CallFix p m c cX9_blunder 6 s args tbG "TaleCourtModel" := hE
  obtain ⟨hP, hK, hN⟩ := hB
  have hS : va_S (inW ad 21) s.heap s.heap [] := va_S.rf
  have hl : lv_has ls 6 [(0, .ref (ad 0))] := hl
  obtain ⟨z1, hz1, ez1⟩ := iI_of (ar 6 0)
  obtain ⟨z2, hz2, ez2⟩ := YI_h2 hI 2 (by decide)
  obtain ⟨z3, hz3, ez3⟩ := YI_h5 hI 5 (by decide)
  obtain ⟨z4, hz4, ez4⟩ := YI_h0 hI 0 (by decide)
  have ht0 := YI_t0 hI ez1 (by omega) ez2 (by omega) ez3 (by omega) ez4 (by omega)
  refine lv_aload_n hE.1 hE.2.1 dX9_blunder_0 rfl (lv_at hl 0 rfl) ?_
  refine lv_iconst (v := iI (0)) hE.1 hE.2.1 dX9_blunder_1 (by decide) ?_
  refine x_put (x := iI (0)) hE hK hN hP hS 0 (by decide) (yG_9 rfl) rfl hin9 tyX9 tyX9_ok nmX9 0 (by decide) mw_1334 rfl rfl rfl (Nat.le_of_ble_eq_true rfl) (yG_9 rfl) dX9_blunder_2 (fun v5 H locs hv5 hP hS => ?_)
  have hI := YI_putN hI hv5 (by decide)
  refine lv_aload_n hE.1 hE.2.1 dX9_blunder_5 rfl (lv_at hl 0 rfl) ?_
  refine x_vp (nn := 0) (As := []) (rest := []) hE (s_X9_whyNoGame l D K ad v5 ar al hI (z1) (by omega) ez1 (z4) (by omega) ez4 ) wPre_blind (wPre_now hK hN hP) (x_recv hK hP 0 (by decide) (yG_9 rfl) rfl) rfl mw_1879 mw_1881 mw_94 mw_123 mw_1882 (by decide +kernel) ⟨by decide, by decide⟩ hl.1 rfl (Nat.le_of_ble_eq_true rfl) ⟨Nat.zero_le _, Nat.zero_le _⟩ dX9_blunder_6 (fun r6 hr6 => ?_)
  obtain ⟨z6, hz6, rfl⟩ := hr6
  refine lv_istore_n (lv' := [(1, .int (iI (z6))), (0, .ref (ad 0))]) hE.1 hE.2.1 dX9_blunder_9 rfl hl (by decide) rfl (fun ls hl => ?_)
  refine lv_iload_n hE.1 hE.2.1 dX9_blunder_10 rfl (lv_at hl 0 rfl) ?_
  refine s_if_eq (a := z6) (tgt := 16) hE.1 hE.2.1 (by omega) dX9_blunder_11 (by decide) (fun c7 => ?_) (fun c7 => ?_)
  · skip
    refine lv_aload_n hE.1 hE.2.1 dX9_blunder_16 rfl (lv_at hl 1 rfl) ?_
    refine x_get (x := .ref (ad 7)) hE hK hP 0 (by decide) (yG_9 rfl) rfl hin9 17 (by decide) mw_1351 rfl dX9_blunder_17 ?_
    refine lv_iconst (v := iI (5)) hE.1 hE.2.1 dX9_blunder_20 (by decide) ?_
    refine x_iald (j := iI (5)) hE hK hP 7 (by decide) (yG_10 rfl) (iI_in (n := 30) (by omega)) dX9_blunder_21 ?_
    refine x_top (y := iI (z3)) (by rw [show (iI (5)).toNatClampNeg = 5 from by decide]; exact ez3) ?_
    refine lv_istore_n (lv' := [(2, .int (iI (z3))), (1, .int (iI (z6))), (0, .ref (ad 0))]) hE.1 hE.2.1 dX9_blunder_22 rfl hl (by decide) rfl (fun ls hl => ?_)
    refine lv_iconst (v := iI (-1)) hE.1 hE.2.1 dX9_blunder_23 (by decide) ?_
    refine lv_istore_n (lv' := [(3, .int (iI (-1))), (2, .int (iI (z3))), (1, .int (iI (z6))), (0, .ref (ad 0))]) hE.1 hE.2.1 dX9_blunder_24 rfl hl (by decide) rfl (fun ls hl => ?_)
    refine lv_iconst (v := iI (0)) hE.1 hE.2.1 dX9_blunder_25 (by decide) ?_
    refine lv_istore (lv' := [(4, .int (iI (0))), (3, .int (iI (-1))), (2, .int (iI (z3))), (1, .int (iI (z6))), (0, .ref (ad 0))]) hE.1 hE.2.1 dX9_blunder_26 hl (by decide) rfl (fun ls hl => ?_)
    obtain ⟨z10, hz10, ez10⟩ := YI_h1 hI 1 (by decide)
    have loop9 : ∀ (k9 : Nat) (y9_4 : Int) (y9_3 : Int) (vl9 arl9 : sI) (all9 : sL) (H : Heap) (locs : List Loc) (ls : Array Slot), (18 - y9_4).toNat = k9 → (0 ≤ y9_4 ∧ y9_4 ≤ 18 ∧ y9_4 ≤ z3) → (-1 ≤ y9_3 ∧ y9_3 ≤ 18) → (BG arl9 (z4) (z10) (z3)) → YI vl9 arl9 → (∀ i j : Nat, (i, j) ∉ ([(0, 24), (0, 25), (0, 26), (0, 27), (0, 44), (0, 45)] : List (Nat × Nat)) → vl9 i j = v5 i j) → (∀ i : Nat, i ∉ ([7, 12, 13, 14, 18] : List Nat) → arl9 i = ar i) → (∀ i : Nat, i ∉ ([] : List Nat) → all9 i = al i) → va_P D xcl (wW ad (yG ad K) 21 vl9 arl9 all9) H → va_S (inW ad 21) s.heap H locs → lv_has ls 6 [(4, .int (iI (y9_4))), (3, .int (iI (y9_3))), (2, .int (iI (z3))), (1, .int (iI (z6))), (0, .ref (ad 0))] → W p l e (rmD 36) s m args below meth c H locs 0 0 Q (F0 m 28 ls []) := by
      intro k9
      induction k9 using Nat.strongRecOn with
      | _ k9 ih9 =>
        intro y9_4 y9_3  vl9 arl9 all9 H locs ls hk9 hb_y9_4 hb_y9_3 hb_xi9 hI hfr9 hfa9 hfl9 hP hS hl
        refine lv_iload hE.1 hE.2.1 dX9_blunder_28 (lv_at hl 0 rfl) ?_
        refine lv_iload_n hE.1 hE.2.1 dX9_blunder_30 rfl (lv_at hl 2 rfl) ?_
        refine s_icmp_ge (a := y9_4) (b := z3) (tgt := 100) hE.1 hE.2.1 (by omega) (by omega) dX9_blunder_31 (by decide) (fun c11 => ?_) (fun c11 => ?_)
        · skip
          refine lv_aload_n hE.1 hE.2.1 dX9_blunder_100 rfl (lv_at hl 4 rfl) ?_
          refine x_get (x := .ref (ad 7)) hE hK hP 0 (by decide) (yG_9 rfl) rfl hin9 17 (by decide) mw_1351 rfl dX9_blunder_101 ?_
          refine lv_iconst (v := iI (5)) hE.1 hE.2.1 dX9_blunder_104 (by decide) ?_
          refine lv_iload_n hE.1 hE.2.1 dX9_blunder_105 rfl (lv_at hl 2 rfl) ?_
          refine x_iast (j := iI (5)) hE hK hN hP hS 7 (by decide) (fun _ => yG_10 rfl) (iI_in (n := 30) (by omega)) dX9_blunder_106 (fun ar12 H locs ha12 hP hS => ?_)
          have hI := YI_set5 (z := z3) hI ha12 (BG_tr hb_xi9 hb_xi9.1 hb_xi9.2.1 rfl) (by omega) (by omega) (by omega) (by omega)
          refine lv_iload_n hE.1 hE.2.1 dX9_blunder_107 rfl (lv_at hl 1 rfl) ?_
          exact kr _ vl9 ar12 all9 _ _ _ _ rfl ⟨⟨y9_3, by omega, rfl⟩, hI, fun i j h => ((hfr9 i j (fun q => h (mem_sub (by decide) q))).trans (up_oth hv5 (fun q => h (by rcases q with ⟨rfl, rfl⟩; decide)))), fun i h => ((upx_ne ha12 i (fun q => h (by rw [q]; decide))).trans (hfa9 i (fun q => h (mem_subn (by decide) q)))), fun i h => (hfl9 i (fun q => h (mem_subn (by decide) q)))⟩ hP hS dX9_blunder_108
        · skip
          refine lv_iload_n hE.1 hE.2.1 dX9_blunder_34 rfl (lv_at hl 1 rfl) ?_
          refine lv_iconst (v := iI (-1)) hE.1 hE.2.1 dX9_blunder_35 (by decide) ?_
          refine s_icmp_ne (a := y9_3) (b := -1) (tgt := 100) hE.1 hE.2.1 (by omega) (by omega) dX9_blunder_36 (by decide) (fun c13 => ?_) (fun c13 => ?_)
          · skip
            refine lv_aload_n hE.1 hE.2.1 dX9_blunder_100 rfl (lv_at hl 4 rfl) ?_
            refine x_get (x := .ref (ad 7)) hE hK hP 0 (by decide) (yG_9 rfl) rfl hin9 17 (by decide) mw_1351 rfl dX9_blunder_101 ?_
            refine lv_iconst (v := iI (5)) hE.1 hE.2.1 dX9_blunder_104 (by decide) ?_
            refine lv_iload_n hE.1 hE.2.1 dX9_blunder_105 rfl (lv_at hl 2 rfl) ?_
            refine x_iast (j := iI (5)) hE hK hN hP hS 7 (by decide) (fun _ => yG_10 rfl) (iI_in (n := 30) (by omega)) dX9_blunder_106 (fun ar14 H locs ha14 hP hS => ?_)
            have hI := YI_set5 (z := z3) hI ha14 (BG_tr hb_xi9 hb_xi9.1 hb_xi9.2.1 rfl) (by omega) (by omega) (by omega) (by omega)
            refine lv_iload_n hE.1 hE.2.1 dX9_blunder_107 rfl (lv_at hl 1 rfl) ?_
            exact kr _ vl9 ar14 all9 _ _ _ _ rfl ⟨⟨y9_3, by omega, rfl⟩, hI, fun i j h => ((hfr9 i j (fun q => h (mem_sub (by decide) q))).trans (up_oth hv5 (fun q => h (by rcases q with ⟨rfl, rfl⟩; decide)))), fun i h => ((upx_ne ha14 i (fun q => h (by rw [q]; decide))).trans (hfa9 i (fun q => h (mem_subn (by decide) q)))), fun i h => (hfl9 i (fun q => h (mem_subn (by decide) q)))⟩ hP hS dX9_blunder_108
          · skip
            refine lv_aload_n hE.1 hE.2.1 dX9_blunder_39 rfl (lv_at hl 4 rfl) ?_
            refine x_get (x := .ref (ad 7)) hE hK hP 0 (by decide) (yG_9 rfl) rfl hin9 17 (by decide) mw_1351 rfl dX9_blunder_40 ?_
            refine lv_iconst (v := iI (5)) hE.1 hE.2.1 dX9_blunder_43 (by decide) ?_
            refine lv_iload hE.1 hE.2.1 dX9_blunder_44 (lv_at hl 0 rfl) ?_
            refine x_iast (j := iI (5)) hE hK hN hP hS 7 (by decide) (fun _ => yG_10 rfl) (iI_in (n := 30) (by omega)) dX9_blunder_46 (fun ar15 H locs ha15 hP hS => ?_)
            have hI := YI_set5 (z := y9_4) hI ha15 (BG_tr hb_xi9 hb_xi9.1 hb_xi9.2.1 rfl) (by omega) (by omega) (by omega) (by omega)
            refine lv_aload_n hE.1 hE.2.1 dX9_blunder_47 rfl (lv_at hl 4 rfl) ?_
            refine x_vi (nn := 0) (As := []) (rest := []) hE hK hN hP hS (s_X9_outcomeNow_e l D K ad vl9 ar15 all9 hI  ) (x_recv hK hP 0 (by decide) (yG_9 rfl) rfl) rfl mw_1883 mw_1885 mw_95 mw_123 mw_1886 (by decide +kernel) ⟨by decide, by decide⟩ hl.1 rfl (Nat.le_of_ble_eq_true rfl) ⟨Nat.zero_le _, Nat.zero_le _⟩ dX9_blunder_48 (fun r16 v16 ar16 al16 H locs hq16 hP hS => ?_)
            obtain ⟨⟨z16, hz16, rfl⟩, hI, hq16, hqa16, hql16, x16_1, x16_2, hx16, ex16_1, ex16_2⟩ := hq16
            have hI : YI v16 ar16 := hI
            refine lv_bipush (v := iI (100)) hE.1 hE.2.1 dX9_blunder_51 (by decide) ?_
            refine s_icmp_le (a := z16) (b := 100) (tgt := 60) hE.1 hE.2.1 (by omega) (by omega) dX9_blunder_53 (by decide) (fun c17 => ?_) (fun c17 => ?_)
            · skip
              refine lv_iconst (v := iI (0)) hE.1 hE.2.1 dX9_blunder_60 (by decide) ?_
              refine lv_istore (lv' := [(5, .int (iI (0))), (4, .int (iI (y9_4))), (3, .int (iI (y9_3))), (2, .int (iI (z3))), (1, .int (iI (z6))), (0, .ref (ad 0))]) hE.1 hE.2.1 dX9_blunder_61 hl (by decide) rfl (fun ls hl => ?_)
              refine lv_aload_n hE.1 hE.2.1 dX9_blunder_63 rfl (lv_at hl 5 rfl) ?_
              refine x_get (x := .ref (ad 7)) hE hK hP 0 (by decide) (yG_9 rfl) rfl hin9 17 (by decide) mw_1351 rfl dX9_blunder_64 ?_
              refine lv_iconst (v := iI (5)) hE.1 hE.2.1 dX9_blunder_67 (by decide) ?_
              refine lv_iload hE.1 hE.2.1 dX9_blunder_68 (lv_at hl 1 rfl) ?_
              refine lv_iconst (v := iI (1)) hE.1 hE.2.1 dX9_blunder_70 (by decide) ?_
              refine lv_iadd hE.1 hE.2.1 dX9_blunder_71 ?_
              refine x_top (y := iI (y9_4 + 1)) ((iI_add (y9_4) (1)).trans (congrArg iI (by omega))) ?_
              refine x_iast (j := iI (5)) hE hK hN hP hS 7 (by decide) (fun _ => yG_10 rfl) (iI_in (n := 30) (by omega)) dX9_blunder_72 (fun ar18 H locs ha18 hP hS => ?_)
              have hI := YI_set5 (z := y9_4 + 1) hI ha18 (BG_tr hb_xi9 ((congrFun (hqa16 7 (by decide)) 0).trans ((upa_idx ha15 (by decide)).trans hb_xi9.1)) ((congrFun (hqa16 7 (by decide)) 1).trans ((upa_idx ha15 (by decide)).trans hb_xi9.2.1)) ((hqa16 10 (by decide)).trans (upx_ne ha15 10 (by decide)))) (by omega) (by omega) (by omega) (by omega)
              refine lv_iload hE.1 hE.2.1 dX9_blunder_73 (lv_at hl 0 rfl) ?_
              refine s_if_eq (a := 0) (tgt := 92) hE.1 hE.2.1 (by omega) dX9_blunder_75 (by decide) (fun _ => ?_) (fun c19 => False.elim (by omega))
              refine lv_iconst (v := iI (-1)) hE.1 hE.2.1 dX9_blunder_92 (by decide) ?_
              refine lv_istore_n (lv' := [(3, .int (iI (-1))), (5, .int (iI (0))), (4, .int (iI (y9_4))), (2, .int (iI (z3))), (1, .int (iI (z6))), (0, .ref (ad 0))]) hE.1 hE.2.1 dX9_blunder_93 rfl hl (by decide) rfl (fun ls hl => ?_)
              refine lv_iinc (v := iI (y9_4 + 1)) (lv' := [(4, .int (iI (y9_4 + 1))), (3, .int (iI (-1))), (5, .int (iI (0))), (2, .int (iI (z3))), (1, .int (iI (z6))), (0, .ref (ad 0))]) hE.1 hE.2.1 dX9_blunder_94 hl (k := 2) rfl ((iI_add (y9_4) (1)).trans (congrArg iI (by omega))) (by decide) rfl (fun ls hl => ?_)
              refine lv_goto (tgt := 28) hE.1 hE.2.1 dX9_blunder_97 (by decide) ?_
              exact ih9 _ (by omega) (y9_4 + 1) (-1)  v16 ar18 al16 _ _ _ rfl (by omega) (by omega)  ((BG_tr hb_xi9 ((upa_idx ha18 (by decide)).trans ((congrFun (hqa16 7 (by decide)) 0).trans ((upa_idx ha15 (by decide)).trans hb_xi9.1))) ((upa_idx ha18 (by decide)).trans ((congrFun (hqa16 7 (by decide)) 1).trans ((upa_idx ha15 (by decide)).trans hb_xi9.2.1))) ((upx_ne ha18 10 (by decide)).trans ((hqa16 10 (by decide)).trans (upx_ne ha15 10 (by decide))))))  hI (fun i j h => ((hq16 i j (fun q => h (mem_sub (by decide) q))).trans (hfr9 i j h))) (fun i h => (((upx_ne ha18 i (fun q => h (by rw [q]; decide))).trans ((hqa16 i (fun q => h (mem_subn (by decide) q))).trans (upx_ne ha15 i (fun q => h (by rw [q]; decide))))).trans (hfa9 i h))) (fun i h => ((hql16 i (fun q => h (mem_subn (by decide) q))).trans (hfl9 i h))) hP hS (lv_sub hl [0, 1, 3, 4, 5] rfl)
            · skip
              refine lv_iconst (v := iI (1)) hE.1 hE.2.1 dX9_blunder_56 (by decide) ?_
              refine lv_goto (tgt := 61) hE.1 hE.2.1 dX9_blunder_57 (by decide) ?_
              refine lv_istore (lv' := [(5, .int (iI (1))), (4, .int (iI (y9_4))), (3, .int (iI (y9_3))), (2, .int (iI (z3))), (1, .int (iI (z6))), (0, .ref (ad 0))]) hE.1 hE.2.1 dX9_blunder_61 hl (by decide) rfl (fun ls hl => ?_)
              refine lv_aload_n hE.1 hE.2.1 dX9_blunder_63 rfl (lv_at hl 5 rfl) ?_
              refine x_get (x := .ref (ad 7)) hE hK hP 0 (by decide) (yG_9 rfl) rfl hin9 17 (by decide) mw_1351 rfl dX9_blunder_64 ?_
              refine lv_iconst (v := iI (5)) hE.1 hE.2.1 dX9_blunder_67 (by decide) ?_
              refine lv_iload hE.1 hE.2.1 dX9_blunder_68 (lv_at hl 1 rfl) ?_
              refine lv_iconst (v := iI (1)) hE.1 hE.2.1 dX9_blunder_70 (by decide) ?_
              refine lv_iadd hE.1 hE.2.1 dX9_blunder_71 ?_
              refine x_top (y := iI (y9_4 + 1)) ((iI_add (y9_4) (1)).trans (congrArg iI (by omega))) ?_
              refine x_iast (j := iI (5)) hE hK hN hP hS 7 (by decide) (fun _ => yG_10 rfl) (iI_in (n := 30) (by omega)) dX9_blunder_72 (fun ar20 H locs ha20 hP hS => ?_)
              have hI := YI_set5 (z := y9_4 + 1) hI ha20 (BG_tr hb_xi9 ((congrFun (hqa16 7 (by decide)) 0).trans ((upa_idx ha15 (by decide)).trans hb_xi9.1)) ((congrFun (hqa16 7 (by decide)) 1).trans ((upa_idx ha15 (by decide)).trans hb_xi9.2.1)) ((hqa16 10 (by decide)).trans (upx_ne ha15 10 (by decide)))) (by omega) (by omega) (by omega) (by omega)
              refine lv_iload hE.1 hE.2.1 dX9_blunder_73 (lv_at hl 0 rfl) ?_
              refine s_if_eq (a := 1) (tgt := 92) hE.1 hE.2.1 (by omega) dX9_blunder_75 (by decide) (fun c21 => False.elim (by omega)) (fun _ => ?_)
              refine lv_aload_n hE.1 hE.2.1 dX9_blunder_78 rfl (lv_at hl 5 rfl) ?_
              refine x_vi (nn := 0) (As := []) (rest := []) hE hK hN hP hS (s_X9_outcomeNow_e l D K ad v16 ar20 al16 hI  ) (x_recv hK hP 0 (by decide) (yG_9 rfl) rfl) rfl mw_1883 mw_1885 mw_95 mw_123 mw_1886 (by decide +kernel) ⟨by decide, by decide⟩ hl.1 rfl (Nat.le_of_ble_eq_true rfl) ⟨Nat.zero_le _, Nat.zero_le _⟩ dX9_blunder_79 (fun r22 v22 ar22 al22 H locs hq22 hP hS => ?_)
              obtain ⟨⟨z22, hz22, rfl⟩, hI, hq22, hqa22, hql22, x22_1, x22_2, hx22, ex22_1, ex22_2⟩ := hq22
              have hI : YI v22 ar22 := hI
              refine lv_bipush (v := iI (100)) hE.1 hE.2.1 dX9_blunder_82 (by decide) ?_
              refine s_icmp_le (a := z22) (b := 100) (tgt := 92) hE.1 hE.2.1 (by omega) (by omega) dX9_blunder_84 (by decide) (fun c23 => ?_) (fun c23 => ?_)
              · skip
                refine lv_iconst (v := iI (-1)) hE.1 hE.2.1 dX9_blunder_92 (by decide) ?_
                refine lv_istore_n (lv' := [(3, .int (iI (-1))), (5, .int (iI (1))), (4, .int (iI (y9_4))), (2, .int (iI (z3))), (1, .int (iI (z6))), (0, .ref (ad 0))]) hE.1 hE.2.1 dX9_blunder_93 rfl hl (by decide) rfl (fun ls hl => ?_)
                refine lv_iinc (v := iI (y9_4 + 1)) (lv' := [(4, .int (iI (y9_4 + 1))), (3, .int (iI (-1))), (5, .int (iI (1))), (2, .int (iI (z3))), (1, .int (iI (z6))), (0, .ref (ad 0))]) hE.1 hE.2.1 dX9_blunder_94 hl (k := 2) rfl ((iI_add (y9_4) (1)).trans (congrArg iI (by omega))) (by decide) rfl (fun ls hl => ?_)
                refine lv_goto (tgt := 28) hE.1 hE.2.1 dX9_blunder_97 (by decide) ?_
                exact ih9 _ (by omega) (y9_4 + 1) (-1)  v22 ar22 al22 _ _ _ rfl (by omega) (by omega)  ((BG_tr hb_xi9 ((congrFun (hqa22 7 (by decide)) 0).trans ((upa_idx ha20 (by decide)).trans ((congrFun (hqa16 7 (by decide)) 0).trans ((upa_idx ha15 (by decide)).trans hb_xi9.1)))) ((congrFun (hqa22 7 (by decide)) 1).trans ((upa_idx ha20 (by decide)).trans ((congrFun (hqa16 7 (by decide)) 1).trans ((upa_idx ha15 (by decide)).trans hb_xi9.2.1)))) ((hqa22 10 (by decide)).trans ((upx_ne ha20 10 (by decide)).trans ((hqa16 10 (by decide)).trans (upx_ne ha15 10 (by decide)))))))  hI (fun i j h => (((hq22 i j (fun q => h (mem_sub (by decide) q))).trans (hq16 i j (fun q => h (mem_sub (by decide) q)))).trans (hfr9 i j h))) (fun i h => (((hqa22 i (fun q => h (mem_subn (by decide) q))).trans ((upx_ne ha20 i (fun q => h (by rw [q]; decide))).trans ((hqa16 i (fun q => h (mem_subn (by decide) q))).trans (upx_ne ha15 i (fun q => h (by rw [q]; decide)))))).trans (hfa9 i h))) (fun i h => (((hql22 i (fun q => h (mem_subn (by decide) q))).trans (hql16 i (fun q => h (mem_subn (by decide) q)))).trans (hfl9 i h))) hP hS (lv_sub hl [0, 1, 3, 4, 5] rfl)
              · skip
                refine lv_iload hE.1 hE.2.1 dX9_blunder_87 (lv_at hl 1 rfl) ?_
                refine lv_goto (tgt := 93) hE.1 hE.2.1 dX9_blunder_89 (by decide) ?_
                refine lv_istore_n (lv' := [(3, .int (iI (y9_4))), (5, .int (iI (1))), (4, .int (iI (y9_4))), (2, .int (iI (z3))), (1, .int (iI (z6))), (0, .ref (ad 0))]) hE.1 hE.2.1 dX9_blunder_93 rfl hl (by decide) rfl (fun ls hl => ?_)
                refine lv_iinc (v := iI (y9_4 + 1)) (lv' := [(4, .int (iI (y9_4 + 1))), (3, .int (iI (y9_4))), (5, .int (iI (1))), (2, .int (iI (z3))), (1, .int (iI (z6))), (0, .ref (ad 0))]) hE.1 hE.2.1 dX9_blunder_94 hl (k := 2) rfl ((iI_add (y9_4) (1)).trans (congrArg iI (by omega))) (by decide) rfl (fun ls hl => ?_)
                refine lv_goto (tgt := 28) hE.1 hE.2.1 dX9_blunder_97 (by decide) ?_
                exact ih9 _ (by omega) (y9_4 + 1) (y9_4)  v22 ar22 al22 _ _ _ rfl (by omega) (by omega)  ((BG_tr hb_xi9 ((congrFun (hqa22 7 (by decide)) 0).trans ((upa_idx ha20 (by decide)).trans ((congrFun (hqa16 7 (by decide)) 0).trans ((upa_idx ha15 (by decide)).trans hb_xi9.1)))) ((congrFun (hqa22 7 (by decide)) 1).trans ((upa_idx ha20 (by decide)).trans ((congrFun (hqa16 7 (by decide)) 1).trans ((upa_idx ha15 (by decide)).trans hb_xi9.2.1)))) ((hqa22 10 (by decide)).trans ((upx_ne ha20 10 (by decide)).trans ((hqa16 10 (by decide)).trans (upx_ne ha15 10 (by decide)))))))  hI (fun i j h => (((hq22 i j (fun q => h (mem_sub (by decide) q))).trans (hq16 i j (fun q => h (mem_sub (by decide) q)))).trans (hfr9 i j h))) (fun i h => (((hqa22 i (fun q => h (mem_subn (by decide) q))).trans ((upx_ne ha20 i (fun q => h (by rw [q]; decide))).trans ((hqa16 i (fun q => h (mem_subn (by decide) q))).trans (upx_ne ha15 i (fun q => h (by rw [q]; decide)))))).trans (hfa9 i h))) (fun i h => (((hql22 i (fun q => h (mem_subn (by decide) q))).trans (hql16 i (fun q => h (mem_subn (by decide) q)))).trans (hfl9 i h))) hP hS (lv_sub hl [0, 1, 3, 4, 5] rfl)
    exact loop9 _ (0) (-1)  v5 ar al _ _ _ rfl (by omega) (by omega)  (⟨ez4, ez10, YI_g0 hI ez3 (by omega) ez4 (by omega) ez10 (by omega)⟩) hI (fun _ _ _ => rfl) (fun _ _ => rfl) (fun _ _ => rfl) hP hS hl
  · skip
    refine lv_iload_n hE.1 hE.2.1 dX9_blunder_14 rfl (lv_at hl 0 rfl) ?_
    exact kr _ v5 ar al _ _ _ _ rfl ⟨⟨z6, by omega, rfl⟩, hI, fun i j h => (up_oth hv5 (fun q => h (by rcases q with ⟨rfl, rfl⟩; decide))), fun i h => rfl, fun i h => rfl⟩ hP hS dX9_blunder_15
