theorem dX7_joined_0 : decode cX7_joined 0 = .ok (.aload_n 0, 1) := by decide +kernel
theorem dX7_joined_1 : decode cX7_joined 1 = .ok (.getfield 18, 3) := by decide +kernel
theorem dX7_joined_4 : decode cX7_joined 4 = .ok (.ifCond .lt 27, 3) := by decide +kernel
theorem dX7_joined_7 : decode cX7_joined 7 = .ok (.aload_n 0, 1) := by decide +kernel
theorem dX7_joined_8 : decode cX7_joined 8 = .ok (.getfield 18, 3) := by decide +kernel
theorem dX7_joined_11 : decode cX7_joined 11 = .ok (.bipush 9, 2) := by decide +kernel
theorem dX7_joined_13 : decode cX7_joined 13 = .ok (.if_icmp .ge 18, 3) := by decide +kernel
theorem dX7_joined_16 : decode cX7_joined 16 = .ok (.aload_n 0, 1) := by decide +kernel
theorem dX7_joined_17 : decode cX7_joined 17 = .ok (.getfield 37, 3) := by decide +kernel
theorem dX7_joined_20 : decode cX7_joined 20 = .ok (.getfield 101, 3) := by decide +kernel
theorem dX7_joined_23 : decode cX7_joined 23 = .ok (.aload_n 0, 1) := by decide +kernel
theorem dX7_joined_24 : decode cX7_joined 24 = .ok (.getfield 18, 3) := by decide +kernel
theorem dX7_joined_27 : decode cX7_joined 27 = .ok (.iaload, 1) := by decide +kernel
theorem dX7_joined_28 : decode cX7_joined 28 = .ok (.goto 10, 3) := by decide +kernel
theorem dX7_joined_31 : decode cX7_joined 31 = .ok (.aload_n 0, 1) := by decide +kernel
theorem dX7_joined_32 : decode cX7_joined 32 = .ok (.getfield 37, 3) := by decide +kernel
theorem dX7_joined_35 : decode cX7_joined 35 = .ok (.getfield 104, 3) := by decide +kernel
theorem dX7_joined_38 : decode cX7_joined 38 = .ok (.ireturn, 1) := by decide +kernel
set_option maxHeartbeats 4000000 in
set_option maxRecDepth 100000 in
theorem s_X7_joined_23 (l : Launch) (D : va_G) (K : Nat → ClassId) (ad : Nat → Nat) (mm : Option Nat) (N : Nat) (hNN : 132 ≤ N) (v ar : sI) (al : sL) (hI : XI v) : Met l yX7_joined (wM yX7_joined cX7_joined 1 (some .int)) (rmD 0) (va_Pc [.ref (ad 23)] (wPre D K ad (xG ad K mm) N v ar al)) (vp_Si (fun r => ∃ z : Int, (-2147483648 ≤ z ∧ z ≤ 2147483647) ∧ r = iI z)) 0 0 (fun _ => False) := by
  refine s_metP (by decide) (Nat.le_of_ble_eq_true rfl) ?_
  intro p e s m below meth c ls args Q hE hB hl kr
  have hE : CallFix p m c cX7_joined 1 s args tbG "TaleCourt$Telling" := hE
  obtain ⟨hP, hK, hN⟩ := hB
  have hl : lv_has ls 1 [(0, .ref (ad 23))] := hl
  refine lv_aload_n hE.1 hE.2.1 dX7_joined_0 rfl (lv_at hl 0 rfl) ?_
  obtain ⟨z1, hz1, ez1⟩ := iI_of (v 23 4)
  refine x_get (x := .int (v 23 4)) hE hK hP 23 (Nat.lt_of_lt_of_le (by decide) hNN) (xG_7 rfl) rfl hin7 4 (by decide) mw_309 rfl dX7_joined_1 ?_
  refine x_top (y := iI (z1)) ez1 ?_
  refine s_if_lt (a := z1) (tgt := 31) hE.1 hE.2.1 (by omega) dX7_joined_4 (by decide) (fun c2 => ?_) (fun c2 => ?_)
  · skip
    refine lv_aload_n hE.1 hE.2.1 dX7_joined_31 rfl (lv_at hl 0 rfl) ?_
    refine x_get (x := .ref (ad 3)) hE hK hP 23 (Nat.lt_of_lt_of_le (by decide) hNN) (xG_7 rfl) rfl hin7 6 (by decide) mw_315 rfl dX7_joined_32 ?_
    obtain ⟨z3, hz3, ez3⟩ := iI_of (v 3 7)
    refine x_get (x := .int (v 3 7)) hE hK hP 3 (Nat.lt_of_lt_of_le (by decide) hNN) (xG_1 rfl) rfl hin1 7 (by decide) mw_206 rfl dX7_joined_35 ?_
    refine x_top (y := iI (z3)) ez3 ?_
    exact kr _ _ _ rfl ⟨z3, by omega, rfl⟩ dX7_joined_38
  · skip
    refine lv_aload_n hE.1 hE.2.1 dX7_joined_7 rfl (lv_at hl 0 rfl) ?_
    refine x_get (x := .int (v 23 4)) hE hK hP 23 (Nat.lt_of_lt_of_le (by decide) hNN) (xG_7 rfl) rfl hin7 4 (by decide) mw_309 rfl dX7_joined_8 ?_
    refine x_top (y := iI (z1)) ez1 ?_
    refine lv_bipush (v := iI (9)) hE.1 hE.2.1 dX7_joined_11 (by decide) ?_
    refine s_icmp_ge (a := z1) (b := 9) (tgt := 31) hE.1 hE.2.1 (by omega) (by omega) dX7_joined_13 (by decide) (fun c4 => ?_) (fun c4 => ?_)
    · skip
      refine lv_aload_n hE.1 hE.2.1 dX7_joined_31 rfl (lv_at hl 0 rfl) ?_
      refine x_get (x := .ref (ad 3)) hE hK hP 23 (Nat.lt_of_lt_of_le (by decide) hNN) (xG_7 rfl) rfl hin7 6 (by decide) mw_315 rfl dX7_joined_32 ?_
      obtain ⟨z5, hz5, ez5⟩ := iI_of (v 3 7)
      refine x_get (x := .int (v 3 7)) hE hK hP 3 (Nat.lt_of_lt_of_le (by decide) hNN) (xG_1 rfl) rfl hin1 7 (by decide) mw_206 rfl dX7_joined_35 ?_
      refine x_top (y := iI (z5)) ez5 ?_
      exact kr _ _ _ rfl ⟨z5, by omega, rfl⟩ dX7_joined_38
    · skip
      refine lv_aload_n hE.1 hE.2.1 dX7_joined_16 rfl (lv_at hl 0 rfl) ?_
      refine x_get (x := .ref (ad 3)) hE hK hP 23 (Nat.lt_of_lt_of_le (by decide) hNN) (xG_7 rfl) rfl hin7 6 (by decide) mw_315 rfl dX7_joined_17 ?_
      refine x_get (x := .ref (ad 8)) hE hK hP 3 (Nat.lt_of_lt_of_le (by decide) hNN) (xG_1 rfl) rfl hin1 15 (by decide) mw_234 rfl dX7_joined_20 ?_
      refine lv_aload_n hE.1 hE.2.1 dX7_joined_23 rfl (lv_at hl 0 rfl) ?_
      refine x_get (x := .int (v 23 4)) hE hK hP 23 (Nat.lt_of_lt_of_le (by decide) hNN) (xG_7 rfl) rfl hin7 4 (by decide) mw_309 rfl dX7_joined_24 ?_
      refine x_top (y := iI (z1)) ez1 ?_
      refine x_iald (j := iI (z1)) hE hK hP 8 (Nat.lt_of_lt_of_le (by decide) hNN) (xG_10 rfl) (iI_in (n := 9) (by omega)) dX7_joined_27 ?_
      obtain ⟨z7, hz7, ez7⟩ := iI_of (ar 8 (iI (z1)).toNatClampNeg)
      refine x_top ez7 ?_
      refine lv_goto (tgt := 38) hE.1 hE.2.1 dX7_joined_28 (by decide) ?_
      exact kr _ _ _ rfl ⟨z7, by omega, rfl⟩ dX7_joined_38

theorem dX7_unpaid_0 : decode cX7_unpaid 0 = .ok (.aload_n 0, 1) := by decide +kernel
theorem dX7_unpaid_1 : decode cX7_unpaid 1 = .ok (.getfield 53, 3) := by decide +kernel
theorem dX7_unpaid_4 : decode cX7_unpaid 4 = .ok (.aload_n 0, 1) := by decide +kernel
theorem dX7_unpaid_5 : decode cX7_unpaid 5 = .ok (.getfield 44, 3) := by decide +kernel
theorem dX7_unpaid_8 : decode cX7_unpaid 8 = .ok (.iconst (-1), 1) := by decide +kernel
theorem dX7_unpaid_9 : decode cX7_unpaid 9 = .ok (.ixor, 1) := by decide +kernel
theorem dX7_unpaid_10 : decode cX7_unpaid 10 = .ok (.iand, 1) := by decide +kernel
theorem dX7_unpaid_11 : decode cX7_unpaid 11 = .ok (.ireturn, 1) := by decide +kernel
set_option maxHeartbeats 4000000 in
set_option maxRecDepth 100000 in
theorem s_X7_unpaid_23 (l : Launch) (D : va_G) (K : Nat → ClassId) (ad : Nat → Nat) (mm : Option Nat) (N : Nat) (hNN : 132 ≤ N) (v ar : sI) (al : sL) (hI : XI v) : Met l yX7_unpaid (wM yX7_unpaid cX7_unpaid 1 (some .int)) (rmD 0) (va_Pc [.ref (ad 23)] (wPre D K ad (xG ad K mm) N v ar al)) (vp_Si (fun r => ∃ z : Int, (-2147483648 ≤ z ∧ z ≤ 2147483647) ∧ r = iI z)) 0 0 (fun _ => False) := by
  refine s_metP (by decide) (Nat.le_of_ble_eq_true rfl) ?_
  intro p e s m below meth c ls args Q hE hB hl kr
  have hE : CallFix p m c cX7_unpaid 1 s args tbG "TaleCourt$Telling" := hE
  obtain ⟨hP, hK, hN⟩ := hB
  have hl : lv_has ls 1 [(0, .ref (ad 23))] := hl
  refine lv_aload_n hE.1 hE.2.1 dX7_unpaid_0 rfl (lv_at hl 0 rfl) ?_
  obtain ⟨z1, hz1, ez1⟩ := iI_of (v 23 9)
  refine x_get (x := .int (v 23 9)) hE hK hP 23 (Nat.lt_of_lt_of_le (by decide) hNN) (xG_7 rfl) rfl hin7 9 (by decide) mw_318 rfl dX7_unpaid_1 ?_
  refine x_top (y := iI (z1)) ez1 ?_
  refine lv_aload_n hE.1 hE.2.1 dX7_unpaid_4 rfl (lv_at hl 0 rfl) ?_
  obtain ⟨z2, hz2, ez2⟩ := iI_of (v 23 3)
  refine x_get (x := .int (v 23 3)) hE hK hP 23 (Nat.lt_of_lt_of_le (by decide) hNN) (xG_7 rfl) rfl hin7 3 (by decide) mw_305 rfl dX7_unpaid_5 ?_
  refine x_top (y := iI (z2)) ez2 ?_
  refine lv_iconst (v := iI (-1)) hE.1 hE.2.1 dX7_unpaid_8 (by decide) ?_
  refine lv_ixor hE.1 hE.2.1 dX7_unpaid_9 ?_
  obtain ⟨z3, hz3, ez3⟩ := iI_of (iI (z2) ^^^ iI (-1))
  refine x_top ez3 ?_
  refine lv_iand hE.1 hE.2.1 dX7_unpaid_10 ?_
  obtain ⟨z4, hz4, ez4⟩ := iI_of (iI (z1) &&& iI (z3))
  refine x_top ez4 ?_
  exact kr _ _ _ rfl ⟨z4, by omega, rfl⟩ dX7_unpaid_11

theorem dX7_pressing_0 : decode cX7_pressing 0 = .ok (.aload_n 0, 1) := by decide +kernel
theorem dX7_pressing_1 : decode cX7_pressing 1 = .ok (.invokevirtual 86, 3) := by decide +kernel
theorem dX7_pressing_4 : decode cX7_pressing 4 = .ok (.istore_n 1, 1) := by decide +kernel
theorem dX7_pressing_5 : decode cX7_pressing 5 = .ok (.iconst 0, 1) := by decide +kernel
theorem dX7_pressing_6 : decode cX7_pressing 6 = .ok (.istore_n 2, 1) := by decide +kernel
theorem dX7_pressing_7 : decode cX7_pressing 7 = .ok (.iload_n 2, 1) := by decide +kernel
theorem dX7_pressing_8 : decode cX7_pressing 8 = .ok (.bipush 9, 2) := by decide +kernel
theorem dX7_pressing_10 : decode cX7_pressing 10 = .ok (.if_icmp .ge 36, 3) := by decide +kernel
theorem dX7_pressing_13 : decode cX7_pressing 13 = .ok (.iload_n 1, 1) := by decide +kernel
theorem dX7_pressing_14 : decode cX7_pressing 14 = .ok (.iload_n 2, 1) := by decide +kernel
theorem dX7_pressing_15 : decode cX7_pressing 15 = .ok (.ishr, 1) := by decide +kernel
theorem dX7_pressing_16 : decode cX7_pressing 16 = .ok (.ifCond .eq 30, 3) := by decide +kernel
theorem dX7_pressing_19 : decode cX7_pressing 19 = .ok (.aload_n 0, 1) := by decide +kernel
theorem dX7_pressing_20 : decode cX7_pressing 20 = .ok (.getfield 15, 3) := by decide +kernel
theorem dX7_pressing_23 : decode cX7_pressing 23 = .ok (.iload_n 2, 1) := by decide +kernel
theorem dX7_pressing_24 : decode cX7_pressing 24 = .ok (.iaload, 1) := by decide +kernel
theorem dX7_pressing_25 : decode cX7_pressing 25 = .ok (.aload_n 0, 1) := by decide +kernel
theorem dX7_pressing_26 : decode cX7_pressing 26 = .ok (.getfield 41, 3) := by decide +kernel
theorem dX7_pressing_29 : decode cX7_pressing 29 = .ok (.if_icmp .le 11, 3) := by decide +kernel
theorem dX7_pressing_32 : decode cX7_pressing 32 = .ok (.iload_n 1, 1) := by decide +kernel
theorem dX7_pressing_33 : decode cX7_pressing 33 = .ok (.iconst 1, 1) := by decide +kernel
theorem dX7_pressing_34 : decode cX7_pressing 34 = .ok (.iload_n 2, 1) := by decide +kernel
theorem dX7_pressing_35 : decode cX7_pressing 35 = .ok (.ishl, 1) := by decide +kernel
theorem dX7_pressing_36 : decode cX7_pressing 36 = .ok (.iconst (-1), 1) := by decide +kernel
theorem dX7_pressing_37 : decode cX7_pressing 37 = .ok (.ixor, 1) := by decide +kernel
theorem dX7_pressing_38 : decode cX7_pressing 38 = .ok (.iand, 1) := by decide +kernel
theorem dX7_pressing_39 : decode cX7_pressing 39 = .ok (.istore_n 1, 1) := by decide +kernel
theorem dX7_pressing_40 : decode cX7_pressing 40 = .ok (.iinc 2 1, 3) := by decide +kernel
theorem dX7_pressing_43 : decode cX7_pressing 43 = .ok (.goto (-36), 3) := by decide +kernel
theorem dX7_pressing_46 : decode cX7_pressing 46 = .ok (.iload_n 1, 1) := by decide +kernel
theorem dX7_pressing_47 : decode cX7_pressing 47 = .ok (.ireturn, 1) := by decide +kernel
set_option maxHeartbeats 4000000 in
set_option maxRecDepth 100000 in
theorem s_X7_pressing_23 (l : Launch) (D : va_G) (K : Nat → ClassId) (ad : Nat → Nat) (mm : Option Nat) (N : Nat) (hNN : 132 ≤ N) (v ar : sI) (al : sL) (hI : XI v) : Met l yX7_pressing (wM yX7_pressing cX7_pressing 3 (some .int)) (rmD 1) (va_Pc [.ref (ad 23)] (wPre D K ad (xG ad K mm) N v ar al)) (vp_Si (fun r => ∃ z : Int, (-2147483648 ≤ z ∧ z ≤ 2147483647) ∧ r = iI z)) 0 0 (fun _ => False) := by
  refine s_metP (by decide) (Nat.le_of_ble_eq_true rfl) ?_
  intro p e s m below meth c ls args Q hE hB hl kr
  have hE : CallFix p m c cX7_pressing 3 s args tbG "TaleCourt$Telling" := hE
  obtain ⟨hP, hK, hN⟩ := hB
  have hl : lv_has ls 3 [(0, .ref (ad 23))] := hl
  refine lv_aload_n hE.1 hE.2.1 dX7_pressing_0 rfl (lv_at hl 0 rfl) ?_
  refine x_vp (nn := 0) (As := []) (rest := []) hE (s_X7_unpaid_23 l D K ad mm N hNN v ar al hI  ) wPre_blind (wPre_now hK hN hP) (x_recv hK hP 23 (Nat.lt_of_lt_of_le (by decide) hNN) (xG_7 rfl) rfl) rfl mw_754 mw_755 mw_756 mw_117 mw_757 (by decide +kernel) ⟨by decide, by decide⟩ hl.1 rfl (Nat.le_of_ble_eq_true rfl) ⟨Nat.zero_le _, Nat.zero_le _⟩ dX7_pressing_1 (fun r1 hr1 => ?_)
  obtain ⟨z1, hz1, rfl⟩ := hr1
  refine lv_istore_n (lv' := [(1, .int (iI (z1))), (0, .ref (ad 23))]) hE.1 hE.2.1 dX7_pressing_4 rfl hl (by decide) rfl (fun ls hl => ?_)
  refine lv_iconst (v := iI (0)) hE.1 hE.2.1 dX7_pressing_5 (by decide) ?_
  refine lv_istore_n (lv' := [(2, .int (iI (0))), (1, .int (iI (z1))), (0, .ref (ad 23))]) hE.1 hE.2.1 dX7_pressing_6 rfl hl (by decide) rfl (fun ls hl => ?_)
  have loop2 : ∀ (k2 : Nat) (y2_2 : Int) (y2_1 : Int) (ls : Array Slot), (9 - y2_2).toNat = k2 → (0 ≤ y2_2 ∧ y2_2 ≤ 9) → (-2147483648 ≤ y2_1 ∧ y2_1 ≤ 2147483647) → lv_has ls 3 [(2, .int (iI (y2_2))), (1, .int (iI (y2_1))), (0, .ref (ad 23))] → W p l e (rmD 1) s m args below meth c s.heap [] 0 0 Q (F0 m 7 ls []) := by
    intro k2
    induction k2 using Nat.strongRecOn with
    | _ k2 ih2 =>
      intro y2_2 y2_1 ls hk2 hb_y2_2 hb_y2_1 hl
      refine lv_iload_n hE.1 hE.2.1 dX7_pressing_7 rfl (lv_at hl 0 rfl) ?_
      refine lv_bipush (v := iI (9)) hE.1 hE.2.1 dX7_pressing_8 (by decide) ?_
      refine s_icmp_ge (a := y2_2) (b := 9) (tgt := 46) hE.1 hE.2.1 (by omega) (by omega) dX7_pressing_10 (by decide) (fun c3 => ?_) (fun c3 => ?_)
      · skip
        refine lv_iload_n hE.1 hE.2.1 dX7_pressing_46 rfl (lv_at hl 1 rfl) ?_
        exact kr _ _ _ rfl ⟨y2_1, by omega, rfl⟩ dX7_pressing_47
      · skip
        refine lv_iload_n hE.1 hE.2.1 dX7_pressing_13 rfl (lv_at hl 1 rfl) ?_
        refine lv_iload_n hE.1 hE.2.1 dX7_pressing_14 rfl (lv_at hl 0 rfl) ?_
        refine lv_ishr hE.1 hE.2.1 dX7_pressing_15 ?_
        obtain ⟨z4, hz4, ez4⟩ := iI_of (iI (y2_1) >>> (iI (y2_2) &&& 31))
        refine x_top ez4 ?_
        refine s_if_eq (a := z4) (tgt := 46) hE.1 hE.2.1 (by omega) dX7_pressing_16 (by decide) (fun c5 => ?_) (fun c5 => ?_)
        · skip
          refine lv_iload_n hE.1 hE.2.1 dX7_pressing_46 rfl (lv_at hl 1 rfl) ?_
          exact kr _ _ _ rfl ⟨y2_1, by omega, rfl⟩ dX7_pressing_47
        · skip
          refine lv_aload_n hE.1 hE.2.1 dX7_pressing_19 rfl (lv_at hl 2 rfl) ?_
          refine x_get (x := .ref (ad 25)) hE hK hP 23 (Nat.lt_of_lt_of_le (by decide) hNN) (xG_7 rfl) rfl hin7 1 (by decide) mw_299 rfl dX7_pressing_20 ?_
          refine lv_iload_n hE.1 hE.2.1 dX7_pressing_23 rfl (lv_at hl 0 rfl) ?_
          refine x_iald (j := iI (y2_2)) hE hK hP 25 (Nat.lt_of_lt_of_le (by decide) hNN) (xG_10 rfl) (iI_in (n := 9) (by omega)) dX7_pressing_24 ?_
          obtain ⟨z7, hz7, ez7⟩ := iI_of (ar 25 (iI (y2_2)).toNatClampNeg)
          refine x_top ez7 ?_
          refine lv_aload_n hE.1 hE.2.1 dX7_pressing_25 rfl (lv_at hl 2 rfl) ?_
          obtain ⟨z8, hz8, ez8⟩ := XI_get hI 23 2 0 18 (by decide)
          refine x_get (x := .int (v 23 2)) hE hK hP 23 (Nat.lt_of_lt_of_le (by decide) hNN) (xG_7 rfl) rfl hin7 2 (by decide) mw_301 rfl dX7_pressing_26 ?_
          refine x_top (y := iI (z8)) ez8 ?_
          refine s_icmp_le (a := z7) (b := z8) (tgt := 40) hE.1 hE.2.1 (by omega) (by omega) dX7_pressing_29 (by decide) (fun c9 => ?_) (fun c9 => ?_)
          · skip
            refine lv_iinc (v := iI (y2_2 + 1)) (lv' := [(2, .int (iI (y2_2 + 1))), (1, .int (iI (y2_1))), (0, .ref (ad 23))]) hE.1 hE.2.1 dX7_pressing_40 hl (k := 0) rfl ((iI_add (y2_2) (1)).trans (congrArg iI (by omega))) (by decide) rfl (fun ls hl => ?_)
            refine lv_goto (tgt := 7) hE.1 hE.2.1 dX7_pressing_43 (by decide) ?_
            exact ih2 _ (by omega) (y2_2 + 1) (y2_1) _ rfl (by omega) (by omega) (lv_sub hl [0, 1, 2] rfl)
          · skip
            refine lv_iload_n hE.1 hE.2.1 dX7_pressing_32 rfl (lv_at hl 1 rfl) ?_
            refine lv_iconst (v := iI (1)) hE.1 hE.2.1 dX7_pressing_33 (by decide) ?_
            refine lv_iload_n hE.1 hE.2.1 dX7_pressing_34 rfl (lv_at hl 0 rfl) ?_
            refine lv_ishl hE.1 hE.2.1 dX7_pressing_35 ?_
            obtain ⟨z10, hz10, ez10⟩ := iI_shl1 (a := y2_2) (by omega)
            refine x_top ez10 ?_
            refine lv_iconst (v := iI (-1)) hE.1 hE.2.1 dX7_pressing_36 (by decide) ?_
            refine lv_ixor hE.1 hE.2.1 dX7_pressing_37 ?_
            obtain ⟨z11, hz11, ez11⟩ := iI_of (iI (z10) ^^^ iI (-1))
            refine x_top ez11 ?_
            refine lv_iand hE.1 hE.2.1 dX7_pressing_38 ?_
            obtain ⟨z12, hz12, ez12⟩ := iI_of (iI (y2_1) &&& iI (z11))
            refine x_top ez12 ?_
            refine lv_istore_n (lv' := [(1, .int (iI (z12))), (2, .int (iI (y2_2))), (0, .ref (ad 23))]) hE.1 hE.2.1 dX7_pressing_39 rfl hl (by decide) rfl (fun ls hl => ?_)
            refine lv_iinc (v := iI (y2_2 + 1)) (lv' := [(2, .int (iI (y2_2 + 1))), (1, .int (iI (z12))), (0, .ref (ad 23))]) hE.1 hE.2.1 dX7_pressing_40 hl (k := 1) rfl ((iI_add (y2_2) (1)).trans (congrArg iI (by omega))) (by decide) rfl (fun ls hl => ?_)
            refine lv_goto (tgt := 7) hE.1 hE.2.1 dX7_pressing_43 (by decide) ?_
            exact ih2 _ (by omega) (y2_2 + 1) (z12) _ rfl (by omega) (by omega) (lv_sub hl [0, 1, 2] rfl)
  exact loop2 _ (0) (z1) _ rfl (by omega) (by omega) hl

theorem dX7_teller_0 : decode cX7_teller 0 = .ok (.aload_n 0, 1) := by decide +kernel
theorem dX7_teller_1 : decode cX7_teller 1 = .ok (.getfield 37, 3) := by decide +kernel
theorem dX7_teller_4 : decode cX7_teller 4 = .ok (.getfield 68, 3) := by decide +kernel
theorem dX7_teller_7 : decode cX7_teller 7 = .ok (.istore_n 1, 1) := by decide +kernel
theorem dX7_teller_8 : decode cX7_teller 8 = .ok (.iload_n 1, 1) := by decide +kernel
theorem dX7_teller_9 : decode cX7_teller 9 = .ok (.ifCond .le 24, 3) := by decide +kernel
theorem dX7_teller_12 : decode cX7_teller 12 = .ok (.iload_n 1, 1) := by decide +kernel
theorem dX7_teller_13 : decode cX7_teller 13 = .ok (.iconst 3, 1) := by decide +kernel
theorem dX7_teller_14 : decode cX7_teller 14 = .ok (.if_icmp .gt 19, 3) := by decide +kernel
theorem dX7_teller_17 : decode cX7_teller 17 = .ok (.aload_n 0, 1) := by decide +kernel
theorem dX7_teller_18 : decode cX7_teller 18 = .ok (.getfield 41, 3) := by decide +kernel
theorem dX7_teller_21 : decode cX7_teller 21 = .ok (.ifCond .lt 12, 3) := by decide +kernel
theorem dX7_teller_24 : decode cX7_teller 24 = .ok (.aload_n 0, 1) := by decide +kernel
theorem dX7_teller_25 : decode cX7_teller 25 = .ok (.getfield 41, 3) := by decide +kernel
theorem dX7_teller_28 : decode cX7_teller 28 = .ok (.iload_n 1, 1) := by decide +kernel
theorem dX7_teller_29 : decode cX7_teller 29 = .ok (.irem, 1) := by decide +kernel
theorem dX7_teller_30 : decode cX7_teller 30 = .ok (.goto 4, 3) := by decide +kernel
theorem dX7_teller_33 : decode cX7_teller 33 = .ok (.iconst 0, 1) := by decide +kernel
theorem dX7_teller_34 : decode cX7_teller 34 = .ok (.ireturn, 1) := by decide +kernel
set_option maxHeartbeats 4000000 in
set_option maxRecDepth 100000 in
theorem s_X7_teller_23 (l : Launch) (D : va_G) (K : Nat → ClassId) (ad : Nat → Nat) (mm : Option Nat) (N : Nat) (hNN : 132 ≤ N) (v ar : sI) (al : sL) (hI : XI v) : Met l yX7_teller (wM yX7_teller cX7_teller 2 (some .int)) (rmD 0) (va_Pc [.ref (ad 23)] (wPre D K ad (xG ad K mm) N v ar al)) (vp_Si (fun r => ∃ z : Int, (0 ≤ z ∧ z ≤ 2) ∧ r = iI z)) 0 0 (fun _ => False) := by
  refine s_metP (by decide) (Nat.le_of_ble_eq_true rfl) ?_
  intro p e s m below meth c ls args Q hE hB hl kr
  have hE : CallFix p m c cX7_teller 2 s args tbG "TaleCourt$Telling" := hE
  obtain ⟨hP, hK, hN⟩ := hB
  have hl : lv_has ls 2 [(0, .ref (ad 23))] := hl
  refine lv_aload_n hE.1 hE.2.1 dX7_teller_0 rfl (lv_at hl 0 rfl) ?_
  refine x_get (x := .ref (ad 3)) hE hK hP 23 (Nat.lt_of_lt_of_le (by decide) hNN) (xG_7 rfl) rfl hin7 6 (by decide) mw_315 rfl dX7_teller_1 ?_
  obtain ⟨z1, hz1, ez1⟩ := XI_get hI 3 0 0 3 (by decide)
  refine x_get (x := .int (v 3 0)) hE hK hP 3 (Nat.lt_of_lt_of_le (by decide) hNN) (xG_1 rfl) rfl hin1 0 (by decide) mw_179 rfl dX7_teller_4 ?_
  refine x_top (y := iI (z1)) ez1 ?_
  refine lv_istore_n (lv' := [(1, .int (iI (z1))), (0, .ref (ad 23))]) hE.1 hE.2.1 dX7_teller_7 rfl hl (by decide) rfl (fun ls hl => ?_)
  refine lv_iload_n hE.1 hE.2.1 dX7_teller_8 rfl (lv_at hl 0 rfl) ?_
  refine s_if_le (a := z1) (tgt := 33) hE.1 hE.2.1 (by omega) dX7_teller_9 (by decide) (fun c2 => ?_) (fun c2 => ?_)
  · skip
    refine lv_iconst (v := iI (0)) hE.1 hE.2.1 dX7_teller_33 (by decide) ?_
    exact kr _ _ _ rfl ⟨0, by omega, rfl⟩ dX7_teller_34
  · skip
    refine lv_iload_n hE.1 hE.2.1 dX7_teller_12 rfl (lv_at hl 0 rfl) ?_
    refine lv_iconst (v := iI (3)) hE.1 hE.2.1 dX7_teller_13 (by decide) ?_
    refine s_icmp_gt (a := z1) (b := 3) (tgt := 33) hE.1 hE.2.1 (by omega) (by omega) dX7_teller_14 (by decide) (fun c3 => False.elim (by omega)) (fun _ => ?_)
    refine lv_aload_n hE.1 hE.2.1 dX7_teller_17 rfl (lv_at hl 1 rfl) ?_
    obtain ⟨z4, hz4, ez4⟩ := XI_get hI 23 2 0 18 (by decide)
    refine x_get (x := .int (v 23 2)) hE hK hP 23 (Nat.lt_of_lt_of_le (by decide) hNN) (xG_7 rfl) rfl hin7 2 (by decide) mw_301 rfl dX7_teller_18 ?_
    refine x_top (y := iI (z4)) ez4 ?_
    refine s_if_lt (a := z4) (tgt := 33) hE.1 hE.2.1 (by omega) dX7_teller_21 (by decide) (fun c5 => False.elim (by omega)) (fun _ => ?_)
    refine lv_aload_n hE.1 hE.2.1 dX7_teller_24 rfl (lv_at hl 1 rfl) ?_
    refine x_get (x := .int (v 23 2)) hE hK hP 23 (Nat.lt_of_lt_of_le (by decide) hNN) (xG_7 rfl) rfl hin7 2 (by decide) mw_301 rfl dX7_teller_25 ?_
    refine x_top (y := iI (z4)) ez4 ?_
    refine lv_iload_n hE.1 hE.2.1 dX7_teller_28 rfl (lv_at hl 0 rfl) ?_
    refine lv_irem hE.1 hE.2.1 dX7_teller_29 (iI_ne0 (by omega) (by omega)) ?_
    obtain ⟨z6, hz6⟩ : ∃ z : Int, z = (z4) % (z1) ∧ 0 ≤ z ∧ z < z1 := ⟨_, rfl, Int.emod_nonneg _ (by omega), Int.emod_lt_of_pos _ (by omega)⟩
    refine x_top (y := iI (z6)) ((iI_rem (by omega) (by omega)).trans (congrArg iI hz6.1.symm)) ?_
    replace hz6 := hz6.2
    refine lv_goto (tgt := 34) hE.1 hE.2.1 dX7_teller_30 (by decide) ?_
    exact kr _ _ _ rfl ⟨z6, by omega, rfl⟩ dX7_teller_34

theorem dX7_reason_0 : decode cX7_reason 0 = .ok (.aload_n 0, 1) := by decide +kernel
theorem dX7_reason_1 : decode cX7_reason 1 = .ok (.getfield 44, 3) := by decide +kernel
theorem dX7_reason_4 : decode cX7_reason 4 = .ok (.iload_n 1, 1) := by decide +kernel
theorem dX7_reason_5 : decode cX7_reason 5 = .ok (.ishr, 1) := by decide +kernel
theorem dX7_reason_6 : decode cX7_reason 6 = .ok (.iconst 1, 1) := by decide +kernel
theorem dX7_reason_7 : decode cX7_reason 7 = .ok (.iand, 1) := by decide +kernel
theorem dX7_reason_8 : decode cX7_reason 8 = .ok (.ifCond .eq 5, 3) := by decide +kernel
theorem dX7_reason_11 : decode cX7_reason 11 = .ok (.iconst 1, 1) := by decide +kernel
theorem dX7_reason_12 : decode cX7_reason 12 = .ok (.ireturn, 1) := by decide +kernel
theorem dX7_reason_13 : decode cX7_reason 13 = .ok (.aload_n 0, 1) := by decide +kernel
theorem dX7_reason_14 : decode cX7_reason 14 = .ok (.getfield 50, 3) := by decide +kernel
theorem dX7_reason_17 : decode cX7_reason 17 = .ok (.iload_n 1, 1) := by decide +kernel
theorem dX7_reason_18 : decode cX7_reason 18 = .ok (.ishr, 1) := by decide +kernel
theorem dX7_reason_19 : decode cX7_reason 19 = .ok (.iconst 1, 1) := by decide +kernel
theorem dX7_reason_20 : decode cX7_reason 20 = .ok (.iand, 1) := by decide +kernel
theorem dX7_reason_21 : decode cX7_reason 21 = .ok (.ifCond .eq 5, 3) := by decide +kernel
theorem dX7_reason_24 : decode cX7_reason 24 = .ok (.iconst 2, 1) := by decide +kernel
theorem dX7_reason_25 : decode cX7_reason 25 = .ok (.ireturn, 1) := by decide +kernel
theorem dX7_reason_26 : decode cX7_reason 26 = .ok (.aload_n 0, 1) := by decide +kernel
theorem dX7_reason_27 : decode cX7_reason 27 = .ok (.invokevirtual 116, 3) := by decide +kernel
theorem dX7_reason_30 : decode cX7_reason 30 = .ok (.iload_n 1, 1) := by decide +kernel
theorem dX7_reason_31 : decode cX7_reason 31 = .ok (.ishr, 1) := by decide +kernel
theorem dX7_reason_32 : decode cX7_reason 32 = .ok (.iconst 1, 1) := by decide +kernel
theorem dX7_reason_33 : decode cX7_reason 33 = .ok (.iand, 1) := by decide +kernel
theorem dX7_reason_34 : decode cX7_reason 34 = .ok (.ifCond .ne 5, 3) := by decide +kernel
theorem dX7_reason_37 : decode cX7_reason 37 = .ok (.iconst 3, 1) := by decide +kernel
theorem dX7_reason_38 : decode cX7_reason 38 = .ok (.ireturn, 1) := by decide +kernel
theorem dX7_reason_39 : decode cX7_reason 39 = .ok (.aload_n 0, 1) := by decide +kernel
theorem dX7_reason_40 : decode cX7_reason 40 = .ok (.getfield 37, 3) := by decide +kernel
theorem dX7_reason_43 : decode cX7_reason 43 = .ok (.getfield 113, 3) := by decide +kernel
theorem dX7_reason_46 : decode cX7_reason 46 = .ok (.iload_n 1, 1) := by decide +kernel
theorem dX7_reason_47 : decode cX7_reason 47 = .ok (.ishr, 1) := by decide +kernel
theorem dX7_reason_48 : decode cX7_reason 48 = .ok (.iconst 1, 1) := by decide +kernel
theorem dX7_reason_49 : decode cX7_reason 49 = .ok (.iand, 1) := by decide +kernel
theorem dX7_reason_50 : decode cX7_reason 50 = .ok (.ifCond .eq 14, 3) := by decide +kernel
theorem dX7_reason_53 : decode cX7_reason 53 = .ok (.aload_n 0, 1) := by decide +kernel
theorem dX7_reason_54 : decode cX7_reason 54 = .ok (.getfield 41, 3) := by decide +kernel
theorem dX7_reason_57 : decode cX7_reason 57 = .ok (.iconst 1, 1) := by decide +kernel
theorem dX7_reason_58 : decode cX7_reason 58 = .ok (.iand, 1) := by decide +kernel
theorem dX7_reason_59 : decode cX7_reason 59 = .ok (.ifCond .ne 5, 3) := by decide +kernel
theorem dX7_reason_62 : decode cX7_reason 62 = .ok (.iconst 4, 1) := by decide +kernel
theorem dX7_reason_63 : decode cX7_reason 63 = .ok (.ireturn, 1) := by decide +kernel
theorem dX7_reason_64 : decode cX7_reason 64 = .ok (.aload_n 0, 1) := by decide +kernel
theorem dX7_reason_65 : decode cX7_reason 65 = .ok (.invokevirtual 119, 3) := by decide +kernel
theorem dX7_reason_68 : decode cX7_reason 68 = .ok (.iconst 1, 1) := by decide +kernel
theorem dX7_reason_69 : decode cX7_reason 69 = .ok (.iload_n 1, 1) := by decide +kernel
theorem dX7_reason_70 : decode cX7_reason 70 = .ok (.ishl, 1) := by decide +kernel
theorem dX7_reason_71 : decode cX7_reason 71 = .ok (.iconst (-1), 1) := by decide +kernel
theorem dX7_reason_72 : decode cX7_reason 72 = .ok (.ixor, 1) := by decide +kernel
theorem dX7_reason_73 : decode cX7_reason 73 = .ok (.iand, 1) := by decide +kernel
theorem dX7_reason_74 : decode cX7_reason 74 = .ok (.ifCond .eq 5, 3) := by decide +kernel
theorem dX7_reason_77 : decode cX7_reason 77 = .ok (.iconst 5, 1) := by decide +kernel
theorem dX7_reason_78 : decode cX7_reason 78 = .ok (.ireturn, 1) := by decide +kernel
theorem dX7_reason_79 : decode cX7_reason 79 = .ok (.aload_n 0, 1) := by decide +kernel
theorem dX7_reason_80 : decode cX7_reason 80 = .ok (.getfield 37, 3) := by decide +kernel
theorem dX7_reason_83 : decode cX7_reason 83 = .ok (.getfield 107, 3) := by decide +kernel
theorem dX7_reason_86 : decode cX7_reason 86 = .ok (.aload_n 0, 1) := by decide +kernel
theorem dX7_reason_87 : decode cX7_reason 87 = .ok (.invokevirtual 110, 3) := by decide +kernel
theorem dX7_reason_90 : decode cX7_reason 90 = .ok (.iaload, 1) := by decide +kernel
theorem dX7_reason_91 : decode cX7_reason 91 = .ok (.iload_n 1, 1) := by decide +kernel
theorem dX7_reason_92 : decode cX7_reason 92 = .ok (.ishr, 1) := by decide +kernel
theorem dX7_reason_93 : decode cX7_reason 93 = .ok (.iconst 1, 1) := by decide +kernel
theorem dX7_reason_94 : decode cX7_reason 94 = .ok (.iand, 1) := by decide +kernel
theorem dX7_reason_95 : decode cX7_reason 95 = .ok (.ifCond .eq 8, 3) := by decide +kernel
theorem dX7_reason_98 : decode cX7_reason 98 = .ok (.bipush 6, 2) := by decide +kernel
theorem dX7_reason_100 : decode cX7_reason 100 = .ok (.goto 4, 3) := by decide +kernel
theorem dX7_reason_103 : decode cX7_reason 103 = .ok (.iconst 0, 1) := by decide +kernel
theorem dX7_reason_104 : decode cX7_reason 104 = .ok (.ireturn, 1) := by decide +kernel
set_option maxHeartbeats 4000000 in
set_option maxRecDepth 100000 in
theorem s_X7_reason_23 (l : Launch) (D : va_G) (K : Nat → ClassId) (ad : Nat → Nat) (mm : Option Nat) (N : Nat) (hNN : 132 ≤ N) (v ar : sI) (al : sL) (hI : XI v) (z_1 : Int) (hz_1 : -2147483648 ≤ z_1 ∧ z_1 ≤ 2147483647) : Met l yX7_reason (wM yX7_reason cX7_reason 2 (some .int)) (rmD 2) (va_Pc [.ref (ad 23), .int (iI (z_1))] (wPre D K ad (xG ad K mm) N v ar al)) (vp_Si (fun r => ∃ z : Int, (-2147483648 ≤ z ∧ z ≤ 2147483647) ∧ r = iI z)) 0 0 (fun _ => False) := by
  refine s_metP (by decide) (Nat.le_of_ble_eq_true rfl) ?_
  intro p e s m below meth c ls args Q hE hB hl kr
  have hE : CallFix p m c cX7_reason 2 s args tbG "TaleCourt$Telling" := hE
  obtain ⟨hP, hK, hN⟩ := hB
  have hl : lv_has ls 2 [(0, .ref (ad 23)), (1, .int (iI (z_1)))] := hl
  refine lv_aload_n hE.1 hE.2.1 dX7_reason_0 rfl (lv_at hl 0 rfl) ?_
  obtain ⟨z1, hz1, ez1⟩ := iI_of (v 23 3)
  refine x_get (x := .int (v 23 3)) hE hK hP 23 (Nat.lt_of_lt_of_le (by decide) hNN) (xG_7 rfl) rfl hin7 3 (by decide) mw_305 rfl dX7_reason_1 ?_
  refine x_top (y := iI (z1)) ez1 ?_
  refine lv_iload_n hE.1 hE.2.1 dX7_reason_4 rfl (lv_at hl 1 rfl) ?_
  refine lv_ishr hE.1 hE.2.1 dX7_reason_5 ?_
  obtain ⟨z2, hz2, ez2⟩ := iI_of (iI (z1) >>> (iI (z_1) &&& 31))
  refine x_top ez2 ?_
  refine lv_iconst (v := iI (1)) hE.1 hE.2.1 dX7_reason_6 (by decide) ?_
  refine lv_iand hE.1 hE.2.1 dX7_reason_7 ?_
  obtain ⟨z3, hz3, ez3⟩ := iI_and (iI (z2)) (iI (1)) 1 (by decide)
  refine x_top ez3 ?_
  refine s_if_eq (a := z3) (tgt := 13) hE.1 hE.2.1 (by omega) dX7_reason_8 (by decide) (fun c4 => ?_) (fun c4 => ?_)
  · skip
    refine lv_aload_n hE.1 hE.2.1 dX7_reason_13 rfl (lv_at hl 0 rfl) ?_
    obtain ⟨z5, hz5, ez5⟩ := iI_of (v 23 8)
    refine x_get (x := .int (v 23 8)) hE hK hP 23 (Nat.lt_of_lt_of_le (by decide) hNN) (xG_7 rfl) rfl hin7 8 (by decide) mw_317 rfl dX7_reason_14 ?_
    refine x_top (y := iI (z5)) ez5 ?_
    refine lv_iload_n hE.1 hE.2.1 dX7_reason_17 rfl (lv_at hl 1 rfl) ?_
    refine lv_ishr hE.1 hE.2.1 dX7_reason_18 ?_
    obtain ⟨z6, hz6, ez6⟩ := iI_of (iI (z5) >>> (iI (z_1) &&& 31))
    refine x_top ez6 ?_
    refine lv_iconst (v := iI (1)) hE.1 hE.2.1 dX7_reason_19 (by decide) ?_
    refine lv_iand hE.1 hE.2.1 dX7_reason_20 ?_
    obtain ⟨z7, hz7, ez7⟩ := iI_and (iI (z6)) (iI (1)) 1 (by decide)
    refine x_top ez7 ?_
    refine s_if_eq (a := z7) (tgt := 26) hE.1 hE.2.1 (by omega) dX7_reason_21 (by decide) (fun c8 => ?_) (fun c8 => ?_)
    · skip
      refine lv_aload_n hE.1 hE.2.1 dX7_reason_26 rfl (lv_at hl 0 rfl) ?_
      refine x_vp (nn := 0) (As := []) (rest := []) hE (s_X7_joined_23 l D K ad mm N hNN v ar al hI  ) wPre_blind (wPre_now hK hN hP) (x_recv hK hP 23 (Nat.lt_of_lt_of_le (by decide) hNN) (xG_7 rfl) rfl) rfl mw_746 mw_748 mw_16 mw_117 mw_749 (by decide +kernel) ⟨by decide, by decide⟩ hl.1 rfl (Nat.le_of_ble_eq_true rfl) ⟨Nat.zero_le _, Nat.zero_le _⟩ dX7_reason_27 (fun r9 hr9 => ?_)
      obtain ⟨z9, hz9, rfl⟩ := hr9
      refine lv_iload_n hE.1 hE.2.1 dX7_reason_30 rfl (lv_at hl 1 rfl) ?_
      refine lv_ishr hE.1 hE.2.1 dX7_reason_31 ?_
      obtain ⟨z10, hz10, ez10⟩ := iI_of (iI (z9) >>> (iI (z_1) &&& 31))
      refine x_top ez10 ?_
      refine lv_iconst (v := iI (1)) hE.1 hE.2.1 dX7_reason_32 (by decide) ?_
      refine lv_iand hE.1 hE.2.1 dX7_reason_33 ?_
      obtain ⟨z11, hz11, ez11⟩ := iI_and (iI (z10)) (iI (1)) 1 (by decide)
      refine x_top ez11 ?_
      refine s_if_ne (a := z11) (tgt := 39) hE.1 hE.2.1 (by omega) dX7_reason_34 (by decide) (fun c12 => ?_) (fun c12 => ?_)
      · skip
        refine lv_aload_n hE.1 hE.2.1 dX7_reason_39 rfl (lv_at hl 0 rfl) ?_
        refine x_get (x := .ref (ad 3)) hE hK hP 23 (Nat.lt_of_lt_of_le (by decide) hNN) (xG_7 rfl) rfl hin7 6 (by decide) mw_315 rfl dX7_reason_40 ?_
        obtain ⟨z13, hz13, ez13⟩ := iI_of (v 3 8)
        refine x_get (x := .int (v 3 8)) hE hK hP 3 (Nat.lt_of_lt_of_le (by decide) hNN) (xG_1 rfl) rfl hin1 8 (by decide) mw_210 rfl dX7_reason_43 ?_
        refine x_top (y := iI (z13)) ez13 ?_
        refine lv_iload_n hE.1 hE.2.1 dX7_reason_46 rfl (lv_at hl 1 rfl) ?_
        refine lv_ishr hE.1 hE.2.1 dX7_reason_47 ?_
        obtain ⟨z14, hz14, ez14⟩ := iI_of (iI (z13) >>> (iI (z_1) &&& 31))
        refine x_top ez14 ?_
        refine lv_iconst (v := iI (1)) hE.1 hE.2.1 dX7_reason_48 (by decide) ?_
        refine lv_iand hE.1 hE.2.1 dX7_reason_49 ?_
        obtain ⟨z15, hz15, ez15⟩ := iI_and (iI (z14)) (iI (1)) 1 (by decide)
        refine x_top ez15 ?_
        refine s_if_eq (a := z15) (tgt := 64) hE.1 hE.2.1 (by omega) dX7_reason_50 (by decide) (fun c16 => ?_) (fun c16 => ?_)
        · skip
          refine lv_aload_n hE.1 hE.2.1 dX7_reason_64 rfl (lv_at hl 0 rfl) ?_
          refine x_vp (nn := 0) (As := []) (rest := []) hE (s_X7_pressing_23 l D K ad mm N hNN v ar al hI  ) wPre_blind (wPre_now hK hN hP) (x_recv hK hP 23 (Nat.lt_of_lt_of_le (by decide) hNN) (xG_7 rfl) rfl) rfl mw_750 mw_752 mw_17 mw_117 mw_753 (by decide +kernel) ⟨by decide, by decide⟩ hl.1 rfl (Nat.le_of_ble_eq_true rfl) ⟨Nat.zero_le _, Nat.zero_le _⟩ dX7_reason_65 (fun r17 hr17 => ?_)
          obtain ⟨z17, hz17, rfl⟩ := hr17
          refine lv_iconst (v := iI (1)) hE.1 hE.2.1 dX7_reason_68 (by decide) ?_
          refine lv_iload_n hE.1 hE.2.1 dX7_reason_69 rfl (lv_at hl 1 rfl) ?_
          refine lv_ishl hE.1 hE.2.1 dX7_reason_70 ?_
          obtain ⟨z18, hz18, ez18⟩ := iI_of (iI (1) <<< (iI (z_1) &&& 31))
          refine x_top ez18 ?_
          refine lv_iconst (v := iI (-1)) hE.1 hE.2.1 dX7_reason_71 (by decide) ?_
          refine lv_ixor hE.1 hE.2.1 dX7_reason_72 ?_
          obtain ⟨z19, hz19, ez19⟩ := iI_of (iI (z18) ^^^ iI (-1))
          refine x_top ez19 ?_
          refine lv_iand hE.1 hE.2.1 dX7_reason_73 ?_
          obtain ⟨z20, hz20, ez20⟩ := iI_of (iI (z17) &&& iI (z19))
          refine x_top ez20 ?_
          refine s_if_eq (a := z20) (tgt := 79) hE.1 hE.2.1 (by omega) dX7_reason_74 (by decide) (fun c21 => ?_) (fun c21 => ?_)
          · skip
            refine lv_aload_n hE.1 hE.2.1 dX7_reason_79 rfl (lv_at hl 0 rfl) ?_
            refine x_get (x := .ref (ad 3)) hE hK hP 23 (Nat.lt_of_lt_of_le (by decide) hNN) (xG_7 rfl) rfl hin7 6 (by decide) mw_315 rfl dX7_reason_80 ?_
            refine x_get (x := .ref (ad 10)) hE hK hP 3 (Nat.lt_of_lt_of_le (by decide) hNN) (xG_1 rfl) rfl hin1 17 (by decide) mw_240 rfl dX7_reason_83 ?_
            refine lv_aload_n hE.1 hE.2.1 dX7_reason_86 rfl (lv_at hl 0 rfl) ?_
            refine x_vp (nn := 0) (As := []) (rest := [.ref (ad 10)]) hE (s_X7_teller_23 l D K ad mm N hNN v ar al hI  ) wPre_blind (wPre_now hK hN hP) (x_recv hK hP 23 (Nat.lt_of_lt_of_le (by decide) hNN) (xG_7 rfl) rfl) rfl mw_758 mw_759 mw_760 mw_117 mw_761 (by decide +kernel) ⟨by decide, by decide⟩ hl.1 rfl (Nat.le_of_ble_eq_true rfl) ⟨Nat.zero_le _, Nat.zero_le _⟩ dX7_reason_87 (fun r22 hr22 => ?_)
            obtain ⟨z22, hz22, rfl⟩ := hr22
            refine x_iald (j := iI (z22)) hE hK hP 10 (Nat.lt_of_lt_of_le (by decide) hNN) (xG_10 rfl) (iI_in (n := 3) (by omega)) dX7_reason_90 ?_
            obtain ⟨z24, hz24, ez24⟩ := iI_of (ar 10 (iI (z22)).toNatClampNeg)
            refine x_top ez24 ?_
            refine lv_iload_n hE.1 hE.2.1 dX7_reason_91 rfl (lv_at hl 1 rfl) ?_
            refine lv_ishr hE.1 hE.2.1 dX7_reason_92 ?_
            obtain ⟨z25, hz25, ez25⟩ := iI_of (iI (z24) >>> (iI (z_1) &&& 31))
            refine x_top ez25 ?_
            refine lv_iconst (v := iI (1)) hE.1 hE.2.1 dX7_reason_93 (by decide) ?_
            refine lv_iand hE.1 hE.2.1 dX7_reason_94 ?_
            obtain ⟨z26, hz26, ez26⟩ := iI_and (iI (z25)) (iI (1)) 1 (by decide)
            refine x_top ez26 ?_
            refine s_if_eq (a := z26) (tgt := 103) hE.1 hE.2.1 (by omega) dX7_reason_95 (by decide) (fun c27 => ?_) (fun c27 => ?_)
            · skip
              refine lv_iconst (v := iI (0)) hE.1 hE.2.1 dX7_reason_103 (by decide) ?_
              exact kr _ _ _ rfl ⟨0, by omega, rfl⟩ dX7_reason_104
            · skip
              refine lv_bipush (v := iI (6)) hE.1 hE.2.1 dX7_reason_98 (by decide) ?_
              refine lv_goto (tgt := 104) hE.1 hE.2.1 dX7_reason_100 (by decide) ?_
              exact kr _ _ _ rfl ⟨6, by omega, rfl⟩ dX7_reason_104
          · skip
            refine lv_iconst (v := iI (5)) hE.1 hE.2.1 dX7_reason_77 (by decide) ?_
            exact kr _ _ _ rfl ⟨5, by omega, rfl⟩ dX7_reason_78
        · skip
          refine lv_aload_n hE.1 hE.2.1 dX7_reason_53 rfl (lv_at hl 0 rfl) ?_
          obtain ⟨z28, hz28, ez28⟩ := XI_get hI 23 2 0 18 (by decide)
          refine x_get (x := .int (v 23 2)) hE hK hP 23 (Nat.lt_of_lt_of_le (by decide) hNN) (xG_7 rfl) rfl hin7 2 (by decide) mw_301 rfl dX7_reason_54 ?_
          refine x_top (y := iI (z28)) ez28 ?_
          refine lv_iconst (v := iI (1)) hE.1 hE.2.1 dX7_reason_57 (by decide) ?_
          refine lv_iand hE.1 hE.2.1 dX7_reason_58 ?_
          obtain ⟨z29, hz29, ez29⟩ := iI_and (iI (z28)) (iI (1)) 1 (by decide)
          refine x_top ez29 ?_
          refine s_if_ne (a := z29) (tgt := 64) hE.1 hE.2.1 (by omega) dX7_reason_59 (by decide) (fun c30 => ?_) (fun c30 => ?_)
          · skip
            refine lv_aload_n hE.1 hE.2.1 dX7_reason_64 rfl (lv_at hl 0 rfl) ?_
            refine x_vp (nn := 0) (As := []) (rest := []) hE (s_X7_pressing_23 l D K ad mm N hNN v ar al hI  ) wPre_blind (wPre_now hK hN hP) (x_recv hK hP 23 (Nat.lt_of_lt_of_le (by decide) hNN) (xG_7 rfl) rfl) rfl mw_750 mw_752 mw_17 mw_117 mw_753 (by decide +kernel) ⟨by decide, by decide⟩ hl.1 rfl (Nat.le_of_ble_eq_true rfl) ⟨Nat.zero_le _, Nat.zero_le _⟩ dX7_reason_65 (fun r31 hr31 => ?_)
            obtain ⟨z31, hz31, rfl⟩ := hr31
            refine lv_iconst (v := iI (1)) hE.1 hE.2.1 dX7_reason_68 (by decide) ?_
            refine lv_iload_n hE.1 hE.2.1 dX7_reason_69 rfl (lv_at hl 1 rfl) ?_
            refine lv_ishl hE.1 hE.2.1 dX7_reason_70 ?_
            obtain ⟨z32, hz32, ez32⟩ := iI_of (iI (1) <<< (iI (z_1) &&& 31))
            refine x_top ez32 ?_
            refine lv_iconst (v := iI (-1)) hE.1 hE.2.1 dX7_reason_71 (by decide) ?_
            refine lv_ixor hE.1 hE.2.1 dX7_reason_72 ?_
            obtain ⟨z33, hz33, ez33⟩ := iI_of (iI (z32) ^^^ iI (-1))
            refine x_top ez33 ?_
            refine lv_iand hE.1 hE.2.1 dX7_reason_73 ?_
            obtain ⟨z34, hz34, ez34⟩ := iI_of (iI (z31) &&& iI (z33))
            refine x_top ez34 ?_
            refine s_if_eq (a := z34) (tgt := 79) hE.1 hE.2.1 (by omega) dX7_reason_74 (by decide) (fun c35 => ?_) (fun c35 => ?_)
            · skip
              refine lv_aload_n hE.1 hE.2.1 dX7_reason_79 rfl (lv_at hl 0 rfl) ?_
              refine x_get (x := .ref (ad 3)) hE hK hP 23 (Nat.lt_of_lt_of_le (by decide) hNN) (xG_7 rfl) rfl hin7 6 (by decide) mw_315 rfl dX7_reason_80 ?_
              refine x_get (x := .ref (ad 10)) hE hK hP 3 (Nat.lt_of_lt_of_le (by decide) hNN) (xG_1 rfl) rfl hin1 17 (by decide) mw_240 rfl dX7_reason_83 ?_
              refine lv_aload_n hE.1 hE.2.1 dX7_reason_86 rfl (lv_at hl 0 rfl) ?_
              refine x_vp (nn := 0) (As := []) (rest := [.ref (ad 10)]) hE (s_X7_teller_23 l D K ad mm N hNN v ar al hI  ) wPre_blind (wPre_now hK hN hP) (x_recv hK hP 23 (Nat.lt_of_lt_of_le (by decide) hNN) (xG_7 rfl) rfl) rfl mw_758 mw_759 mw_760 mw_117 mw_761 (by decide +kernel) ⟨by decide, by decide⟩ hl.1 rfl (Nat.le_of_ble_eq_true rfl) ⟨Nat.zero_le _, Nat.zero_le _⟩ dX7_reason_87 (fun r36 hr36 => ?_)
              obtain ⟨z36, hz36, rfl⟩ := hr36
              refine x_iald (j := iI (z36)) hE hK hP 10 (Nat.lt_of_lt_of_le (by decide) hNN) (xG_10 rfl) (iI_in (n := 3) (by omega)) dX7_reason_90 ?_
              obtain ⟨z38, hz38, ez38⟩ := iI_of (ar 10 (iI (z36)).toNatClampNeg)
              refine x_top ez38 ?_
              refine lv_iload_n hE.1 hE.2.1 dX7_reason_91 rfl (lv_at hl 1 rfl) ?_
              refine lv_ishr hE.1 hE.2.1 dX7_reason_92 ?_
              obtain ⟨z39, hz39, ez39⟩ := iI_of (iI (z38) >>> (iI (z_1) &&& 31))
              refine x_top ez39 ?_
              refine lv_iconst (v := iI (1)) hE.1 hE.2.1 dX7_reason_93 (by decide) ?_
              refine lv_iand hE.1 hE.2.1 dX7_reason_94 ?_
              obtain ⟨z40, hz40, ez40⟩ := iI_and (iI (z39)) (iI (1)) 1 (by decide)
              refine x_top ez40 ?_
              refine s_if_eq (a := z40) (tgt := 103) hE.1 hE.2.1 (by omega) dX7_reason_95 (by decide) (fun c41 => ?_) (fun c41 => ?_)
              · skip
                refine lv_iconst (v := iI (0)) hE.1 hE.2.1 dX7_reason_103 (by decide) ?_
                exact kr _ _ _ rfl ⟨0, by omega, rfl⟩ dX7_reason_104
              · skip
                refine lv_bipush (v := iI (6)) hE.1 hE.2.1 dX7_reason_98 (by decide) ?_
                refine lv_goto (tgt := 104) hE.1 hE.2.1 dX7_reason_100 (by decide) ?_
                exact kr _ _ _ rfl ⟨6, by omega, rfl⟩ dX7_reason_104
            · skip
              refine lv_iconst (v := iI (5)) hE.1 hE.2.1 dX7_reason_77 (by decide) ?_
              exact kr _ _ _ rfl ⟨5, by omega, rfl⟩ dX7_reason_78
          · skip
            refine lv_iconst (v := iI (4)) hE.1 hE.2.1 dX7_reason_62 (by decide) ?_
            exact kr _ _ _ rfl ⟨4, by omega, rfl⟩ dX7_reason_63
      · skip
        refine lv_iconst (v := iI (3)) hE.1 hE.2.1 dX7_reason_37 (by decide) ?_
        exact kr _ _ _ rfl ⟨3, by omega, rfl⟩ dX7_reason_38
    · skip
      refine lv_iconst (v := iI (2)) hE.1 hE.2.1 dX7_reason_24 (by decide) ?_
      exact kr _ _ _ rfl ⟨2, by omega, rfl⟩ dX7_reason_25
  · skip
    refine lv_iconst (v := iI (1)) hE.1 hE.2.1 dX7_reason_11 (by decide) ?_
    exact kr _ _ _ rfl ⟨1, by omega, rfl⟩ dX7_reason_12

theorem dX7_hasRoom_0 : decode cX7_hasRoom 0 = .ok (.aload_n 0, 1) := by decide +kernel
theorem dX7_hasRoom_1 : decode cX7_hasRoom 1 = .ok (.getfield 41, 3) := by decide +kernel
theorem dX7_hasRoom_4 : decode cX7_hasRoom 4 = .ok (.ifCond .lt 16, 3) := by decide +kernel
theorem dX7_hasRoom_7 : decode cX7_hasRoom 7 = .ok (.aload_n 0, 1) := by decide +kernel
theorem dX7_hasRoom_8 : decode cX7_hasRoom 8 = .ok (.getfield 41, 3) := by decide +kernel
theorem dX7_hasRoom_11 : decode cX7_hasRoom 11 = .ok (.bipush 18, 2) := by decide +kernel
theorem dX7_hasRoom_13 : decode cX7_hasRoom 13 = .ok (.if_icmp .ge 7, 3) := by decide +kernel
theorem dX7_hasRoom_16 : decode cX7_hasRoom 16 = .ok (.iconst 1, 1) := by decide +kernel
theorem dX7_hasRoom_17 : decode cX7_hasRoom 17 = .ok (.goto 4, 3) := by decide +kernel
theorem dX7_hasRoom_20 : decode cX7_hasRoom 20 = .ok (.iconst 0, 1) := by decide +kernel
theorem dX7_hasRoom_21 : decode cX7_hasRoom 21 = .ok (.ireturn, 1) := by decide +kernel
set_option maxHeartbeats 4000000 in
set_option maxRecDepth 100000 in
theorem s_X7_hasRoom_23 (l : Launch) (D : va_G) (K : Nat → ClassId) (ad : Nat → Nat) (mm : Option Nat) (N : Nat) (hNN : 132 ≤ N) (v ar : sI) (al : sL) (hI : XI v) (w_1 : Int) (hw_1 : 0 ≤ w_1 ∧ w_1 ≤ 18) (ew_1 : v 23 2 = iI w_1) : Met l yX7_hasRoom (wM yX7_hasRoom cX7_hasRoom 1 (some .boolean)) (rmD 0) (va_Pc [.ref (ad 23)] (wPre D K ad (xG ad K mm) N v ar al)) (vp_Si (fun r => ∃ z : Int, (z = 0 ∨ (z = 1 ∧ 0 ≤ w_1 ∧ w_1 ≤ 17)) ∧ r = iI z)) 0 0 (fun _ => False) := by
  refine s_metP (by decide) (Nat.le_of_ble_eq_true rfl) ?_
  intro p e s m below meth c ls args Q hE hB hl kr
  have hE : CallFix p m c cX7_hasRoom 1 s args tbG "TaleCourt$Telling" := hE
  obtain ⟨hP, hK, hN⟩ := hB
  have hl : lv_has ls 1 [(0, .ref (ad 23))] := hl
  refine lv_aload_n hE.1 hE.2.1 dX7_hasRoom_0 rfl (lv_at hl 0 rfl) ?_
  refine x_get (x := .int (v 23 2)) hE hK hP 23 (Nat.lt_of_lt_of_le (by decide) hNN) (xG_7 rfl) rfl hin7 2 (by decide) mw_301 rfl dX7_hasRoom_1 ?_
  refine x_top (y := iI (w_1)) ew_1 ?_
  refine s_if_lt (a := w_1) (tgt := 20) hE.1 hE.2.1 (by omega) dX7_hasRoom_4 (by decide) (fun c1 => False.elim (by omega)) (fun _ => ?_)
  refine lv_aload_n hE.1 hE.2.1 dX7_hasRoom_7 rfl (lv_at hl 0 rfl) ?_
  refine x_get (x := .int (v 23 2)) hE hK hP 23 (Nat.lt_of_lt_of_le (by decide) hNN) (xG_7 rfl) rfl hin7 2 (by decide) mw_301 rfl dX7_hasRoom_8 ?_
  refine x_top (y := iI (w_1)) ew_1 ?_
  refine lv_bipush (v := iI (18)) hE.1 hE.2.1 dX7_hasRoom_11 (by decide) ?_
  refine s_icmp_ge (a := w_1) (b := 18) (tgt := 20) hE.1 hE.2.1 (by omega) (by omega) dX7_hasRoom_13 (by decide) (fun c2 => ?_) (fun c2 => ?_)
  · skip
    refine lv_iconst (v := iI (0)) hE.1 hE.2.1 dX7_hasRoom_20 (by decide) ?_
    exact kr _ _ _ (nar01 (by omega)) ⟨0, by omega, rfl⟩ dX7_hasRoom_21
  · skip
    refine lv_iconst (v := iI (1)) hE.1 hE.2.1 dX7_hasRoom_16 (by decide) ?_
    refine lv_goto (tgt := 21) hE.1 hE.2.1 dX7_hasRoom_17 (by decide) ?_
    exact kr _ _ _ (nar01 (by omega)) ⟨1, by omega, rfl⟩ dX7_hasRoom_21

theorem dX7_remember_0 : decode cX7_remember 0 = .ok (.aload_n 0, 1) := by decide +kernel
theorem dX7_remember_1 : decode cX7_remember 1 = .ok (.getfield 9, 3) := by decide +kernel
theorem dX7_remember_4 : decode cX7_remember 4 = .ok (.aload_n 0, 1) := by decide +kernel
theorem dX7_remember_5 : decode cX7_remember 5 = .ok (.getfield 41, 3) := by decide +kernel
theorem dX7_remember_8 : decode cX7_remember 8 = .ok (.iload_n 1, 1) := by decide +kernel
theorem dX7_remember_9 : decode cX7_remember 9 = .ok (.iastore, 1) := by decide +kernel
theorem dX7_remember_10 : decode cX7_remember 10 = .ok (.aload_n 0, 1) := by decide +kernel
theorem dX7_remember_11 : decode cX7_remember 11 = .ok (.getfield 25, 3) := by decide +kernel
theorem dX7_remember_14 : decode cX7_remember 14 = .ok (.aload_n 0, 1) := by decide +kernel
theorem dX7_remember_15 : decode cX7_remember 15 = .ok (.getfield 41, 3) := by decide +kernel
theorem dX7_remember_18 : decode cX7_remember 18 = .ok (.aload_n 0, 1) := by decide +kernel
theorem dX7_remember_19 : decode cX7_remember 19 = .ok (.getfield 18, 3) := by decide +kernel
theorem dX7_remember_22 : decode cX7_remember 22 = .ok (.iastore, 1) := by decide +kernel
theorem dX7_remember_23 : decode cX7_remember 23 = .ok (.aload_n 0, 1) := by decide +kernel
theorem dX7_remember_24 : decode cX7_remember 24 = .ok (.getfield 28, 3) := by decide +kernel
theorem dX7_remember_27 : decode cX7_remember 27 = .ok (.aload_n 0, 1) := by decide +kernel
theorem dX7_remember_28 : decode cX7_remember 28 = .ok (.getfield 41, 3) := by decide +kernel
theorem dX7_remember_31 : decode cX7_remember 31 = .ok (.aload_n 0, 1) := by decide +kernel
theorem dX7_remember_32 : decode cX7_remember 32 = .ok (.getfield 50, 3) := by decide +kernel
theorem dX7_remember_35 : decode cX7_remember 35 = .ok (.iastore, 1) := by decide +kernel
theorem dX7_remember_36 : decode cX7_remember 36 = .ok (.aload_n 0, 1) := by decide +kernel
theorem dX7_remember_37 : decode cX7_remember 37 = .ok (.getfield 31, 3) := by decide +kernel
theorem dX7_remember_40 : decode cX7_remember 40 = .ok (.aload_n 0, 1) := by decide +kernel
theorem dX7_remember_41 : decode cX7_remember 41 = .ok (.getfield 41, 3) := by decide +kernel
theorem dX7_remember_44 : decode cX7_remember 44 = .ok (.aload_n 0, 1) := by decide +kernel
theorem dX7_remember_45 : decode cX7_remember 45 = .ok (.getfield 53, 3) := by decide +kernel
theorem dX7_remember_48 : decode cX7_remember 48 = .ok (.iastore, 1) := by decide +kernel
theorem dX7_remember_49 : decode cX7_remember 49 = .ok (.return_, 1) := by decide +kernel
set_option maxHeartbeats 4000000 in
set_option maxRecDepth 100000 in
theorem s_X7_remember_23 (l : Launch) (D : va_G) (K : Nat → ClassId) (ad : Nat → Nat) (mm : Option Nat) (N : Nat) (hNN : 132 ≤ N) (v ar : sI) (al : sL) (hI : XI v) (w_1 : Int) (hw_1 : 0 ≤ w_1 ∧ w_1 ≤ 17) (ew_1 : v 23 2 = iI w_1) (z_1 : Int) (hz_1 : -2147483648 ≤ z_1 ∧ z_1 ≤ 2147483647) : Met l yX7_remember (wM yX7_remember cX7_remember 2 none) (rmD 0) (va_Pc [.ref (ad 23), .int (iI (z_1))] (wPre D K ad (xG ad K mm) N v ar al)) (va_Qv (fun u : sT => XI u.1 ∧ (∀ i j : Nat, (i, j) ∉ ([] : List (Nat × Nat)) → u.1 i j = v i j)) (wB D ad (xG ad K mm) N) (inW ad N)) 0 0 (inW ad N) := by
  refine s_metV (by decide) (Nat.le_of_ble_eq_true rfl) ?_
  intro p e s m below meth c ls args Q hE hB hl kr
  have hE : CallFix p m c cX7_remember 2 s args tbG "TaleCourt$Telling" := hE
  obtain ⟨hP, hK, hN⟩ := hB
  have hS : va_S (inW ad N) s.heap s.heap [] := va_S.rf
  have hl : lv_has ls 2 [(0, .ref (ad 23)), (1, .int (iI (z_1)))] := hl
  refine lv_aload_n hE.1 hE.2.1 dX7_remember_0 rfl (lv_at hl 0 rfl) ?_
  refine x_get (x := .ref (ad 24)) hE hK hP 23 (Nat.lt_of_lt_of_le (by decide) hNN) (xG_7 rfl) rfl hin7 0 (by decide) mw_295 rfl dX7_remember_1 ?_
  refine lv_aload_n hE.1 hE.2.1 dX7_remember_4 rfl (lv_at hl 0 rfl) ?_
  refine x_get (x := .int (v 23 2)) hE hK hP 23 (Nat.lt_of_lt_of_le (by decide) hNN) (xG_7 rfl) rfl hin7 2 (by decide) mw_301 rfl dX7_remember_5 ?_
  refine x_top (y := iI (w_1)) ew_1 ?_
  refine lv_iload_n hE.1 hE.2.1 dX7_remember_8 rfl (lv_at hl 1 rfl) ?_
  refine x_iast (j := iI (w_1)) hE hK hN hP hS 24 (Nat.lt_of_lt_of_le (by decide) hNN) (fun _ => xG_10 rfl) (iI_in (n := 18) (by omega)) dX7_remember_9 (fun ar1 H locs ha1 hP hS => ?_)
  refine lv_aload_n hE.1 hE.2.1 dX7_remember_10 rfl (lv_at hl 0 rfl) ?_
  refine x_get (x := .ref (ad 27)) hE hK hP 23 (Nat.lt_of_lt_of_le (by decide) hNN) (xG_7 rfl) rfl hin7 10 (by decide) mw_319 rfl dX7_remember_11 ?_
  refine lv_aload_n hE.1 hE.2.1 dX7_remember_14 rfl (lv_at hl 0 rfl) ?_
  refine x_get (x := .int (v 23 2)) hE hK hP 23 (Nat.lt_of_lt_of_le (by decide) hNN) (xG_7 rfl) rfl hin7 2 (by decide) mw_301 rfl dX7_remember_15 ?_
  refine x_top (y := iI (w_1)) ew_1 ?_
  refine lv_aload_n hE.1 hE.2.1 dX7_remember_18 rfl (lv_at hl 0 rfl) ?_
  obtain ⟨z2, hz2, ez2⟩ := iI_of (v 23 4)
  refine x_get (x := .int (v 23 4)) hE hK hP 23 (Nat.lt_of_lt_of_le (by decide) hNN) (xG_7 rfl) rfl hin7 4 (by decide) mw_309 rfl dX7_remember_19 ?_
  refine x_top (y := iI (z2)) ez2 ?_
  refine x_iast (j := iI (w_1)) hE hK hN hP hS 27 (Nat.lt_of_lt_of_le (by decide) hNN) (fun _ => xG_10 rfl) (iI_in (n := 18) (by omega)) dX7_remember_22 (fun ar3 H locs ha3 hP hS => ?_)
  refine lv_aload_n hE.1 hE.2.1 dX7_remember_23 rfl (lv_at hl 0 rfl) ?_
  refine x_get (x := .ref (ad 28)) hE hK hP 23 (Nat.lt_of_lt_of_le (by decide) hNN) (xG_7 rfl) rfl hin7 11 (by decide) mw_320 rfl dX7_remember_24 ?_
  refine lv_aload_n hE.1 hE.2.1 dX7_remember_27 rfl (lv_at hl 0 rfl) ?_
  refine x_get (x := .int (v 23 2)) hE hK hP 23 (Nat.lt_of_lt_of_le (by decide) hNN) (xG_7 rfl) rfl hin7 2 (by decide) mw_301 rfl dX7_remember_28 ?_
  refine x_top (y := iI (w_1)) ew_1 ?_
  refine lv_aload_n hE.1 hE.2.1 dX7_remember_31 rfl (lv_at hl 0 rfl) ?_
  obtain ⟨z4, hz4, ez4⟩ := iI_of (v 23 8)
  refine x_get (x := .int (v 23 8)) hE hK hP 23 (Nat.lt_of_lt_of_le (by decide) hNN) (xG_7 rfl) rfl hin7 8 (by decide) mw_317 rfl dX7_remember_32 ?_
  refine x_top (y := iI (z4)) ez4 ?_
  refine x_iast (j := iI (w_1)) hE hK hN hP hS 28 (Nat.lt_of_lt_of_le (by decide) hNN) (fun _ => xG_10 rfl) (iI_in (n := 18) (by omega)) dX7_remember_35 (fun ar5 H locs ha5 hP hS => ?_)
  refine lv_aload_n hE.1 hE.2.1 dX7_remember_36 rfl (lv_at hl 0 rfl) ?_
  refine x_get (x := .ref (ad 29)) hE hK hP 23 (Nat.lt_of_lt_of_le (by decide) hNN) (xG_7 rfl) rfl hin7 12 (by decide) mw_321 rfl dX7_remember_37 ?_
  refine lv_aload_n hE.1 hE.2.1 dX7_remember_40 rfl (lv_at hl 0 rfl) ?_
  refine x_get (x := .int (v 23 2)) hE hK hP 23 (Nat.lt_of_lt_of_le (by decide) hNN) (xG_7 rfl) rfl hin7 2 (by decide) mw_301 rfl dX7_remember_41 ?_
  refine x_top (y := iI (w_1)) ew_1 ?_
  refine lv_aload_n hE.1 hE.2.1 dX7_remember_44 rfl (lv_at hl 0 rfl) ?_
  obtain ⟨z6, hz6, ez6⟩ := iI_of (v 23 9)
  refine x_get (x := .int (v 23 9)) hE hK hP 23 (Nat.lt_of_lt_of_le (by decide) hNN) (xG_7 rfl) rfl hin7 9 (by decide) mw_318 rfl dX7_remember_45 ?_
  refine x_top (y := iI (z6)) ez6 ?_
  refine x_iast (j := iI (w_1)) hE hK hN hP hS 29 (Nat.lt_of_lt_of_le (by decide) hNN) (fun _ => xG_10 rfl) (iI_in (n := 18) (by omega)) dX7_remember_48 (fun ar7 H locs ha7 hP hS => ?_)
  exact kr _ _ _ _ _ _ _ ⟨hI, fun i j h => rfl⟩ hP hS dX7_remember_49

theorem dX1_value_0 : decode cX1_value 0 = .ok (.iload_n 1, 1) := by decide +kernel
theorem dX1_value_1 : decode cX1_value 1 = .ok (.ifCond .lt 9, 3) := by decide +kernel
theorem dX1_value_4 : decode cX1_value 4 = .ok (.iload_n 1, 1) := by decide +kernel
theorem dX1_value_5 : decode cX1_value 5 = .ok (.bipush 9, 2) := by decide +kernel
theorem dX1_value_7 : decode cX1_value 7 = .ok (.if_icmp .lt 5, 3) := by decide +kernel
theorem dX1_value_10 : decode cX1_value 10 = .ok (.iconst 0, 1) := by decide +kernel
theorem dX1_value_11 : decode cX1_value 11 = .ok (.ireturn, 1) := by decide +kernel
theorem dX1_value_12 : decode cX1_value 12 = .ok (.aload_n 0, 1) := by decide +kernel
theorem dX1_value_13 : decode cX1_value 13 = .ok (.getfield 67, 3) := by decide +kernel
theorem dX1_value_16 : decode cX1_value 16 = .ok (.iload_n 1, 1) := by decide +kernel
theorem dX1_value_17 : decode cX1_value 17 = .ok (.ishr, 1) := by decide +kernel
theorem dX1_value_18 : decode cX1_value 18 = .ok (.iconst 1, 1) := by decide +kernel
theorem dX1_value_19 : decode cX1_value 19 = .ok (.iand, 1) := by decide +kernel
theorem dX1_value_20 : decode cX1_value 20 = .ok (.ifCond .eq 14, 3) := by decide +kernel
theorem dX1_value_23 : decode cX1_value 23 = .ok (.iconst 3, 1) := by decide +kernel
theorem dX1_value_24 : decode cX1_value 24 = .ok (.aload_n 0, 1) := by decide +kernel
theorem dX1_value_25 : decode cX1_value 25 = .ok (.getfield 9, 3) := by decide +kernel
theorem dX1_value_28 : decode cX1_value 28 = .ok (.iload_n 1, 1) := by decide +kernel
theorem dX1_value_29 : decode cX1_value 29 = .ok (.iaload, 1) := by decide +kernel
theorem dX1_value_30 : decode cX1_value 30 = .ok (.imul, 1) := by decide +kernel
theorem dX1_value_31 : decode cX1_value 31 = .ok (.goto 9, 3) := by decide +kernel
theorem dX1_value_34 : decode cX1_value 34 = .ok (.aload_n 0, 1) := by decide +kernel
theorem dX1_value_35 : decode cX1_value 35 = .ok (.getfield 9, 3) := by decide +kernel
theorem dX1_value_38 : decode cX1_value 38 = .ok (.iload_n 1, 1) := by decide +kernel
theorem dX1_value_39 : decode cX1_value 39 = .ok (.iaload, 1) := by decide +kernel
theorem dX1_value_40 : decode cX1_value 40 = .ok (.ireturn, 1) := by decide +kernel
set_option maxHeartbeats 4000000 in
set_option maxRecDepth 100000 in
theorem s_X1_value_3 (l : Launch) (D : va_G) (K : Nat → ClassId) (ad : Nat → Nat) (mm : Option Nat) (N : Nat) (hNN : 132 ≤ N) (v ar : sI) (al : sL) (hI : XI v) (z_1 : Int) (hz_1 : -2147483648 ≤ z_1 ∧ z_1 ≤ 2147483647) : Met l yX1_value (wM yX1_value cX1_value 2 (some .int)) (rmD 0) (va_Pc [.ref (ad 3), .int (iI (z_1))] (wPre D K ad (xG ad K mm) N v ar al)) (vp_Si (fun r => ∃ z : Int, (-2147483648 ≤ z ∧ z ≤ 2147483647) ∧ r = iI z)) 0 0 (fun _ => False) := by
  refine s_metP (by decide) (Nat.le_of_ble_eq_true rfl) ?_
  intro p e s m below meth c ls args Q hE hB hl kr
  have hE : CallFix p m c cX1_value 2 s args tbG "TaleCourt$Court" := hE
  obtain ⟨hP, hK, hN⟩ := hB
  have hl : lv_has ls 2 [(0, .ref (ad 3)), (1, .int (iI (z_1)))] := hl
  refine lv_iload_n hE.1 hE.2.1 dX1_value_0 rfl (lv_at hl 1 rfl) ?_
  refine s_if_lt (a := z_1) (tgt := 10) hE.1 hE.2.1 (by omega) dX1_value_1 (by decide) (fun c1 => ?_) (fun c1 => ?_)
  · skip
    refine lv_iconst (v := iI (0)) hE.1 hE.2.1 dX1_value_10 (by decide) ?_
    exact kr _ _ _ rfl ⟨0, by omega, rfl⟩ dX1_value_11
  · skip
    refine lv_iload_n hE.1 hE.2.1 dX1_value_4 rfl (lv_at hl 1 rfl) ?_
    refine lv_bipush (v := iI (9)) hE.1 hE.2.1 dX1_value_5 (by decide) ?_
    refine s_icmp_lt (a := z_1) (b := 9) (tgt := 12) hE.1 hE.2.1 (by omega) (by omega) dX1_value_7 (by decide) (fun c2 => ?_) (fun c2 => ?_)
    · skip
      refine lv_aload_n hE.1 hE.2.1 dX1_value_12 rfl (lv_at hl 0 rfl) ?_
      obtain ⟨z3, hz3, ez3⟩ := iI_of (v 3 9)
      refine x_get (x := .int (v 3 9)) hE hK hP 3 (Nat.lt_of_lt_of_le (by decide) hNN) (xG_1 rfl) rfl hin1 9 (by decide) mw_211 rfl dX1_value_13 ?_
      refine x_top (y := iI (z3)) ez3 ?_
      refine lv_iload_n hE.1 hE.2.1 dX1_value_16 rfl (lv_at hl 1 rfl) ?_
      refine lv_ishr hE.1 hE.2.1 dX1_value_17 ?_
      obtain ⟨z4, hz4, ez4⟩ := iI_of (iI (z3) >>> (iI (z_1) &&& 31))
      refine x_top ez4 ?_
      refine lv_iconst (v := iI (1)) hE.1 hE.2.1 dX1_value_18 (by decide) ?_
      refine lv_iand hE.1 hE.2.1 dX1_value_19 ?_
      obtain ⟨z5, hz5, ez5⟩ := iI_and (iI (z4)) (iI (1)) 1 (by decide)
      refine x_top ez5 ?_
      refine s_if_eq (a := z5) (tgt := 34) hE.1 hE.2.1 (by omega) dX1_value_20 (by decide) (fun c6 => ?_) (fun c6 => ?_)
      · skip
        refine lv_aload_n hE.1 hE.2.1 dX1_value_34 rfl (lv_at hl 0 rfl) ?_
        refine x_get (x := .ref (ad 4)) hE hK hP 3 (Nat.lt_of_lt_of_le (by decide) hNN) (xG_1 rfl) rfl hin1 11 (by decide) mw_218 rfl dX1_value_35 ?_
        refine lv_iload_n hE.1 hE.2.1 dX1_value_38 rfl (lv_at hl 1 rfl) ?_
        refine x_iald (j := iI (z_1)) hE hK hP 4 (Nat.lt_of_lt_of_le (by decide) hNN) (xG_10 rfl) (iI_in (n := 9) (by omega)) dX1_value_39 ?_
        obtain ⟨z8, hz8, ez8⟩ := iI_of (ar 4 (iI (z_1)).toNatClampNeg)
        refine x_top ez8 ?_
        exact kr _ _ _ rfl ⟨z8, by omega, rfl⟩ dX1_value_40
      · skip
        refine lv_iconst (v := iI (3)) hE.1 hE.2.1 dX1_value_23 (by decide) ?_
        refine lv_aload_n hE.1 hE.2.1 dX1_value_24 rfl (lv_at hl 0 rfl) ?_
        refine x_get (x := .ref (ad 4)) hE hK hP 3 (Nat.lt_of_lt_of_le (by decide) hNN) (xG_1 rfl) rfl hin1 11 (by decide) mw_218 rfl dX1_value_25 ?_
        refine lv_iload_n hE.1 hE.2.1 dX1_value_28 rfl (lv_at hl 1 rfl) ?_
        refine x_iald (j := iI (z_1)) hE hK hP 4 (Nat.lt_of_lt_of_le (by decide) hNN) (xG_10 rfl) (iI_in (n := 9) (by omega)) dX1_value_29 ?_
        obtain ⟨z10, hz10, ez10⟩ := iI_of (ar 4 (iI (z_1)).toNatClampNeg)
        refine x_top ez10 ?_
        refine lv_imul hE.1 hE.2.1 dX1_value_30 ?_
        obtain ⟨z11, hz11, ez11⟩ := iI_of (iI (3) * iI (z10))
        refine x_top ez11 ?_
        refine lv_goto (tgt := 40) hE.1 hE.2.1 dX1_value_31 (by decide) ?_
        exact kr _ _ _ rfl ⟨z11, by omega, rfl⟩ dX1_value_40
    · skip
      refine lv_iconst (v := iI (0)) hE.1 hE.2.1 dX1_value_10 (by decide) ?_
      exact kr _ _ _ rfl ⟨0, by omega, rfl⟩ dX1_value_11

theorem dX7_owe_0 : decode cX7_owe 0 = .ok (.iload_n 1, 1) := by decide +kernel
theorem dX7_owe_1 : decode cX7_owe 1 = .ok (.ifCond .lt 9, 3) := by decide +kernel
theorem dX7_owe_4 : decode cX7_owe 4 = .ok (.iload_n 1, 1) := by decide +kernel
theorem dX7_owe_5 : decode cX7_owe 5 = .ok (.bipush 9, 2) := by decide +kernel
theorem dX7_owe_7 : decode cX7_owe 7 = .ok (.if_icmp .lt 4, 3) := by decide +kernel
theorem dX7_owe_10 : decode cX7_owe 10 = .ok (.return_, 1) := by decide +kernel
theorem dX7_owe_11 : decode cX7_owe 11 = .ok (.aload_n 0, 1) := by decide +kernel
theorem dX7_owe_12 : decode cX7_owe 12 = .ok (.getfield 34, 3) := by decide +kernel
theorem dX7_owe_15 : decode cX7_owe 15 = .ok (.aload_n 0, 1) := by decide +kernel
theorem dX7_owe_16 : decode cX7_owe 16 = .ok (.getfield 41, 3) := by decide +kernel
theorem dX7_owe_19 : decode cX7_owe 19 = .ok (.aload_n 0, 1) := by decide +kernel
theorem dX7_owe_20 : decode cX7_owe 20 = .ok (.getfield 15, 3) := by decide +kernel
theorem dX7_owe_23 : decode cX7_owe 23 = .ok (.iload_n 1, 1) := by decide +kernel
theorem dX7_owe_24 : decode cX7_owe 24 = .ok (.iaload, 1) := by decide +kernel
theorem dX7_owe_25 : decode cX7_owe 25 = .ok (.iastore, 1) := by decide +kernel
theorem dX7_owe_26 : decode cX7_owe 26 = .ok (.aload_n 0, 1) := by decide +kernel
theorem dX7_owe_27 : decode cX7_owe 27 = .ok (.getfield 53, 3) := by decide +kernel
theorem dX7_owe_30 : decode cX7_owe 30 = .ok (.iload_n 1, 1) := by decide +kernel
theorem dX7_owe_31 : decode cX7_owe 31 = .ok (.ishr, 1) := by decide +kernel
theorem dX7_owe_32 : decode cX7_owe 32 = .ok (.iconst 1, 1) := by decide +kernel
theorem dX7_owe_33 : decode cX7_owe 33 = .ok (.iand, 1) := by decide +kernel
theorem dX7_owe_34 : decode cX7_owe 34 = .ok (.ifCond .eq 13, 3) := by decide +kernel
theorem dX7_owe_37 : decode cX7_owe 37 = .ok (.iload_n 2, 1) := by decide +kernel
theorem dX7_owe_38 : decode cX7_owe 38 = .ok (.aload_n 0, 1) := by decide +kernel
theorem dX7_owe_39 : decode cX7_owe 39 = .ok (.getfield 15, 3) := by decide +kernel
theorem dX7_owe_42 : decode cX7_owe 42 = .ok (.iload_n 1, 1) := by decide +kernel
theorem dX7_owe_43 : decode cX7_owe 43 = .ok (.iaload, 1) := by decide +kernel
theorem dX7_owe_44 : decode cX7_owe 44 = .ok (.if_icmp .ge 10, 3) := by decide +kernel
theorem dX7_owe_47 : decode cX7_owe 47 = .ok (.aload_n 0, 1) := by decide +kernel
theorem dX7_owe_48 : decode cX7_owe 48 = .ok (.getfield 15, 3) := by decide +kernel
theorem dX7_owe_51 : decode cX7_owe 51 = .ok (.iload_n 1, 1) := by decide +kernel
theorem dX7_owe_52 : decode cX7_owe 52 = .ok (.iload_n 2, 1) := by decide +kernel
theorem dX7_owe_53 : decode cX7_owe 53 = .ok (.iastore, 1) := by decide +kernel
theorem dX7_owe_54 : decode cX7_owe 54 = .ok (.aload_n 0, 1) := by decide +kernel
theorem dX7_owe_55 : decode cX7_owe 55 = .ok (.dup, 1) := by decide +kernel
theorem dX7_owe_56 : decode cX7_owe 56 = .ok (.getfield 53, 3) := by decide +kernel
theorem dX7_owe_59 : decode cX7_owe 59 = .ok (.iconst 1, 1) := by decide +kernel
theorem dX7_owe_60 : decode cX7_owe 60 = .ok (.iload_n 1, 1) := by decide +kernel
theorem dX7_owe_61 : decode cX7_owe 61 = .ok (.ishl, 1) := by decide +kernel
theorem dX7_owe_62 : decode cX7_owe 62 = .ok (.ior, 1) := by decide +kernel
theorem dX7_owe_63 : decode cX7_owe 63 = .ok (.putfield 53, 3) := by decide +kernel
theorem dX7_owe_66 : decode cX7_owe 66 = .ok (.return_, 1) := by decide +kernel
set_option maxHeartbeats 4000000 in
set_option maxRecDepth 100000 in
theorem s_X7_owe_23 (l : Launch) (D : va_G) (K : Nat → ClassId) (ad : Nat → Nat) (mm : Option Nat) (N : Nat) (hNN : 132 ≤ N) (v ar : sI) (al : sL) (hI : XI v) (w_1 : Int) (hw_1 : 0 ≤ w_1 ∧ w_1 ≤ 17) (ew_1 : v 23 2 = iI w_1) (z_1 : Int) (hz_1 : -2147483648 ≤ z_1 ∧ z_1 ≤ 2147483647) (z_2 : Int) (hz_2 : -2147483648 ≤ z_2 ∧ z_2 ≤ 2147483647) : Met l yX7_owe (wM yX7_owe cX7_owe 3 none) (rmD 0) (va_Pc [.ref (ad 23), .int (iI (z_1)), .int (iI (z_2))] (wPre D K ad (xG ad K mm) N v ar al)) (va_Qv (fun u : sT => XI u.1 ∧ (∀ i j : Nat, (i, j) ∉ ([(23, 9)] : List (Nat × Nat)) → u.1 i j = v i j)) (wB D ad (xG ad K mm) N) (inW ad N)) 0 0 (inW ad N) := by
  refine s_metV (by decide) (Nat.le_of_ble_eq_true rfl) ?_
  intro p e s m below meth c ls args Q hE hB hl kr
  have hE : CallFix p m c cX7_owe 3 s args tbG "TaleCourt$Telling" := hE
  obtain ⟨hP, hK, hN⟩ := hB
  have hS : va_S (inW ad N) s.heap s.heap [] := va_S.rf
  have hl : lv_has ls 3 [(0, .ref (ad 23)), (1, .int (iI (z_1))), (2, .int (iI (z_2)))] := hl
  refine lv_iload_n hE.1 hE.2.1 dX7_owe_0 rfl (lv_at hl 1 rfl) ?_
  refine s_if_lt (a := z_1) (tgt := 10) hE.1 hE.2.1 (by omega) dX7_owe_1 (by decide) (fun c1 => ?_) (fun c1 => ?_)
  · skip
    exact kr _ _ _ _ _ _ _ ⟨hI, fun i j h => rfl⟩ hP hS dX7_owe_10
  · skip
    refine lv_iload_n hE.1 hE.2.1 dX7_owe_4 rfl (lv_at hl 1 rfl) ?_
    refine lv_bipush (v := iI (9)) hE.1 hE.2.1 dX7_owe_5 (by decide) ?_
    refine s_icmp_lt (a := z_1) (b := 9) (tgt := 11) hE.1 hE.2.1 (by omega) (by omega) dX7_owe_7 (by decide) (fun c2 => ?_) (fun c2 => ?_)
    · skip
      refine lv_aload_n hE.1 hE.2.1 dX7_owe_11 rfl (lv_at hl 0 rfl) ?_
      refine x_get (x := .ref (ad 30)) hE hK hP 23 (Nat.lt_of_lt_of_le (by decide) hNN) (xG_7 rfl) rfl hin7 13 (by decide) mw_322 rfl dX7_owe_12 ?_
      refine lv_aload_n hE.1 hE.2.1 dX7_owe_15 rfl (lv_at hl 0 rfl) ?_
      refine x_get (x := .int (v 23 2)) hE hK hP 23 (Nat.lt_of_lt_of_le (by decide) hNN) (xG_7 rfl) rfl hin7 2 (by decide) mw_301 rfl dX7_owe_16 ?_
      refine x_top (y := iI (w_1)) ew_1 ?_
      refine lv_aload_n hE.1 hE.2.1 dX7_owe_19 rfl (lv_at hl 0 rfl) ?_
      refine x_get (x := .ref (ad 25)) hE hK hP 23 (Nat.lt_of_lt_of_le (by decide) hNN) (xG_7 rfl) rfl hin7 1 (by decide) mw_299 rfl dX7_owe_20 ?_
      refine lv_iload_n hE.1 hE.2.1 dX7_owe_23 rfl (lv_at hl 1 rfl) ?_
      refine x_iald (j := iI (z_1)) hE hK hP 25 (Nat.lt_of_lt_of_le (by decide) hNN) (xG_10 rfl) (iI_in (n := 9) (by omega)) dX7_owe_24 ?_
      obtain ⟨z4, hz4, ez4⟩ := iI_of (ar 25 (iI (z_1)).toNatClampNeg)
      refine x_top ez4 ?_
      refine x_iast (j := iI (w_1)) hE hK hN hP hS 30 (Nat.lt_of_lt_of_le (by decide) hNN) (fun _ => xG_10 rfl) (iI_in (n := 18) (by omega)) dX7_owe_25 (fun ar5 H locs ha5 hP hS => ?_)
      refine lv_aload_n hE.1 hE.2.1 dX7_owe_26 rfl (lv_at hl 0 rfl) ?_
      obtain ⟨z6, hz6, ez6⟩ := iI_of (v 23 9)
      refine x_get (x := .int (v 23 9)) hE hK hP 23 (Nat.lt_of_lt_of_le (by decide) hNN) (xG_7 rfl) rfl hin7 9 (by decide) mw_318 rfl dX7_owe_27 ?_
      refine x_top (y := iI (z6)) ez6 ?_
      refine lv_iload_n hE.1 hE.2.1 dX7_owe_30 rfl (lv_at hl 1 rfl) ?_
      refine lv_ishr hE.1 hE.2.1 dX7_owe_31 ?_
      obtain ⟨z7, hz7, ez7⟩ := iI_of (iI (z6) >>> (iI (z_1) &&& 31))
      refine x_top ez7 ?_
      refine lv_iconst (v := iI (1)) hE.1 hE.2.1 dX7_owe_32 (by decide) ?_
      refine lv_iand hE.1 hE.2.1 dX7_owe_33 ?_
      obtain ⟨z8, hz8, ez8⟩ := iI_and (iI (z7)) (iI (1)) 1 (by decide)
      refine x_top ez8 ?_
      refine s_if_eq (a := z8) (tgt := 47) hE.1 hE.2.1 (by omega) dX7_owe_34 (by decide) (fun c9 => ?_) (fun c9 => ?_)
      · skip
        refine lv_aload_n hE.1 hE.2.1 dX7_owe_47 rfl (lv_at hl 0 rfl) ?_
        refine x_get (x := .ref (ad 25)) hE hK hP 23 (Nat.lt_of_lt_of_le (by decide) hNN) (xG_7 rfl) rfl hin7 1 (by decide) mw_299 rfl dX7_owe_48 ?_
        refine lv_iload_n hE.1 hE.2.1 dX7_owe_51 rfl (lv_at hl 1 rfl) ?_
        refine lv_iload_n hE.1 hE.2.1 dX7_owe_52 rfl (lv_at hl 2 rfl) ?_
        refine x_iast (j := iI (z_1)) hE hK hN hP hS 25 (Nat.lt_of_lt_of_le (by decide) hNN) (fun _ => xG_10 rfl) (iI_in (n := 9) (by omega)) dX7_owe_53 (fun ar10 H locs ha10 hP hS => ?_)
        refine lv_aload_n hE.1 hE.2.1 dX7_owe_54 rfl (lv_at hl 0 rfl) ?_
        refine lv_dup hE.1 hE.2.1 dX7_owe_55 rfl ?_
        refine x_get (x := .int (v 23 9)) hE hK hP 23 (Nat.lt_of_lt_of_le (by decide) hNN) (xG_7 rfl) rfl hin7 9 (by decide) mw_318 rfl dX7_owe_56 ?_
        refine x_top (y := iI (z6)) ez6 ?_
        refine lv_iconst (v := iI (1)) hE.1 hE.2.1 dX7_owe_59 (by decide) ?_
        refine lv_iload_n hE.1 hE.2.1 dX7_owe_60 rfl (lv_at hl 1 rfl) ?_
        refine lv_ishl hE.1 hE.2.1 dX7_owe_61 ?_
        obtain ⟨z11, hz11, ez11⟩ := iI_shl1 (a := z_1) (by omega)
        refine x_top ez11 ?_
        refine lv_ior hE.1 hE.2.1 dX7_owe_62 ?_
        obtain ⟨z12, hz12, ez12⟩ := iI_of (iI (z6) ||| iI (z11))
        refine x_top ez12 ?_
        refine x_put (x := iI (z12)) hE hK hN hP hS 23 (Nat.lt_of_lt_of_le (by decide) hNN) (xG_7 rfl) rfl hin7 tyX7 tyX7_ok nmX7 9 (by decide) mw_318 rfl rfl rfl (Nat.le_of_ble_eq_true rfl) (xG_7 rfl) dX7_owe_63 (fun v13 H locs hv13 hP hS => ?_)
        have hI := XI_putN hI hv13 (by decide)
        exact kr _ _ _ _ _ _ _ ⟨hI, fun i j h => (up_oth hv13 (fun q => h (by rcases q with ⟨rfl, rfl⟩; decide)))⟩ hP hS dX7_owe_66
      · skip
        refine lv_iload_n hE.1 hE.2.1 dX7_owe_37 rfl (lv_at hl 2 rfl) ?_
        refine lv_aload_n hE.1 hE.2.1 dX7_owe_38 rfl (lv_at hl 0 rfl) ?_
        refine x_get (x := .ref (ad 25)) hE hK hP 23 (Nat.lt_of_lt_of_le (by decide) hNN) (xG_7 rfl) rfl hin7 1 (by decide) mw_299 rfl dX7_owe_39 ?_
        refine lv_iload_n hE.1 hE.2.1 dX7_owe_42 rfl (lv_at hl 1 rfl) ?_
        refine x_iald (j := iI (z_1)) hE hK hP 25 (Nat.lt_of_lt_of_le (by decide) hNN) (xG_10 rfl) (iI_in (n := 9) (by omega)) dX7_owe_43 ?_
        obtain ⟨z15, hz15, ez15⟩ := iI_of (ar5 25 (iI (z_1)).toNatClampNeg)
        refine x_top ez15 ?_
        refine s_icmp_ge (a := z_2) (b := z15) (tgt := 54) hE.1 hE.2.1 (by omega) (by omega) dX7_owe_44 (by decide) (fun c16 => ?_) (fun c16 => ?_)
        · skip
          refine lv_aload_n hE.1 hE.2.1 dX7_owe_54 rfl (lv_at hl 0 rfl) ?_
          refine lv_dup hE.1 hE.2.1 dX7_owe_55 rfl ?_
          refine x_get (x := .int (v 23 9)) hE hK hP 23 (Nat.lt_of_lt_of_le (by decide) hNN) (xG_7 rfl) rfl hin7 9 (by decide) mw_318 rfl dX7_owe_56 ?_
          refine x_top (y := iI (z6)) ez6 ?_
          refine lv_iconst (v := iI (1)) hE.1 hE.2.1 dX7_owe_59 (by decide) ?_
          refine lv_iload_n hE.1 hE.2.1 dX7_owe_60 rfl (lv_at hl 1 rfl) ?_
          refine lv_ishl hE.1 hE.2.1 dX7_owe_61 ?_
          obtain ⟨z17, hz17, ez17⟩ := iI_shl1 (a := z_1) (by omega)
          refine x_top ez17 ?_
          refine lv_ior hE.1 hE.2.1 dX7_owe_62 ?_
          obtain ⟨z18, hz18, ez18⟩ := iI_of (iI (z6) ||| iI (z17))
          refine x_top ez18 ?_
          refine x_put (x := iI (z18)) hE hK hN hP hS 23 (Nat.lt_of_lt_of_le (by decide) hNN) (xG_7 rfl) rfl hin7 tyX7 tyX7_ok nmX7 9 (by decide) mw_318 rfl rfl rfl (Nat.le_of_ble_eq_true rfl) (xG_7 rfl) dX7_owe_63 (fun v19 H locs hv19 hP hS => ?_)
          have hI := XI_putN hI hv19 (by decide)
          exact kr _ _ _ _ _ _ _ ⟨hI, fun i j h => (up_oth hv19 (fun q => h (by rcases q with ⟨rfl, rfl⟩; decide)))⟩ hP hS dX7_owe_66
        · skip
          refine lv_aload_n hE.1 hE.2.1 dX7_owe_47 rfl (lv_at hl 0 rfl) ?_
          refine x_get (x := .ref (ad 25)) hE hK hP 23 (Nat.lt_of_lt_of_le (by decide) hNN) (xG_7 rfl) rfl hin7 1 (by decide) mw_299 rfl dX7_owe_48 ?_
          refine lv_iload_n hE.1 hE.2.1 dX7_owe_51 rfl (lv_at hl 1 rfl) ?_
          refine lv_iload_n hE.1 hE.2.1 dX7_owe_52 rfl (lv_at hl 2 rfl) ?_
          refine x_iast (j := iI (z_1)) hE hK hN hP hS 25 (Nat.lt_of_lt_of_le (by decide) hNN) (fun _ => xG_10 rfl) (iI_in (n := 9) (by omega)) dX7_owe_53 (fun ar20 H locs ha20 hP hS => ?_)
          refine lv_aload_n hE.1 hE.2.1 dX7_owe_54 rfl (lv_at hl 0 rfl) ?_
          refine lv_dup hE.1 hE.2.1 dX7_owe_55 rfl ?_
          refine x_get (x := .int (v 23 9)) hE hK hP 23 (Nat.lt_of_lt_of_le (by decide) hNN) (xG_7 rfl) rfl hin7 9 (by decide) mw_318 rfl dX7_owe_56 ?_
          refine x_top (y := iI (z6)) ez6 ?_
          refine lv_iconst (v := iI (1)) hE.1 hE.2.1 dX7_owe_59 (by decide) ?_
          refine lv_iload_n hE.1 hE.2.1 dX7_owe_60 rfl (lv_at hl 1 rfl) ?_
          refine lv_ishl hE.1 hE.2.1 dX7_owe_61 ?_
          obtain ⟨z21, hz21, ez21⟩ := iI_shl1 (a := z_1) (by omega)
          refine x_top ez21 ?_
          refine lv_ior hE.1 hE.2.1 dX7_owe_62 ?_
          obtain ⟨z22, hz22, ez22⟩ := iI_of (iI (z6) ||| iI (z21))
          refine x_top ez22 ?_
          refine x_put (x := iI (z22)) hE hK hN hP hS 23 (Nat.lt_of_lt_of_le (by decide) hNN) (xG_7 rfl) rfl hin7 tyX7 tyX7_ok nmX7 9 (by decide) mw_318 rfl rfl rfl (Nat.le_of_ble_eq_true rfl) (xG_7 rfl) dX7_owe_63 (fun v23 H locs hv23 hP hS => ?_)
          have hI := XI_putN hI hv23 (by decide)
          exact kr _ _ _ _ _ _ _ ⟨hI, fun i j h => (up_oth hv23 (fun q => h (by rcases q with ⟨rfl, rfl⟩; decide)))⟩ hP hS dX7_owe_66
    · skip
      exact kr _ _ _ _ _ _ _ ⟨hI, fun i j h => rfl⟩ hP hS dX7_owe_10

theorem dX7_tell_0 : decode cX7_tell 0 = .ok (.aload_n 0, 1) := by decide +kernel
theorem dX7_tell_1 : decode cX7_tell 1 = .ok (.invokevirtual 132, 3) := by decide +kernel
theorem dX7_tell_4 : decode cX7_tell 4 = .ok (.ifCond .eq 14, 3) := by decide +kernel
theorem dX7_tell_7 : decode cX7_tell 7 = .ok (.aload_n 0, 1) := by decide +kernel
theorem dX7_tell_8 : decode cX7_tell 8 = .ok (.getfield 37, 3) := by decide +kernel
theorem dX7_tell_11 : decode cX7_tell 11 = .ok (.iload_n 1, 1) := by decide +kernel
theorem dX7_tell_12 : decode cX7_tell 12 = .ok (.invokevirtual 135, 3) := by decide +kernel
theorem dX7_tell_15 : decode cX7_tell 15 = .ok (.ifCond .ne 4, 3) := by decide +kernel
theorem dX7_tell_18 : decode cX7_tell 18 = .ok (.return_, 1) := by decide +kernel
theorem dX7_tell_19 : decode cX7_tell 19 = .ok (.aload_n 0, 1) := by decide +kernel
theorem dX7_tell_20 : decode cX7_tell 20 = .ok (.iload_n 1, 1) := by decide +kernel
theorem dX7_tell_21 : decode cX7_tell 21 = .ok (.invokevirtual 139, 3) := by decide +kernel
theorem dX7_tell_24 : decode cX7_tell 24 = .ok (.aload_n 0, 1) := by decide +kernel
theorem dX7_tell_25 : decode cX7_tell 25 = .ok (.dup, 1) := by decide +kernel
theorem dX7_tell_26 : decode cX7_tell 26 = .ok (.getfield 44, 3) := by decide +kernel
theorem dX7_tell_29 : decode cX7_tell 29 = .ok (.iconst 1, 1) := by decide +kernel
theorem dX7_tell_30 : decode cX7_tell 30 = .ok (.iload_n 1, 1) := by decide +kernel
theorem dX7_tell_31 : decode cX7_tell 31 = .ok (.ishl, 1) := by decide +kernel
theorem dX7_tell_32 : decode cX7_tell 32 = .ok (.ior, 1) := by decide +kernel
theorem dX7_tell_33 : decode cX7_tell 33 = .ok (.putfield 44, 3) := by decide +kernel
theorem dX7_tell_36 : decode cX7_tell 36 = .ok (.aload_n 0, 1) := by decide +kernel
theorem dX7_tell_37 : decode cX7_tell 37 = .ok (.iload_n 1, 1) := by decide +kernel
theorem dX7_tell_38 : decode cX7_tell 38 = .ok (.putfield 18, 3) := by decide +kernel
theorem dX7_tell_41 : decode cX7_tell 41 = .ok (.aload_n 0, 1) := by decide +kernel
theorem dX7_tell_42 : decode cX7_tell 42 = .ok (.dup, 1) := by decide +kernel
theorem dX7_tell_43 : decode cX7_tell 43 = .ok (.getfield 47, 3) := by decide +kernel
theorem dX7_tell_46 : decode cX7_tell 46 = .ok (.aload_n 0, 1) := by decide +kernel
theorem dX7_tell_47 : decode cX7_tell 47 = .ok (.getfield 37, 3) := by decide +kernel
theorem dX7_tell_50 : decode cX7_tell 50 = .ok (.iload_n 1, 1) := by decide +kernel
theorem dX7_tell_51 : decode cX7_tell 51 = .ok (.invokevirtual 82, 3) := by decide +kernel
theorem dX7_tell_54 : decode cX7_tell 54 = .ok (.iadd, 1) := by decide +kernel
theorem dX7_tell_55 : decode cX7_tell 55 = .ok (.putfield 47, 3) := by decide +kernel
theorem dX7_tell_58 : decode cX7_tell 58 = .ok (.aload_n 0, 1) := by decide +kernel
theorem dX7_tell_59 : decode cX7_tell 59 = .ok (.dup, 1) := by decide +kernel
theorem dX7_tell_60 : decode cX7_tell 60 = .ok (.getfield 50, 3) := by decide +kernel
theorem dX7_tell_63 : decode cX7_tell 63 = .ok (.aload_n 0, 1) := by decide +kernel
theorem dX7_tell_64 : decode cX7_tell 64 = .ok (.getfield 37, 3) := by decide +kernel
theorem dX7_tell_67 : decode cX7_tell 67 = .ok (.getfield 143, 3) := by decide +kernel
theorem dX7_tell_70 : decode cX7_tell 70 = .ok (.iload_n 1, 1) := by decide +kernel
theorem dX7_tell_71 : decode cX7_tell 71 = .ok (.iaload, 1) := by decide +kernel
theorem dX7_tell_72 : decode cX7_tell 72 = .ok (.ior, 1) := by decide +kernel
theorem dX7_tell_73 : decode cX7_tell 73 = .ok (.putfield 50, 3) := by decide +kernel
theorem dX7_tell_76 : decode cX7_tell 76 = .ok (.aload_n 0, 1) := by decide +kernel
theorem dX7_tell_77 : decode cX7_tell 77 = .ok (.aload_n 0, 1) := by decide +kernel
theorem dX7_tell_78 : decode cX7_tell 78 = .ok (.getfield 37, 3) := by decide +kernel
theorem dX7_tell_81 : decode cX7_tell 81 = .ok (.getfield 146, 3) := by decide +kernel
theorem dX7_tell_84 : decode cX7_tell 84 = .ok (.iload_n 1, 1) := by decide +kernel
theorem dX7_tell_85 : decode cX7_tell 85 = .ok (.iaload, 1) := by decide +kernel
theorem dX7_tell_86 : decode cX7_tell 86 = .ok (.aload_n 0, 1) := by decide +kernel
theorem dX7_tell_87 : decode cX7_tell 87 = .ok (.getfield 41, 3) := by decide +kernel
theorem dX7_tell_90 : decode cX7_tell 90 = .ok (.aload_n 0, 1) := by decide +kernel
theorem dX7_tell_91 : decode cX7_tell 91 = .ok (.getfield 37, 3) := by decide +kernel
theorem dX7_tell_94 : decode cX7_tell 94 = .ok (.getfield 149, 3) := by decide +kernel
theorem dX7_tell_97 : decode cX7_tell 97 = .ok (.iload_n 1, 1) := by decide +kernel
theorem dX7_tell_98 : decode cX7_tell 98 = .ok (.iaload, 1) := by decide +kernel
theorem dX7_tell_99 : decode cX7_tell 99 = .ok (.iadd, 1) := by decide +kernel
theorem dX7_tell_100 : decode cX7_tell 100 = .ok (.invokevirtual 152, 3) := by decide +kernel
theorem dX7_tell_103 : decode cX7_tell 103 = .ok (.aload_n 0, 1) := by decide +kernel
theorem dX7_tell_104 : decode cX7_tell 104 = .ok (.dup, 1) := by decide +kernel
theorem dX7_tell_105 : decode cX7_tell 105 = .ok (.getfield 41, 3) := by decide +kernel
theorem dX7_tell_108 : decode cX7_tell 108 = .ok (.iconst 1, 1) := by decide +kernel
theorem dX7_tell_109 : decode cX7_tell 109 = .ok (.iadd, 1) := by decide +kernel
theorem dX7_tell_110 : decode cX7_tell 110 = .ok (.putfield 41, 3) := by decide +kernel
theorem dX7_tell_113 : decode cX7_tell 113 = .ok (.return_, 1) := by decide +kernel
set_option maxHeartbeats 4000000 in
set_option maxRecDepth 100000 in
theorem s_X7_tell_23 (l : Launch) (D : va_G) (K : Nat → ClassId) (ad : Nat → Nat) (mm : Option Nat) (N : Nat) (hNN : 132 ≤ N) (v ar : sI) (al : sL) (hI : XI v) (z_1 : Int) (hz_1 : -2147483648 ≤ z_1 ∧ z_1 ≤ 2147483647) : Met l yX7_tell (wM yX7_tell cX7_tell 2 none) (rmD 1) (va_Pc [.ref (ad 23), .int (iI (z_1))] (wPre D K ad (xG ad K mm) N v ar al)) (va_Qv (fun u : sT => XI u.1 ∧ (∀ i j : Nat, (i, j) ∉ ([(23, 2), (23, 3), (23, 4), (23, 5), (23, 8), (23, 9)] : List (Nat × Nat)) → u.1 i j = v i j)) (wB D ad (xG ad K mm) N) (inW ad N)) 0 0 (inW ad N) := by
  refine s_metV (by decide) (Nat.le_of_ble_eq_true rfl) ?_
  intro p e s m below meth c ls args Q hE hB hl kr
  have hE : CallFix p m c cX7_tell 2 s args tbG "TaleCourt$Telling" := hE
  obtain ⟨hP, hK, hN⟩ := hB
  have hS : va_S (inW ad N) s.heap s.heap [] := va_S.rf
  have hl : lv_has ls 2 [(0, .ref (ad 23)), (1, .int (iI (z_1)))] := hl
  refine lv_aload_n hE.1 hE.2.1 dX7_tell_0 rfl (lv_at hl 0 rfl) ?_
  obtain ⟨z1, hz1, ez1⟩ := XI_get hI 23 2 0 18 (by decide)
  refine x_vp (nn := 0) (As := []) (rest := []) hE (s_X7_hasRoom_23 l D K ad mm N hNN v ar al hI (z1) (by omega) ez1 ) wPre_blind (wPre_now hK hN hP) (x_recv hK hP 23 (Nat.lt_of_lt_of_le (by decide) hNN) (xG_7 rfl) rfl) rfl mw_766 mw_768 mw_18 mw_117 mw_769 (by decide +kernel) ⟨by decide, by decide⟩ hl.1 rfl (Nat.le_of_ble_eq_true rfl) ⟨Nat.zero_le _, Nat.zero_le _⟩ dX7_tell_1 (fun r2 hr2 => ?_)
  obtain ⟨z2, hz2, rfl⟩ := hr2
  refine s_if_eq (a := z2) (tgt := 18) hE.1 hE.2.1 (by omega) dX7_tell_4 (by decide) (fun c3 => ?_) (fun c3 => ?_)
  · skip
    exact kr _ _ _ _ _ _ _ ⟨hI, fun i j h => rfl⟩ hP hS dX7_tell_18
  · skip
    refine lv_aload_n hE.1 hE.2.1 dX7_tell_7 rfl (lv_at hl 0 rfl) ?_
    refine x_get (x := .ref (ad 3)) hE hK hP 23 (Nat.lt_of_lt_of_le (by decide) hNN) (xG_7 rfl) rfl hin7 6 (by decide) mw_315 rfl dX7_tell_8 ?_
    refine lv_iload_n hE.1 hE.2.1 dX7_tell_11 rfl (lv_at hl 1 rfl) ?_
    refine x_vp (nn := 1) (As := [.int (iI (z_1))]) (rest := []) hE (s_X1_hasMotif_3 l D K ad mm N hNN v ar al hI  (z_1) (by omega)) wPre_blind (wPre_now hK hN hP) (x_recv hK hP 3 (Nat.lt_of_lt_of_le (by decide) hNN) (xG_1 rfl) rfl) rfl mw_770 mw_695 mw_696 mw_116 mw_697 (by decide +kernel) ⟨by decide, by decide⟩ hl.1 rfl (Nat.le_of_ble_eq_true rfl) ⟨Nat.zero_le _, Nat.zero_le _⟩ dX7_tell_12 (fun r4 hr4 => ?_)
    obtain ⟨z4, hz4, rfl⟩ := hr4
    refine s_if_ne (a := z4) (tgt := 19) hE.1 hE.2.1 (by omega) dX7_tell_15 (by decide) (fun c5 => ?_) (fun c5 => ?_)
    · skip
      refine lv_aload_n hE.1 hE.2.1 dX7_tell_19 rfl (lv_at hl 0 rfl) ?_
      refine lv_iload_n hE.1 hE.2.1 dX7_tell_20 rfl (lv_at hl 1 rfl) ?_
      refine x_vv (nn := 1) (As := [.int (iI (z_1))]) (rest := []) hE hK hN hP hS (s_X7_remember_23 l D K ad mm N hNN v ar al hI (z1) (by omega) ez1 (z_1) (by omega)) (x_recv hK hP 23 (Nat.lt_of_lt_of_le (by decide) hNN) (xG_7 rfl) rfl) rfl mw_771 mw_773 mw_19 mw_117 mw_774 (by decide +kernel) ⟨by decide, by decide⟩ hl.1 rfl (Nat.le_of_ble_eq_true rfl) ⟨Nat.zero_le _, Nat.zero_le _⟩ dX7_tell_21 (fun v6 ar6 al6 H locs hq6 hP hS => ?_)
      obtain ⟨hI, hq6⟩ := hq6
      have hI : XI v6 := hI
      refine lv_aload_n hE.1 hE.2.1 dX7_tell_24 rfl (lv_at hl 0 rfl) ?_
      refine lv_dup hE.1 hE.2.1 dX7_tell_25 rfl ?_
      obtain ⟨z7, hz7, ez7⟩ := iI_of (v6 23 3)
      refine x_get (x := .int (v6 23 3)) hE hK hP 23 (Nat.lt_of_lt_of_le (by decide) hNN) (xG_7 rfl) rfl hin7 3 (by decide) mw_305 rfl dX7_tell_26 ?_
      refine x_top (y := iI (z7)) ez7 ?_
      refine lv_iconst (v := iI (1)) hE.1 hE.2.1 dX7_tell_29 (by decide) ?_
      refine lv_iload_n hE.1 hE.2.1 dX7_tell_30 rfl (lv_at hl 1 rfl) ?_
      refine lv_ishl hE.1 hE.2.1 dX7_tell_31 ?_
      obtain ⟨z8, hz8, ez8⟩ := iI_shl1 (a := z_1) (by omega)
      refine x_top ez8 ?_
      refine lv_ior hE.1 hE.2.1 dX7_tell_32 ?_
      obtain ⟨z9, hz9, ez9⟩ := iI_of (iI (z7) ||| iI (z8))
      refine x_top ez9 ?_
      refine x_put (x := iI (z9)) hE hK hN hP hS 23 (Nat.lt_of_lt_of_le (by decide) hNN) (xG_7 rfl) rfl hin7 tyX7 tyX7_ok nmX7 3 (by decide) mw_305 rfl rfl rfl (Nat.le_of_ble_eq_true rfl) (xG_7 rfl) dX7_tell_33 (fun v10 H locs hv10 hP hS => ?_)
      have hI := XI_putN hI hv10 (by decide)
      refine lv_aload_n hE.1 hE.2.1 dX7_tell_36 rfl (lv_at hl 0 rfl) ?_
      refine lv_iload_n hE.1 hE.2.1 dX7_tell_37 rfl (lv_at hl 1 rfl) ?_
      refine x_put (x := iI (z_1)) hE hK hN hP hS 23 (Nat.lt_of_lt_of_le (by decide) hNN) (xG_7 rfl) rfl hin7 tyX7 tyX7_ok nmX7 4 (by decide) mw_309 rfl rfl rfl (Nat.le_of_ble_eq_true rfl) (xG_7 rfl) dX7_tell_38 (fun v11 H locs hv11 hP hS => ?_)
      have hI := XI_putN hI hv11 (by decide)
      refine lv_aload_n hE.1 hE.2.1 dX7_tell_41 rfl (lv_at hl 0 rfl) ?_
      refine lv_dup hE.1 hE.2.1 dX7_tell_42 rfl ?_
      obtain ⟨z12, hz12, ez12⟩ := iI_of (v11 23 5)
      refine x_get (x := .int (v11 23 5)) hE hK hP 23 (Nat.lt_of_lt_of_le (by decide) hNN) (xG_7 rfl) rfl hin7 5 (by decide) mw_312 rfl dX7_tell_43 ?_
      refine x_top (y := iI (z12)) ez12 ?_
      refine lv_aload_n hE.1 hE.2.1 dX7_tell_46 rfl (lv_at hl 0 rfl) ?_
      refine x_get (x := .ref (ad 3)) hE hK hP 23 (Nat.lt_of_lt_of_le (by decide) hNN) (xG_7 rfl) rfl hin7 6 (by decide) mw_315 rfl dX7_tell_47 ?_
      refine lv_iload_n hE.1 hE.2.1 dX7_tell_50 rfl (lv_at hl 1 rfl) ?_
      refine x_vp (nn := 1) (As := [.int (iI (z_1))]) (rest := [.int (iI (z12)), .ref (ad 23)]) hE (s_X1_value_3 l D K ad mm N hNN v11 ar6 al6 hI  (z_1) (by omega)) wPre_blind (wPre_now hK hN hP) (x_recv hK hP 3 (Nat.lt_of_lt_of_le (by decide) hNN) (xG_1 rfl) rfl) rfl mw_775 mw_776 mw_777 mw_116 mw_778 (by decide +kernel) ⟨by decide, by decide⟩ hl.1 rfl (Nat.le_of_ble_eq_true rfl) ⟨Nat.zero_le _, Nat.zero_le _⟩ dX7_tell_51 (fun r13 hr13 => ?_)
      obtain ⟨z13, hz13, rfl⟩ := hr13
      refine lv_iadd hE.1 hE.2.1 dX7_tell_54 ?_
      obtain ⟨z14, hz14, ez14⟩ := iI_of (iI (z12) + iI (z13))
      refine x_top ez14 ?_
      refine x_put (x := iI (z14)) hE hK hN hP hS 23 (Nat.lt_of_lt_of_le (by decide) hNN) (xG_7 rfl) rfl hin7 tyX7 tyX7_ok nmX7 5 (by decide) mw_312 rfl rfl rfl (Nat.le_of_ble_eq_true rfl) (xG_7 rfl) dX7_tell_55 (fun v15 H locs hv15 hP hS => ?_)
      have hI := XI_putN hI hv15 (by decide)
      refine lv_aload_n hE.1 hE.2.1 dX7_tell_58 rfl (lv_at hl 0 rfl) ?_
      refine lv_dup hE.1 hE.2.1 dX7_tell_59 rfl ?_
      obtain ⟨z16, hz16, ez16⟩ := iI_of (v15 23 8)
      refine x_get (x := .int (v15 23 8)) hE hK hP 23 (Nat.lt_of_lt_of_le (by decide) hNN) (xG_7 rfl) rfl hin7 8 (by decide) mw_317 rfl dX7_tell_60 ?_
      refine x_top (y := iI (z16)) ez16 ?_
      refine lv_aload_n hE.1 hE.2.1 dX7_tell_63 rfl (lv_at hl 0 rfl) ?_
      refine x_get (x := .ref (ad 3)) hE hK hP 23 (Nat.lt_of_lt_of_le (by decide) hNN) (xG_7 rfl) rfl hin7 6 (by decide) mw_315 rfl dX7_tell_64 ?_
      refine x_get (x := .ref (ad 9)) hE hK hP 3 (Nat.lt_of_lt_of_le (by decide) hNN) (xG_1 rfl) rfl hin1 16 (by decide) mw_238 rfl dX7_tell_67 ?_
      refine lv_iload_n hE.1 hE.2.1 dX7_tell_70 rfl (lv_at hl 1 rfl) ?_
      refine x_iald (j := iI (z_1)) hE hK hP 9 (Nat.lt_of_lt_of_le (by decide) hNN) (xG_10 rfl) (iI_in (n := 9) (by omega)) dX7_tell_71 ?_
      obtain ⟨z18, hz18, ez18⟩ := iI_of (ar6 9 (iI (z_1)).toNatClampNeg)
      refine x_top ez18 ?_
      refine lv_ior hE.1 hE.2.1 dX7_tell_72 ?_
      obtain ⟨z19, hz19, ez19⟩ := iI_of (iI (z16) ||| iI (z18))
      refine x_top ez19 ?_
      refine x_put (x := iI (z19)) hE hK hN hP hS 23 (Nat.lt_of_lt_of_le (by decide) hNN) (xG_7 rfl) rfl hin7 tyX7 tyX7_ok nmX7 8 (by decide) mw_317 rfl rfl rfl (Nat.le_of_ble_eq_true rfl) (xG_7 rfl) dX7_tell_73 (fun v20 H locs hv20 hP hS => ?_)
      have hI := XI_putN hI hv20 (by decide)
      refine lv_aload_n hE.1 hE.2.1 dX7_tell_76 rfl (lv_at hl 0 rfl) ?_
      refine lv_aload_n hE.1 hE.2.1 dX7_tell_77 rfl (lv_at hl 0 rfl) ?_
      refine x_get (x := .ref (ad 3)) hE hK hP 23 (Nat.lt_of_lt_of_le (by decide) hNN) (xG_7 rfl) rfl hin7 6 (by decide) mw_315 rfl dX7_tell_78 ?_
      refine x_get (x := .ref (ad 5)) hE hK hP 3 (Nat.lt_of_lt_of_le (by decide) hNN) (xG_1 rfl) rfl hin1 12 (by decide) mw_224 rfl dX7_tell_81 ?_
      refine lv_iload_n hE.1 hE.2.1 dX7_tell_84 rfl (lv_at hl 1 rfl) ?_
      refine x_iald (j := iI (z_1)) hE hK hP 5 (Nat.lt_of_lt_of_le (by decide) hNN) (xG_10 rfl) (iI_in (n := 9) (by omega)) dX7_tell_85 ?_
      obtain ⟨z22, hz22, ez22⟩ := iI_of (ar6 5 (iI (z_1)).toNatClampNeg)
      refine x_top ez22 ?_
      refine lv_aload_n hE.1 hE.2.1 dX7_tell_86 rfl (lv_at hl 0 rfl) ?_
      refine x_get (x := .int (v20 23 2)) hE hK hP 23 (Nat.lt_of_lt_of_le (by decide) hNN) (xG_7 rfl) rfl hin7 2 (by decide) mw_301 rfl dX7_tell_87 ?_
      refine x_top (y := iI (z1)) ((up_oth hv20 (by decide)).trans ((up_oth hv15 (by decide)).trans ((up_oth hv11 (by decide)).trans ((up_oth hv10 (by decide)).trans ((hq6 23 2 (by decide)).trans ez1))))) ?_
      refine lv_aload_n hE.1 hE.2.1 dX7_tell_90 rfl (lv_at hl 0 rfl) ?_
      refine x_get (x := .ref (ad 3)) hE hK hP 23 (Nat.lt_of_lt_of_le (by decide) hNN) (xG_7 rfl) rfl hin7 6 (by decide) mw_315 rfl dX7_tell_91 ?_
      refine x_get (x := .ref (ad 6)) hE hK hP 3 (Nat.lt_of_lt_of_le (by decide) hNN) (xG_1 rfl) rfl hin1 13 (by decide) mw_228 rfl dX7_tell_94 ?_
      refine lv_iload_n hE.1 hE.2.1 dX7_tell_97 rfl (lv_at hl 1 rfl) ?_
      refine x_iald (j := iI (z_1)) hE hK hP 6 (Nat.lt_of_lt_of_le (by decide) hNN) (xG_10 rfl) (iI_in (n := 9) (by omega)) dX7_tell_98 ?_
      obtain ⟨z24, hz24, ez24⟩ := iI_of (ar6 6 (iI (z_1)).toNatClampNeg)
      refine x_top ez24 ?_
      refine lv_iadd hE.1 hE.2.1 dX7_tell_99 ?_
      obtain ⟨z25, hz25, ez25⟩ := iI_of (iI (z1) + iI (z24))
      refine x_top ez25 ?_
      refine x_vv (nn := 2) (As := [.int (iI (z22)), .int (iI (z25))]) (rest := []) hE hK hN hP hS (s_X7_owe_23 l D K ad mm N hNN v20 ar6 al6 hI (z1) (by omega) ((up_oth hv20 (by decide)).trans ((up_oth hv15 (by decide)).trans ((up_oth hv11 (by decide)).trans ((up_oth hv10 (by decide)).trans ((hq6 23 2 (by decide)).trans ez1))))) (z22) (by omega) (z25) (by omega)) (x_recv hK hP 23 (Nat.lt_of_lt_of_le (by decide) hNN) (xG_7 rfl) rfl) rfl mw_779 mw_781 mw_20 mw_117 mw_782 (by decide +kernel) ⟨by decide, by decide⟩ hl.1 rfl (Nat.le_of_ble_eq_true rfl) ⟨Nat.zero_le _, Nat.zero_le _⟩ dX7_tell_100 (fun v26 ar26 al26 H locs hq26 hP hS => ?_)
      obtain ⟨hI, hq26⟩ := hq26
      have hI : XI v26 := hI
      refine lv_aload_n hE.1 hE.2.1 dX7_tell_103 rfl (lv_at hl 0 rfl) ?_
      refine lv_dup hE.1 hE.2.1 dX7_tell_104 rfl ?_
      refine x_get (x := .int (v26 23 2)) hE hK hP 23 (Nat.lt_of_lt_of_le (by decide) hNN) (xG_7 rfl) rfl hin7 2 (by decide) mw_301 rfl dX7_tell_105 ?_
      refine x_top (y := iI (z1)) ((hq26 23 2 (by decide)).trans ((up_oth hv20 (by decide)).trans ((up_oth hv15 (by decide)).trans ((up_oth hv11 (by decide)).trans ((up_oth hv10 (by decide)).trans ((hq6 23 2 (by decide)).trans ez1)))))) ?_
      refine lv_iconst (v := iI (1)) hE.1 hE.2.1 dX7_tell_108 (by decide) ?_
      refine lv_iadd hE.1 hE.2.1 dX7_tell_109 ?_
      refine x_top (y := iI (z1 + 1)) ((iI_add (z1) (1)).trans (congrArg iI (by omega))) ?_
      refine x_put (x := iI (z1 + 1)) hE hK hN hP hS 23 (Nat.lt_of_lt_of_le (by decide) hNN) (xG_7 rfl) rfl hin7 tyX7 tyX7_ok nmX7 2 (by decide) mw_301 rfl rfl rfl (Nat.le_of_ble_eq_true rfl) (xG_7 rfl) dX7_tell_110 (fun v27 H locs hv27 hP hS => ?_)
      have hI := XI_putB (z := z1 + 1) hI hv27 0 18 (by omega) (by decide) (by omega)
      exact kr _ _ _ _ _ _ _ ⟨hI, fun i j h => ((up_oth hv27 (fun q => h (by rcases q with ⟨rfl, rfl⟩; decide))).trans ((hq26 i j (fun q => h (mem_sub (by decide) q))).trans ((up_oth hv20 (fun q => h (by rcases q with ⟨rfl, rfl⟩; decide))).trans ((up_oth hv15 (fun q => h (by rcases q with ⟨rfl, rfl⟩; decide))).trans ((up_oth hv11 (fun q => h (by rcases q with ⟨rfl, rfl⟩; decide))).trans ((up_oth hv10 (fun q => h (by rcases q with ⟨rfl, rfl⟩; decide))).trans (hq6 i j (fun q => h (mem_sub (by decide) q)))))))))⟩ hP hS dX7_tell_113
    · skip
      exact kr _ _ _ _ _ _ _ ⟨hI, fun i j h => rfl⟩ hP hS dX7_tell_18

theorem dX8_say_0 : decode cX8_say 0 = .ok (.aload_n 0, 1) := by decide +kernel
theorem dX8_say_1 : decode cX8_say 1 = .ok (.getfield 19, 3) := by decide +kernel
theorem dX8_say_4 : decode cX8_say 4 = .ok (.iload_n 1, 1) := by decide +kernel
theorem dX8_say_5 : decode cX8_say 5 = .ok (.invokevirtual 102, 3) := by decide +kernel
theorem dX8_say_8 : decode cX8_say 8 = .ok (.ifCond .ne 6, 3) := by decide +kernel
theorem dX8_say_11 : decode cX8_say 11 = .ok (.bipush (-2), 2) := by decide +kernel
theorem dX8_say_13 : decode cX8_say 13 = .ok (.ireturn, 1) := by decide +kernel
theorem dX8_say_14 : decode cX8_say 14 = .ok (.aload_n 0, 1) := by decide +kernel
theorem dX8_say_15 : decode cX8_say 15 = .ok (.getfield 31, 3) := by decide +kernel
theorem dX8_say_18 : decode cX8_say 18 = .ok (.iload_n 1, 1) := by decide +kernel
theorem dX8_say_19 : decode cX8_say 19 = .ok (.invokevirtual 148, 3) := by decide +kernel
theorem dX8_say_22 : decode cX8_say 22 = .ok (.ifCond .eq 6, 3) := by decide +kernel
theorem dX8_say_25 : decode cX8_say 25 = .ok (.bipush (-5), 2) := by decide +kernel
theorem dX8_say_27 : decode cX8_say 27 = .ok (.ireturn, 1) := by decide +kernel
theorem dX8_say_28 : decode cX8_say 28 = .ok (.aload_n 0, 1) := by decide +kernel
theorem dX8_say_29 : decode cX8_say 29 = .ok (.getfield 31, 3) := by decide +kernel
theorem dX8_say_32 : decode cX8_say 32 = .ok (.iload_n 1, 1) := by decide +kernel
theorem dX8_say_33 : decode cX8_say 33 = .ok (.invokevirtual 151, 3) := by decide +kernel
theorem dX8_say_36 : decode cX8_say 36 = .ok (.aload_n 0, 1) := by decide +kernel
theorem dX8_say_37 : decode cX8_say 37 = .ok (.getfield 19, 3) := by decide +kernel
theorem dX8_say_40 : decode cX8_say 40 = .ok (.iload_n 1, 1) := by decide +kernel
theorem dX8_say_41 : decode cX8_say 41 = .ok (.invokevirtual 154, 3) := by decide +kernel
theorem dX8_say_44 : decode cX8_say 44 = .ok (.ireturn, 1) := by decide +kernel
set_option maxHeartbeats 4000000 in
set_option maxRecDepth 100000 in
theorem s_X8_say_0 (l : Launch) (D : va_G) (K : Nat → ClassId) (ad : Nat → Nat) (mm : Option Nat) (N : Nat) (hNN : 132 ≤ N) (v ar : sI) (al : sL) (hI : XI v) (z_1 : Int) (hz_1 : -2147483648 ≤ z_1 ∧ z_1 ≤ 2147483647) : Met l yX8_say (wM yX8_say cX8_say 2 (some .int)) (rmD 3) (va_Pc [.ref (ad 0), .int (iI (z_1))] (wPre D K ad (xG ad K mm) N v ar al)) (va_Qi (fun (r : Int32) (u : sT) => (∃ z : Int, (-2147483648 ≤ z ∧ z ≤ 2147483647) ∧ r = iI z) ∧ XI u.1 ∧ (∀ i j : Nat, (i, j) ∉ ([(23, 2), (23, 3), (23, 4), (23, 5), (23, 8), (23, 9)] : List (Nat × Nat)) → u.1 i j = v i j)) (wB D ad (xG ad K mm) N) (inW ad N)) 0 0 (inW ad N) := by
  refine s_metI (by decide) (Nat.le_of_ble_eq_true rfl) ?_
  intro p e s m below meth c ls args Q hE hB hl kr
  have hE : CallFix p m c cX8_say 2 s args tbG "TaleCourt" := hE
  obtain ⟨hP, hK, hN⟩ := hB
  have hS : va_S (inW ad N) s.heap s.heap [] := va_S.rf
  have hl : lv_has ls 2 [(0, .ref (ad 0)), (1, .int (iI (z_1)))] := hl
  refine lv_aload_n hE.1 hE.2.1 dX8_say_0 rfl (lv_at hl 0 rfl) ?_
  refine x_get (x := .ref (ad 3)) hE hK hP 0 (Nat.lt_of_lt_of_le (by decide) hNN) (xG_8 rfl) rfl hin8 1 (by decide) mw_481 rfl dX8_say_1 ?_
  refine lv_iload_n hE.1 hE.2.1 dX8_say_4 rfl (lv_at hl 1 rfl) ?_
  refine x_vp (nn := 1) (As := [.int (iI (z_1))]) (rest := []) hE (s_X1_hasMotif_3 l D K ad mm N hNN v ar al hI  (z_1) (by omega)) wPre_blind (wPre_now hK hN hP) (x_recv hK hP 3 (Nat.lt_of_lt_of_le (by decide) hNN) (xG_1 rfl) rfl) rfl mw_694 mw_695 mw_696 mw_116 mw_697 (by decide +kernel) ⟨by decide, by decide⟩ hl.1 rfl (Nat.le_of_ble_eq_true rfl) ⟨Nat.zero_le _, Nat.zero_le _⟩ dX8_say_5 (fun r1 hr1 => ?_)
  obtain ⟨z1, hz1, rfl⟩ := hr1
  refine s_if_ne (a := z1) (tgt := 14) hE.1 hE.2.1 (by omega) dX8_say_8 (by decide) (fun c2 => ?_) (fun c2 => ?_)
  · skip
    refine lv_aload_n hE.1 hE.2.1 dX8_say_14 rfl (lv_at hl 0 rfl) ?_
    refine x_get (x := .ref (ad 23)) hE hK hP 0 (Nat.lt_of_lt_of_le (by decide) hNN) (xG_8 rfl) rfl hin8 3 (by decide) mw_483 rfl dX8_say_15 ?_
    refine lv_iload_n hE.1 hE.2.1 dX8_say_18 rfl (lv_at hl 1 rfl) ?_
    refine x_vp (nn := 1) (As := [.int (iI (z_1))]) (rest := []) hE (s_X7_reason_23 l D K ad mm N hNN v ar al hI  (z_1) (by omega)) wPre_blind (wPre_now hK hN hP) (x_recv hK hP 23 (Nat.lt_of_lt_of_le (by decide) hNN) (xG_7 rfl) rfl) rfl mw_742 mw_743 mw_744 mw_117 mw_745 (by decide +kernel) ⟨by decide, by decide⟩ hl.1 rfl (Nat.le_of_ble_eq_true rfl) ⟨Nat.zero_le _, Nat.zero_le _⟩ dX8_say_19 (fun r3 hr3 => ?_)
    obtain ⟨z3, hz3, rfl⟩ := hr3
    refine s_if_eq (a := z3) (tgt := 28) hE.1 hE.2.1 (by omega) dX8_say_22 (by decide) (fun c4 => ?_) (fun c4 => ?_)
    · skip
      refine lv_aload_n hE.1 hE.2.1 dX8_say_28 rfl (lv_at hl 0 rfl) ?_
      refine x_get (x := .ref (ad 23)) hE hK hP 0 (Nat.lt_of_lt_of_le (by decide) hNN) (xG_8 rfl) rfl hin8 3 (by decide) mw_483 rfl dX8_say_29 ?_
      refine lv_iload_n hE.1 hE.2.1 dX8_say_32 rfl (lv_at hl 1 rfl) ?_
      refine x_vv (nn := 1) (As := [.int (iI (z_1))]) (rest := []) hE hK hN hP hS (s_X7_tell_23 l D K ad mm N hNN v ar al hI  (z_1) (by omega)) (x_recv hK hP 23 (Nat.lt_of_lt_of_le (by decide) hNN) (xG_7 rfl) rfl) rfl mw_762 mw_763 mw_764 mw_117 mw_765 (by decide +kernel) ⟨by decide, by decide⟩ hl.1 rfl (Nat.le_of_ble_eq_true rfl) ⟨Nat.zero_le _, Nat.zero_le _⟩ dX8_say_33 (fun v5 ar5 al5 H locs hq5 hP hS => ?_)
      obtain ⟨hI, hq5⟩ := hq5
      have hI : XI v5 := hI
      refine lv_aload_n hE.1 hE.2.1 dX8_say_36 rfl (lv_at hl 0 rfl) ?_
      refine x_get (x := .ref (ad 3)) hE hK hP 0 (Nat.lt_of_lt_of_le (by decide) hNN) (xG_8 rfl) rfl hin8 1 (by decide) mw_481 rfl dX8_say_37 ?_
      refine lv_iload_n hE.1 hE.2.1 dX8_say_40 rfl (lv_at hl 1 rfl) ?_
      refine x_vp (nn := 1) (As := [.int (iI (z_1))]) (rest := []) hE (s_X1_value_3 l D K ad mm N hNN v5 ar5 al5 hI  (z_1) (by omega)) wPre_blind (wPre_now hK hN hP) (x_recv hK hP 3 (Nat.lt_of_lt_of_le (by decide) hNN) (xG_1 rfl) rfl) rfl mw_783 mw_776 mw_777 mw_116 mw_778 (by decide +kernel) ⟨by decide, by decide⟩ hl.1 rfl (Nat.le_of_ble_eq_true rfl) ⟨Nat.zero_le _, Nat.zero_le _⟩ dX8_say_41 (fun r6 hr6 => ?_)
      obtain ⟨z6, hz6, rfl⟩ := hr6
      exact kr _ _ _ _ _ _ _ _ rfl ⟨⟨z6, by omega, rfl⟩, hI, fun i j h => (hq5 i j (fun q => h (mem_sub (by decide) q)))⟩ hP hS dX8_say_44
    · skip
      refine lv_bipush (v := iI (-5)) hE.1 hE.2.1 dX8_say_25 (by decide) ?_
      exact kr _ _ _ _ _ _ _ _ rfl ⟨⟨-5, by omega, rfl⟩, hI, fun i j h => rfl⟩ hP hS dX8_say_27
  · skip
    refine lv_bipush (v := iI (-2)) hE.1 hE.2.1 dX8_say_11 (by decide) ?_
    exact kr _ _ _ _ _ _ _ _ rfl ⟨⟨-2, by omega, rfl⟩, hI, fun i j h => rfl⟩ hP hS dX8_say_13

theorem dX1_stands_0 : decode cX1_stands 0 = .ok (.aload_n 0, 1) := by decide +kernel
theorem dX1_stands_1 : decode cX1_stands 1 = .ok (.getfield 52, 3) := by decide +kernel
theorem dX1_stands_4 : decode cX1_stands 4 = .ok (.ifCond .le 7, 3) := by decide +kernel
theorem dX1_stands_7 : decode cX1_stands 7 = .ok (.iconst 1, 1) := by decide +kernel
theorem dX1_stands_8 : decode cX1_stands 8 = .ok (.goto 4, 3) := by decide +kernel
theorem dX1_stands_11 : decode cX1_stands 11 = .ok (.iconst 0, 1) := by decide +kernel
theorem dX1_stands_12 : decode cX1_stands 12 = .ok (.ireturn, 1) := by decide +kernel
set_option maxHeartbeats 4000000 in
set_option maxRecDepth 100000 in
theorem s_X1_stands_3 (l : Launch) (D : va_G) (K : Nat → ClassId) (ad : Nat → Nat) (mm : Option Nat) (N : Nat) (hNN : 132 ≤ N) (v ar : sI) (al : sL) (hI : XI v) : Met l yX1_stands (wM yX1_stands cX1_stands 1 (some .boolean)) (rmD 0) (va_Pc [.ref (ad 3)] (wPre D K ad (xG ad K mm) N v ar al)) (vp_Si (fun r => ∃ z : Int, (0 ≤ z ∧ z ≤ 1) ∧ r = iI z)) 0 0 (fun _ => False) := by
  refine s_metP (by decide) (Nat.le_of_ble_eq_true rfl) ?_
  intro p e s m below meth c ls args Q hE hB hl kr
  have hE : CallFix p m c cX1_stands 1 s args tbG "TaleCourt$Court" := hE
  obtain ⟨hP, hK, hN⟩ := hB
  have hl : lv_has ls 1 [(0, .ref (ad 3))] := hl
  refine lv_aload_n hE.1 hE.2.1 dX1_stands_0 rfl (lv_at hl 0 rfl) ?_
  obtain ⟨z1, hz1, ez1⟩ := iI_of (v 3 4)
  refine x_get (x := .int (v 3 4)) hE hK hP 3 (Nat.lt_of_lt_of_le (by decide) hNN) (xG_1 rfl) rfl hin1 4 (by decide) mw_194 rfl dX1_stands_1 ?_
  refine x_top (y := iI (z1)) ez1 ?_
  refine s_if_le (a := z1) (tgt := 11) hE.1 hE.2.1 (by omega) dX1_stands_4 (by decide) (fun c2 => ?_) (fun c2 => ?_)
  · skip
    refine lv_iconst (v := iI (0)) hE.1 hE.2.1 dX1_stands_11 (by decide) ?_
    exact kr _ _ _ (nar01 (by omega)) ⟨0, by omega, rfl⟩ dX1_stands_12
  · skip
    refine lv_iconst (v := iI (1)) hE.1 hE.2.1 dX1_stands_7 (by decide) ?_
    refine lv_goto (tgt := 12) hE.1 hE.2.1 dX1_stands_8 (by decide) ?_
    exact kr _ _ _ (nar01 (by omega)) ⟨1, by omega, rfl⟩ dX1_stands_12

theorem dX7_silencesLeft_0 : decode cX7_silencesLeft 0 = .ok (.iload_n 1, 1) := by decide +kernel
theorem dX7_silencesLeft_1 : decode cX7_silencesLeft 1 = .ok (.ifCond .lt 25, 3) := by decide +kernel
theorem dX7_silencesLeft_4 : decode cX7_silencesLeft 4 = .ok (.iload_n 1, 1) := by decide +kernel
theorem dX7_silencesLeft_5 : decode cX7_silencesLeft 5 = .ok (.iconst 3, 1) := by decide +kernel
theorem dX7_silencesLeft_6 : decode cX7_silencesLeft 6 = .ok (.if_icmp .ge 20, 3) := by decide +kernel
theorem dX7_silencesLeft_9 : decode cX7_silencesLeft 9 = .ok (.aload_n 0, 1) := by decide +kernel
theorem dX7_silencesLeft_10 : decode cX7_silencesLeft 10 = .ok (.getfield 37, 3) := by decide +kernel
theorem dX7_silencesLeft_13 : decode cX7_silencesLeft 13 = .ok (.getfield 73, 3) := by decide +kernel
theorem dX7_silencesLeft_16 : decode cX7_silencesLeft 16 = .ok (.aload_n 0, 1) := by decide +kernel
theorem dX7_silencesLeft_17 : decode cX7_silencesLeft 17 = .ok (.getfield 22, 3) := by decide +kernel
theorem dX7_silencesLeft_20 : decode cX7_silencesLeft 20 = .ok (.iload_n 1, 1) := by decide +kernel
theorem dX7_silencesLeft_21 : decode cX7_silencesLeft 21 = .ok (.iaload, 1) := by decide +kernel
theorem dX7_silencesLeft_22 : decode cX7_silencesLeft 22 = .ok (.isub, 1) := by decide +kernel
theorem dX7_silencesLeft_23 : decode cX7_silencesLeft 23 = .ok (.goto 4, 3) := by decide +kernel
theorem dX7_silencesLeft_26 : decode cX7_silencesLeft 26 = .ok (.iconst 0, 1) := by decide +kernel
theorem dX7_silencesLeft_27 : decode cX7_silencesLeft 27 = .ok (.ireturn, 1) := by decide +kernel
set_option maxHeartbeats 4000000 in
set_option maxRecDepth 100000 in
theorem s_X7_silencesLeft_23 (l : Launch) (D : va_G) (K : Nat → ClassId) (ad : Nat → Nat) (mm : Option Nat) (N : Nat) (hNN : 132 ≤ N) (v ar : sI) (al : sL) (hI : XI v) (z_1 : Int) (hz_1 : -2147483648 ≤ z_1 ∧ z_1 ≤ 2147483647) : Met l yX7_silencesLeft (wM yX7_silencesLeft cX7_silencesLeft 2 (some .int)) (rmD 0) (va_Pc [.ref (ad 23), .int (iI (z_1))] (wPre D K ad (xG ad K mm) N v ar al)) (vp_Si (fun r => ∃ z : Int, (-2147483648 ≤ z ∧ z ≤ 2147483647) ∧ r = iI z)) 0 0 (fun _ => False) := by
  refine s_metP (by decide) (Nat.le_of_ble_eq_true rfl) ?_
  intro p e s m below meth c ls args Q hE hB hl kr
  have hE : CallFix p m c cX7_silencesLeft 2 s args tbG "TaleCourt$Telling" := hE
  obtain ⟨hP, hK, hN⟩ := hB
  have hl : lv_has ls 2 [(0, .ref (ad 23)), (1, .int (iI (z_1)))] := hl
  refine lv_iload_n hE.1 hE.2.1 dX7_silencesLeft_0 rfl (lv_at hl 1 rfl) ?_
  refine s_if_lt (a := z_1) (tgt := 26) hE.1 hE.2.1 (by omega) dX7_silencesLeft_1 (by decide) (fun c1 => ?_) (fun c1 => ?_)
  · skip
    refine lv_iconst (v := iI (0)) hE.1 hE.2.1 dX7_silencesLeft_26 (by decide) ?_
    exact kr _ _ _ rfl ⟨0, by omega, rfl⟩ dX7_silencesLeft_27
  · skip
    refine lv_iload_n hE.1 hE.2.1 dX7_silencesLeft_4 rfl (lv_at hl 1 rfl) ?_
    refine lv_iconst (v := iI (3)) hE.1 hE.2.1 dX7_silencesLeft_5 (by decide) ?_
    refine s_icmp_ge (a := z_1) (b := 3) (tgt := 26) hE.1 hE.2.1 (by omega) (by omega) dX7_silencesLeft_6 (by decide) (fun c2 => ?_) (fun c2 => ?_)
    · skip
      refine lv_iconst (v := iI (0)) hE.1 hE.2.1 dX7_silencesLeft_26 (by decide) ?_
      exact kr _ _ _ rfl ⟨0, by omega, rfl⟩ dX7_silencesLeft_27
    · skip
      refine lv_aload_n hE.1 hE.2.1 dX7_silencesLeft_9 rfl (lv_at hl 0 rfl) ?_
      refine x_get (x := .ref (ad 3)) hE hK hP 23 (Nat.lt_of_lt_of_le (by decide) hNN) (xG_7 rfl) rfl hin7 6 (by decide) mw_315 rfl dX7_silencesLeft_10 ?_
      obtain ⟨z3, hz3, ez3⟩ := iI_of (v 3 1)
      refine x_get (x := .int (v 3 1)) hE hK hP 3 (Nat.lt_of_lt_of_le (by decide) hNN) (xG_1 rfl) rfl hin1 1 (by decide) mw_183 rfl dX7_silencesLeft_13 ?_
      refine x_top (y := iI (z3)) ez3 ?_
      refine lv_aload_n hE.1 hE.2.1 dX7_silencesLeft_16 rfl (lv_at hl 0 rfl) ?_
      refine x_get (x := .ref (ad 26)) hE hK hP 23 (Nat.lt_of_lt_of_le (by decide) hNN) (xG_7 rfl) rfl hin7 7 (by decide) mw_316 rfl dX7_silencesLeft_17 ?_
      refine lv_iload_n hE.1 hE.2.1 dX7_silencesLeft_20 rfl (lv_at hl 1 rfl) ?_
      refine x_iald (j := iI (z_1)) hE hK hP 26 (Nat.lt_of_lt_of_le (by decide) hNN) (xG_10 rfl) (iI_in (n := 3) (by omega)) dX7_silencesLeft_21 ?_
      obtain ⟨z5, hz5, ez5⟩ := iI_of (ar 26 (iI (z_1)).toNatClampNeg)
      refine x_top ez5 ?_
      refine lv_isub hE.1 hE.2.1 dX7_silencesLeft_22 ?_
      obtain ⟨z6, hz6, ez6⟩ := iI_of (iI (z3) - iI (z5))
      refine x_top ez6 ?_
      refine lv_goto (tgt := 27) hE.1 hE.2.1 dX7_silencesLeft_23 (by decide) ?_
      exact kr _ _ _ rfl ⟨z6, by omega, rfl⟩ dX7_silencesLeft_27

theorem dX7_hasSilence_0 : decode cX7_hasSilence 0 = .ok (.aload_n 0, 1) := by decide +kernel
theorem dX7_hasSilence_1 : decode cX7_hasSilence 1 = .ok (.aload_n 0, 1) := by decide +kernel
theorem dX7_hasSilence_2 : decode cX7_hasSilence 2 = .ok (.invokevirtual 110, 3) := by decide +kernel
theorem dX7_hasSilence_5 : decode cX7_hasSilence 5 = .ok (.invokevirtual 125, 3) := by decide +kernel
theorem dX7_hasSilence_8 : decode cX7_hasSilence 8 = .ok (.ifCond .le 7, 3) := by decide +kernel
theorem dX7_hasSilence_11 : decode cX7_hasSilence 11 = .ok (.iconst 1, 1) := by decide +kernel
theorem dX7_hasSilence_12 : decode cX7_hasSilence 12 = .ok (.goto 4, 3) := by decide +kernel
theorem dX7_hasSilence_15 : decode cX7_hasSilence 15 = .ok (.iconst 0, 1) := by decide +kernel
theorem dX7_hasSilence_16 : decode cX7_hasSilence 16 = .ok (.ireturn, 1) := by decide +kernel
set_option maxHeartbeats 4000000 in
set_option maxRecDepth 100000 in
theorem s_X7_hasSilence_23 (l : Launch) (D : va_G) (K : Nat → ClassId) (ad : Nat → Nat) (mm : Option Nat) (N : Nat) (hNN : 132 ≤ N) (v ar : sI) (al : sL) (hI : XI v) : Met l yX7_hasSilence (wM yX7_hasSilence cX7_hasSilence 1 (some .boolean)) (rmD 1) (va_Pc [.ref (ad 23)] (wPre D K ad (xG ad K mm) N v ar al)) (vp_Si (fun r => ∃ z : Int, (0 ≤ z ∧ z ≤ 1) ∧ r = iI z)) 0 0 (fun _ => False) := by
  refine s_metP (by decide) (Nat.le_of_ble_eq_true rfl) ?_
  intro p e s m below meth c ls args Q hE hB hl kr
  have hE : CallFix p m c cX7_hasSilence 1 s args tbG "TaleCourt$Telling" := hE
  obtain ⟨hP, hK, hN⟩ := hB
  have hl : lv_has ls 1 [(0, .ref (ad 23))] := hl
  refine lv_aload_n hE.1 hE.2.1 dX7_hasSilence_0 rfl (lv_at hl 0 rfl) ?_
  refine lv_aload_n hE.1 hE.2.1 dX7_hasSilence_1 rfl (lv_at hl 0 rfl) ?_
  refine x_vp (nn := 0) (As := []) (rest := [.ref (ad 23)]) hE (s_X7_teller_23 l D K ad mm N hNN v ar al hI  ) wPre_blind (wPre_now hK hN hP) (x_recv hK hP 23 (Nat.lt_of_lt_of_le (by decide) hNN) (xG_7 rfl) rfl) rfl mw_758 mw_759 mw_760 mw_117 mw_761 (by decide +kernel) ⟨by decide, by decide⟩ hl.1 rfl (Nat.le_of_ble_eq_true rfl) ⟨Nat.zero_le _, Nat.zero_le _⟩ dX7_hasSilence_2 (fun r1 hr1 => ?_)
  obtain ⟨z1, hz1, rfl⟩ := hr1
  refine x_vp (nn := 1) (As := [.int (iI (z1))]) (rest := []) hE (s_X7_silencesLeft_23 l D K ad mm N hNN v ar al hI  (z1) (by omega)) wPre_blind (wPre_now hK hN hP) (x_recv hK hP 23 (Nat.lt_of_lt_of_le (by decide) hNN) (xG_7 rfl) rfl) rfl mw_800 mw_801 mw_802 mw_117 mw_803 (by decide +kernel) ⟨by decide, by decide⟩ hl.1 rfl (Nat.le_of_ble_eq_true rfl) ⟨Nat.zero_le _, Nat.zero_le _⟩ dX7_hasSilence_5 (fun r2 hr2 => ?_)
  obtain ⟨z2, hz2, rfl⟩ := hr2
  refine s_if_le (a := z2) (tgt := 15) hE.1 hE.2.1 (by omega) dX7_hasSilence_8 (by decide) (fun c3 => ?_) (fun c3 => ?_)
  · skip
    refine lv_iconst (v := iI (0)) hE.1 hE.2.1 dX7_hasSilence_15 (by decide) ?_
    exact kr _ _ _ (nar01 (by omega)) ⟨0, by omega, rfl⟩ dX7_hasSilence_16
  · skip
    refine lv_iconst (v := iI (1)) hE.1 hE.2.1 dX7_hasSilence_11 (by decide) ?_
    refine lv_goto (tgt := 16) hE.1 hE.2.1 dX7_hasSilence_12 (by decide) ?_
    exact kr _ _ _ (nar01 (by omega)) ⟨1, by omega, rfl⟩ dX7_hasSilence_16

theorem dX7_mayBeSilent_0 : decode cX7_mayBeSilent 0 = .ok (.aload_n 0, 1) := by decide +kernel
theorem dX7_mayBeSilent_1 : decode cX7_mayBeSilent 1 = .ok (.invokevirtual 128, 3) := by decide +kernel
theorem dX7_mayBeSilent_4 : decode cX7_mayBeSilent 4 = .ok (.ifCond .eq 14, 3) := by decide +kernel
theorem dX7_mayBeSilent_7 : decode cX7_mayBeSilent 7 = .ok (.aload_n 0, 1) := by decide +kernel
theorem dX7_mayBeSilent_8 : decode cX7_mayBeSilent 8 = .ok (.invokevirtual 119, 3) := by decide +kernel
theorem dX7_mayBeSilent_11 : decode cX7_mayBeSilent 11 = .ok (.ifCond .ne 7, 3) := by decide +kernel
theorem dX7_mayBeSilent_14 : decode cX7_mayBeSilent 14 = .ok (.iconst 1, 1) := by decide +kernel
theorem dX7_mayBeSilent_15 : decode cX7_mayBeSilent 15 = .ok (.goto 4, 3) := by decide +kernel
theorem dX7_mayBeSilent_18 : decode cX7_mayBeSilent 18 = .ok (.iconst 0, 1) := by decide +kernel
theorem dX7_mayBeSilent_19 : decode cX7_mayBeSilent 19 = .ok (.ireturn, 1) := by decide +kernel
set_option maxHeartbeats 4000000 in
set_option maxRecDepth 100000 in
theorem s_X7_mayBeSilent_23 (l : Launch) (D : va_G) (K : Nat → ClassId) (ad : Nat → Nat) (mm : Option Nat) (N : Nat) (hNN : 132 ≤ N) (v ar : sI) (al : sL) (hI : XI v) : Met l yX7_mayBeSilent (wM yX7_mayBeSilent cX7_mayBeSilent 1 (some .boolean)) (rmD 2) (va_Pc [.ref (ad 23)] (wPre D K ad (xG ad K mm) N v ar al)) (vp_Si (fun r => ∃ z : Int, (0 ≤ z ∧ z ≤ 1) ∧ r = iI z)) 0 0 (fun _ => False) := by
  refine s_metP (by decide) (Nat.le_of_ble_eq_true rfl) ?_
  intro p e s m below meth c ls args Q hE hB hl kr
  have hE : CallFix p m c cX7_mayBeSilent 1 s args tbG "TaleCourt$Telling" := hE
  obtain ⟨hP, hK, hN⟩ := hB
  have hl : lv_has ls 1 [(0, .ref (ad 23))] := hl
  refine lv_aload_n hE.1 hE.2.1 dX7_mayBeSilent_0 rfl (lv_at hl 0 rfl) ?_
  refine x_vp (nn := 0) (As := []) (rest := []) hE (s_X7_hasSilence_23 l D K ad mm N hNN v ar al hI  ) wPre_blind (wPre_now hK hN hP) (x_recv hK hP 23 (Nat.lt_of_lt_of_le (by decide) hNN) (xG_7 rfl) rfl) rfl mw_796 mw_797 mw_798 mw_117 mw_799 (by decide +kernel) ⟨by decide, by decide⟩ hl.1 rfl (Nat.le_of_ble_eq_true rfl) ⟨Nat.zero_le _, Nat.zero_le _⟩ dX7_mayBeSilent_1 (fun r1 hr1 => ?_)
  obtain ⟨z1, hz1, rfl⟩ := hr1
  refine s_if_eq (a := z1) (tgt := 18) hE.1 hE.2.1 (by omega) dX7_mayBeSilent_4 (by decide) (fun c2 => ?_) (fun c2 => ?_)
  · skip
    refine lv_iconst (v := iI (0)) hE.1 hE.2.1 dX7_mayBeSilent_18 (by decide) ?_
    exact kr _ _ _ (nar01 (by omega)) ⟨0, by omega, rfl⟩ dX7_mayBeSilent_19
  · skip
    refine lv_aload_n hE.1 hE.2.1 dX7_mayBeSilent_7 rfl (lv_at hl 0 rfl) ?_
    refine x_vp (nn := 0) (As := []) (rest := []) hE (s_X7_pressing_23 l D K ad mm N hNN v ar al hI  ) wPre_blind (wPre_now hK hN hP) (x_recv hK hP 23 (Nat.lt_of_lt_of_le (by decide) hNN) (xG_7 rfl) rfl) rfl mw_750 mw_752 mw_17 mw_117 mw_753 (by decide +kernel) ⟨by decide, by decide⟩ hl.1 rfl (Nat.le_of_ble_eq_true rfl) ⟨Nat.zero_le _, Nat.zero_le _⟩ dX7_mayBeSilent_8 (fun r3 hr3 => ?_)
    obtain ⟨z3, hz3, rfl⟩ := hr3
    refine s_if_ne (a := z3) (tgt := 18) hE.1 hE.2.1 (by omega) dX7_mayBeSilent_11 (by decide) (fun c4 => ?_) (fun c4 => ?_)
    · skip
      refine lv_iconst (v := iI (0)) hE.1 hE.2.1 dX7_mayBeSilent_18 (by decide) ?_
      exact kr _ _ _ (nar01 (by omega)) ⟨0, by omega, rfl⟩ dX7_mayBeSilent_19
    · skip
      refine lv_iconst (v := iI (1)) hE.1 hE.2.1 dX7_mayBeSilent_14 (by decide) ?_
      refine lv_goto (tgt := 19) hE.1 hE.2.1 dX7_mayBeSilent_15 (by decide) ?_
      exact kr _ _ _ (nar01 (by omega)) ⟨1, by omega, rfl⟩ dX7_mayBeSilent_19

theorem dX7_pass_0 : decode cX7_pass 0 = .ok (.aload_n 0, 1) := by decide +kernel
theorem dX7_pass_1 : decode cX7_pass 1 = .ok (.invokevirtual 132, 3) := by decide +kernel
theorem dX7_pass_4 : decode cX7_pass 4 = .ok (.ifCond .ne 4, 3) := by decide +kernel
theorem dX7_pass_7 : decode cX7_pass 7 = .ok (.return_, 1) := by decide +kernel
theorem dX7_pass_8 : decode cX7_pass 8 = .ok (.aload_n 0, 1) := by decide +kernel
theorem dX7_pass_9 : decode cX7_pass 9 = .ok (.bipush 9, 2) := by decide +kernel
theorem dX7_pass_11 : decode cX7_pass 11 = .ok (.invokevirtual 139, 3) := by decide +kernel
theorem dX7_pass_14 : decode cX7_pass 14 = .ok (.aload_n 0, 1) := by decide +kernel
theorem dX7_pass_15 : decode cX7_pass 15 = .ok (.getfield 22, 3) := by decide +kernel
theorem dX7_pass_18 : decode cX7_pass 18 = .ok (.aload_n 0, 1) := by decide +kernel
theorem dX7_pass_19 : decode cX7_pass 19 = .ok (.invokevirtual 110, 3) := by decide +kernel
theorem dX7_pass_22 : decode cX7_pass 22 = .ok (.dup2, 1) := by decide +kernel
theorem dX7_pass_23 : decode cX7_pass 23 = .ok (.iaload, 1) := by decide +kernel
theorem dX7_pass_24 : decode cX7_pass 24 = .ok (.iconst 1, 1) := by decide +kernel
theorem dX7_pass_25 : decode cX7_pass 25 = .ok (.iadd, 1) := by decide +kernel
theorem dX7_pass_26 : decode cX7_pass 26 = .ok (.iastore, 1) := by decide +kernel
theorem dX7_pass_27 : decode cX7_pass 27 = .ok (.aload_n 0, 1) := by decide +kernel
theorem dX7_pass_28 : decode cX7_pass 28 = .ok (.dup, 1) := by decide +kernel
theorem dX7_pass_29 : decode cX7_pass 29 = .ok (.getfield 41, 3) := by decide +kernel
theorem dX7_pass_32 : decode cX7_pass 32 = .ok (.iconst 1, 1) := by decide +kernel
theorem dX7_pass_33 : decode cX7_pass 33 = .ok (.iadd, 1) := by decide +kernel
theorem dX7_pass_34 : decode cX7_pass 34 = .ok (.putfield 41, 3) := by decide +kernel
theorem dX7_pass_37 : decode cX7_pass 37 = .ok (.return_, 1) := by decide +kernel
set_option maxHeartbeats 4000000 in
set_option maxRecDepth 100000 in
theorem s_X7_pass_23 (l : Launch) (D : va_G) (K : Nat → ClassId) (ad : Nat → Nat) (mm : Option Nat) (N : Nat) (hNN : 132 ≤ N) (v ar : sI) (al : sL) (hI : XI v) : Met l yX7_pass (wM yX7_pass cX7_pass 1 none) (rmD 1) (va_Pc [.ref (ad 23)] (wPre D K ad (xG ad K mm) N v ar al)) (va_Qv (fun u : sT => XI u.1 ∧ (∀ i j : Nat, (i, j) ∉ ([(23, 2)] : List (Nat × Nat)) → u.1 i j = v i j)) (wB D ad (xG ad K mm) N) (inW ad N)) 0 0 (inW ad N) := by
  refine s_metV (by decide) (Nat.le_of_ble_eq_true rfl) ?_
  intro p e s m below meth c ls args Q hE hB hl kr
  have hE : CallFix p m c cX7_pass 1 s args tbG "TaleCourt$Telling" := hE
  obtain ⟨hP, hK, hN⟩ := hB
  have hS : va_S (inW ad N) s.heap s.heap [] := va_S.rf
  have hl : lv_has ls 1 [(0, .ref (ad 23))] := hl
  refine lv_aload_n hE.1 hE.2.1 dX7_pass_0 rfl (lv_at hl 0 rfl) ?_
  obtain ⟨z1, hz1, ez1⟩ := XI_get hI 23 2 0 18 (by decide)
  refine x_vp (nn := 0) (As := []) (rest := []) hE (s_X7_hasRoom_23 l D K ad mm N hNN v ar al hI (z1) (by omega) ez1 ) wPre_blind (wPre_now hK hN hP) (x_recv hK hP 23 (Nat.lt_of_lt_of_le (by decide) hNN) (xG_7 rfl) rfl) rfl mw_766 mw_768 mw_18 mw_117 mw_769 (by decide +kernel) ⟨by decide, by decide⟩ hl.1 rfl (Nat.le_of_ble_eq_true rfl) ⟨Nat.zero_le _, Nat.zero_le _⟩ dX7_pass_1 (fun r2 hr2 => ?_)
  obtain ⟨z2, hz2, rfl⟩ := hr2
  refine s_if_ne (a := z2) (tgt := 8) hE.1 hE.2.1 (by omega) dX7_pass_4 (by decide) (fun c3 => ?_) (fun c3 => ?_)
  · skip
    refine lv_aload_n hE.1 hE.2.1 dX7_pass_8 rfl (lv_at hl 0 rfl) ?_
    refine lv_bipush (v := iI (9)) hE.1 hE.2.1 dX7_pass_9 (by decide) ?_
    refine x_vv (nn := 1) (As := [.int (iI (9))]) (rest := []) hE hK hN hP hS (s_X7_remember_23 l D K ad mm N hNN v ar al hI (z1) (by omega) ez1 (9) (by omega)) (x_recv hK hP 23 (Nat.lt_of_lt_of_le (by decide) hNN) (xG_7 rfl) rfl) rfl mw_771 mw_773 mw_19 mw_117 mw_774 (by decide +kernel) ⟨by decide, by decide⟩ hl.1 rfl (Nat.le_of_ble_eq_true rfl) ⟨Nat.zero_le _, Nat.zero_le _⟩ dX7_pass_11 (fun v4 ar4 al4 H locs hq4 hP hS => ?_)
    obtain ⟨hI, hq4⟩ := hq4
    have hI : XI v4 := hI
    refine lv_aload_n hE.1 hE.2.1 dX7_pass_14 rfl (lv_at hl 0 rfl) ?_
    refine x_get (x := .ref (ad 26)) hE hK hP 23 (Nat.lt_of_lt_of_le (by decide) hNN) (xG_7 rfl) rfl hin7 7 (by decide) mw_316 rfl dX7_pass_15 ?_
    refine lv_aload_n hE.1 hE.2.1 dX7_pass_18 rfl (lv_at hl 0 rfl) ?_
    refine x_vp (nn := 0) (As := []) (rest := [.ref (ad 26)]) hE (s_X7_teller_23 l D K ad mm N hNN v4 ar4 al4 hI  ) wPre_blind (wPre_now hK hN hP) (x_recv hK hP 23 (Nat.lt_of_lt_of_le (by decide) hNN) (xG_7 rfl) rfl) rfl mw_758 mw_759 mw_760 mw_117 mw_761 (by decide +kernel) ⟨by decide, by decide⟩ hl.1 rfl (Nat.le_of_ble_eq_true rfl) ⟨Nat.zero_le _, Nat.zero_le _⟩ dX7_pass_19 (fun r5 hr5 => ?_)
    obtain ⟨z5, hz5, rfl⟩ := hr5
    refine lv_dup2_11 hE.1 hE.2.1 dX7_pass_22 rfl rfl ?_
    refine x_iald (j := iI (z5)) hE hK hP 26 (Nat.lt_of_lt_of_le (by decide) hNN) (xG_10 rfl) (iI_in (n := 3) (by omega)) dX7_pass_23 ?_
    obtain ⟨z7, hz7, ez7⟩ := iI_of (ar4 26 (iI (z5)).toNatClampNeg)
    refine x_top ez7 ?_
    refine lv_iconst (v := iI (1)) hE.1 hE.2.1 dX7_pass_24 (by decide) ?_
    refine lv_iadd hE.1 hE.2.1 dX7_pass_25 ?_
    obtain ⟨z8, hz8, ez8⟩ := iI_of (iI (z7) + iI (1))
    refine x_top ez8 ?_
    refine x_iast (j := iI (z5)) hE hK hN hP hS 26 (Nat.lt_of_lt_of_le (by decide) hNN) (fun _ => xG_10 rfl) (iI_in (n := 3) (by omega)) dX7_pass_26 (fun ar9 H locs ha9 hP hS => ?_)
    refine lv_aload_n hE.1 hE.2.1 dX7_pass_27 rfl (lv_at hl 0 rfl) ?_
    refine lv_dup hE.1 hE.2.1 dX7_pass_28 rfl ?_
    refine x_get (x := .int (v4 23 2)) hE hK hP 23 (Nat.lt_of_lt_of_le (by decide) hNN) (xG_7 rfl) rfl hin7 2 (by decide) mw_301 rfl dX7_pass_29 ?_
    refine x_top (y := iI (z1)) ((hq4 23 2 (by decide)).trans ez1) ?_
    refine lv_iconst (v := iI (1)) hE.1 hE.2.1 dX7_pass_32 (by decide) ?_
    refine lv_iadd hE.1 hE.2.1 dX7_pass_33 ?_
    refine x_top (y := iI (z1 + 1)) ((iI_add (z1) (1)).trans (congrArg iI (by omega))) ?_
    refine x_put (x := iI (z1 + 1)) hE hK hN hP hS 23 (Nat.lt_of_lt_of_le (by decide) hNN) (xG_7 rfl) rfl hin7 tyX7 tyX7_ok nmX7 2 (by decide) mw_301 rfl rfl rfl (Nat.le_of_ble_eq_true rfl) (xG_7 rfl) dX7_pass_34 (fun v10 H locs hv10 hP hS => ?_)
    have hI := XI_putB (z := z1 + 1) hI hv10 0 18 (by omega) (by decide) (by omega)
    exact kr _ _ _ _ _ _ _ ⟨hI, fun i j h => ((up_oth hv10 (fun q => h (by rcases q with ⟨rfl, rfl⟩; decide))).trans (hq4 i j (fun q => h (mem_sub (by decide) q))))⟩ hP hS dX7_pass_37
  · skip
    exact kr _ _ _ _ _ _ _ ⟨hI, fun i j h => rfl⟩ hP hS dX7_pass_7

theorem dX8_hush_0 : decode cX8_hush 0 = .ok (.aload_n 0, 1) := by decide +kernel
theorem dX8_hush_1 : decode cX8_hush 1 = .ok (.getfield 19, 3) := by decide +kernel
theorem dX8_hush_4 : decode cX8_hush 4 = .ok (.invokevirtual 157, 3) := by decide +kernel
theorem dX8_hush_7 : decode cX8_hush 7 = .ok (.ifCond .ne 6, 3) := by decide +kernel
theorem dX8_hush_10 : decode cX8_hush 10 = .ok (.bipush (-2), 2) := by decide +kernel
theorem dX8_hush_12 : decode cX8_hush 12 = .ok (.ireturn, 1) := by decide +kernel
theorem dX8_hush_13 : decode cX8_hush 13 = .ok (.aload_n 0, 1) := by decide +kernel
theorem dX8_hush_14 : decode cX8_hush 14 = .ok (.getfield 31, 3) := by decide +kernel
theorem dX8_hush_17 : decode cX8_hush 17 = .ok (.invokevirtual 161, 3) := by decide +kernel
theorem dX8_hush_20 : decode cX8_hush 20 = .ok (.ifCond .ne 6, 3) := by decide +kernel
theorem dX8_hush_23 : decode cX8_hush 23 = .ok (.bipush (-5), 2) := by decide +kernel
theorem dX8_hush_25 : decode cX8_hush 25 = .ok (.ireturn, 1) := by decide +kernel
theorem dX8_hush_26 : decode cX8_hush 26 = .ok (.aload_n 0, 1) := by decide +kernel
theorem dX8_hush_27 : decode cX8_hush 27 = .ok (.getfield 31, 3) := by decide +kernel
theorem dX8_hush_30 : decode cX8_hush 30 = .ok (.invokevirtual 164, 3) := by decide +kernel
theorem dX8_hush_33 : decode cX8_hush 33 = .ok (.aload_n 0, 1) := by decide +kernel
theorem dX8_hush_34 : decode cX8_hush 34 = .ok (.getfield 31, 3) := by decide +kernel
theorem dX8_hush_37 : decode cX8_hush 37 = .ok (.getfield 167, 3) := by decide +kernel
theorem dX8_hush_40 : decode cX8_hush 40 = .ok (.ireturn, 1) := by decide +kernel
set_option maxHeartbeats 4000000 in
set_option maxRecDepth 100000 in
theorem s_X8_hush_0 (l : Launch) (D : va_G) (K : Nat → ClassId) (ad : Nat → Nat) (mm : Option Nat) (N : Nat) (hNN : 132 ≤ N) (v ar : sI) (al : sL) (hI : XI v) : Met l yX8_hush (wM yX8_hush cX8_hush 1 (some .int)) (rmD 3) (va_Pc [.ref (ad 0)] (wPre D K ad (xG ad K mm) N v ar al)) (va_Qi (fun (r : Int32) (u : sT) => (∃ z : Int, (-2147483648 ≤ z ∧ z ≤ 2147483647) ∧ r = iI z) ∧ XI u.1 ∧ (∀ i j : Nat, (i, j) ∉ ([(23, 2)] : List (Nat × Nat)) → u.1 i j = v i j)) (wB D ad (xG ad K mm) N) (inW ad N)) 0 0 (inW ad N) := by
  refine s_metI (by decide) (Nat.le_of_ble_eq_true rfl) ?_
  intro p e s m below meth c ls args Q hE hB hl kr
  have hE : CallFix p m c cX8_hush 1 s args tbG "TaleCourt" := hE
  obtain ⟨hP, hK, hN⟩ := hB
  have hS : va_S (inW ad N) s.heap s.heap [] := va_S.rf
  have hl : lv_has ls 1 [(0, .ref (ad 0))] := hl
  refine lv_aload_n hE.1 hE.2.1 dX8_hush_0 rfl (lv_at hl 0 rfl) ?_
  refine x_get (x := .ref (ad 3)) hE hK hP 0 (Nat.lt_of_lt_of_le (by decide) hNN) (xG_8 rfl) rfl hin8 1 (by decide) mw_481 rfl dX8_hush_1 ?_
  refine x_vp (nn := 0) (As := []) (rest := []) hE (s_X1_stands_3 l D K ad mm N hNN v ar al hI  ) wPre_blind (wPre_now hK hN hP) (x_recv hK hP 3 (Nat.lt_of_lt_of_le (by decide) hNN) (xG_1 rfl) rfl) rfl mw_788 mw_789 mw_790 mw_116 mw_791 (by decide +kernel) ⟨by decide, by decide⟩ hl.1 rfl (Nat.le_of_ble_eq_true rfl) ⟨Nat.zero_le _, Nat.zero_le _⟩ dX8_hush_4 (fun r1 hr1 => ?_)
  obtain ⟨z1, hz1, rfl⟩ := hr1
  refine s_if_ne (a := z1) (tgt := 13) hE.1 hE.2.1 (by omega) dX8_hush_7 (by decide) (fun c2 => ?_) (fun c2 => ?_)
  · skip
    refine lv_aload_n hE.1 hE.2.1 dX8_hush_13 rfl (lv_at hl 0 rfl) ?_
    refine x_get (x := .ref (ad 23)) hE hK hP 0 (Nat.lt_of_lt_of_le (by decide) hNN) (xG_8 rfl) rfl hin8 3 (by decide) mw_483 rfl dX8_hush_14 ?_
    refine x_vp (nn := 0) (As := []) (rest := []) hE (s_X7_mayBeSilent_23 l D K ad mm N hNN v ar al hI  ) wPre_blind (wPre_now hK hN hP) (x_recv hK hP 23 (Nat.lt_of_lt_of_le (by decide) hNN) (xG_7 rfl) rfl) rfl mw_792 mw_793 mw_794 mw_117 mw_795 (by decide +kernel) ⟨by decide, by decide⟩ hl.1 rfl (Nat.le_of_ble_eq_true rfl) ⟨Nat.zero_le _, Nat.zero_le _⟩ dX8_hush_17 (fun r3 hr3 => ?_)
    obtain ⟨z3, hz3, rfl⟩ := hr3
    refine s_if_ne (a := z3) (tgt := 26) hE.1 hE.2.1 (by omega) dX8_hush_20 (by decide) (fun c4 => ?_) (fun c4 => ?_)
    · skip
      refine lv_aload_n hE.1 hE.2.1 dX8_hush_26 rfl (lv_at hl 0 rfl) ?_
      refine x_get (x := .ref (ad 23)) hE hK hP 0 (Nat.lt_of_lt_of_le (by decide) hNN) (xG_8 rfl) rfl hin8 3 (by decide) mw_483 rfl dX8_hush_27 ?_
      refine x_vv (nn := 0) (As := []) (rest := []) hE hK hN hP hS (s_X7_pass_23 l D K ad mm N hNN v ar al hI  ) (x_recv hK hP 23 (Nat.lt_of_lt_of_le (by decide) hNN) (xG_7 rfl) rfl) rfl mw_804 mw_805 mw_806 mw_117 mw_807 (by decide +kernel) ⟨by decide, by decide⟩ hl.1 rfl (Nat.le_of_ble_eq_true rfl) ⟨Nat.zero_le _, Nat.zero_le _⟩ dX8_hush_30 (fun v5 ar5 al5 H locs hq5 hP hS => ?_)
      obtain ⟨hI, hq5⟩ := hq5
      have hI : XI v5 := hI
      refine lv_aload_n hE.1 hE.2.1 dX8_hush_33 rfl (lv_at hl 0 rfl) ?_
      refine x_get (x := .ref (ad 23)) hE hK hP 0 (Nat.lt_of_lt_of_le (by decide) hNN) (xG_8 rfl) rfl hin8 3 (by decide) mw_483 rfl dX8_hush_34 ?_
      obtain ⟨z6, hz6, ez6⟩ := XI_get hI 23 2 0 18 (by decide)
      refine x_get (x := .int (v5 23 2)) hE hK hP 23 (Nat.lt_of_lt_of_le (by decide) hNN) (xG_7 rfl) rfl hin7 2 (by decide) mw_304 rfl dX8_hush_37 ?_
      refine x_top (y := iI (z6)) ez6 ?_
      exact kr _ _ _ _ _ _ _ _ rfl ⟨⟨z6, by omega, rfl⟩, hI, fun i j h => (hq5 i j (fun q => h (mem_sub (by decide) q)))⟩ hP hS dX8_hush_40
    · skip
      refine lv_bipush (v := iI (-5)) hE.1 hE.2.1 dX8_hush_23 (by decide) ?_
      exact kr _ _ _ _ _ _ _ _ rfl ⟨⟨-5, by omega, rfl⟩, hI, fun i j h => rfl⟩ hP hS dX8_hush_25
  · skip
    refine lv_bipush (v := iI (-2)) hE.1 hE.2.1 dX8_hush_10 (by decide) ?_
    exact kr _ _ _ _ _ _ _ _ rfl ⟨⟨-2, by omega, rfl⟩, hI, fun i j h => rfl⟩ hP hS dX8_hush_12

theorem dX7_untell_0 : decode cX7_untell 0 = .ok (.aload_n 0, 1) := by decide +kernel
theorem dX7_untell_1 : decode cX7_untell 1 = .ok (.dup, 1) := by decide +kernel
theorem dX7_untell_2 : decode cX7_untell 2 = .ok (.getfield 44, 3) := by decide +kernel
theorem dX7_untell_5 : decode cX7_untell 5 = .ok (.iconst 1, 1) := by decide +kernel
theorem dX7_untell_6 : decode cX7_untell 6 = .ok (.iload_n 1, 1) := by decide +kernel
theorem dX7_untell_7 : decode cX7_untell 7 = .ok (.ishl, 1) := by decide +kernel
theorem dX7_untell_8 : decode cX7_untell 8 = .ok (.iconst (-1), 1) := by decide +kernel
theorem dX7_untell_9 : decode cX7_untell 9 = .ok (.ixor, 1) := by decide +kernel
theorem dX7_untell_10 : decode cX7_untell 10 = .ok (.iand, 1) := by decide +kernel
theorem dX7_untell_11 : decode cX7_untell 11 = .ok (.putfield 44, 3) := by decide +kernel
theorem dX7_untell_14 : decode cX7_untell 14 = .ok (.aload_n 0, 1) := by decide +kernel
theorem dX7_untell_15 : decode cX7_untell 15 = .ok (.dup, 1) := by decide +kernel
theorem dX7_untell_16 : decode cX7_untell 16 = .ok (.getfield 47, 3) := by decide +kernel
theorem dX7_untell_19 : decode cX7_untell 19 = .ok (.aload_n 0, 1) := by decide +kernel
theorem dX7_untell_20 : decode cX7_untell 20 = .ok (.getfield 37, 3) := by decide +kernel
theorem dX7_untell_23 : decode cX7_untell 23 = .ok (.iload_n 1, 1) := by decide +kernel
theorem dX7_untell_24 : decode cX7_untell 24 = .ok (.invokevirtual 82, 3) := by decide +kernel
theorem dX7_untell_27 : decode cX7_untell 27 = .ok (.isub, 1) := by decide +kernel
theorem dX7_untell_28 : decode cX7_untell 28 = .ok (.putfield 47, 3) := by decide +kernel
theorem dX7_untell_31 : decode cX7_untell 31 = .ok (.aload_n 0, 1) := by decide +kernel
theorem dX7_untell_32 : decode cX7_untell 32 = .ok (.getfield 37, 3) := by decide +kernel
theorem dX7_untell_35 : decode cX7_untell 35 = .ok (.getfield 146, 3) := by decide +kernel
theorem dX7_untell_38 : decode cX7_untell 38 = .ok (.iload_n 1, 1) := by decide +kernel
theorem dX7_untell_39 : decode cX7_untell 39 = .ok (.iaload, 1) := by decide +kernel
theorem dX7_untell_40 : decode cX7_untell 40 = .ok (.istore_n 2, 1) := by decide +kernel
theorem dX7_untell_41 : decode cX7_untell 41 = .ok (.iload_n 2, 1) := by decide +kernel
theorem dX7_untell_42 : decode cX7_untell 42 = .ok (.ifCond .lt 24, 3) := by decide +kernel
theorem dX7_untell_45 : decode cX7_untell 45 = .ok (.iload_n 2, 1) := by decide +kernel
theorem dX7_untell_46 : decode cX7_untell 46 = .ok (.bipush 9, 2) := by decide +kernel
theorem dX7_untell_48 : decode cX7_untell 48 = .ok (.if_icmp .ge 18, 3) := by decide +kernel
theorem dX7_untell_51 : decode cX7_untell 51 = .ok (.aload_n 0, 1) := by decide +kernel
theorem dX7_untell_52 : decode cX7_untell 52 = .ok (.getfield 15, 3) := by decide +kernel
theorem dX7_untell_55 : decode cX7_untell 55 = .ok (.iload_n 2, 1) := by decide +kernel
theorem dX7_untell_56 : decode cX7_untell 56 = .ok (.aload_n 0, 1) := by decide +kernel
theorem dX7_untell_57 : decode cX7_untell 57 = .ok (.getfield 34, 3) := by decide +kernel
theorem dX7_untell_60 : decode cX7_untell 60 = .ok (.aload_n 0, 1) := by decide +kernel
theorem dX7_untell_61 : decode cX7_untell 61 = .ok (.getfield 41, 3) := by decide +kernel
theorem dX7_untell_64 : decode cX7_untell 64 = .ok (.iaload, 1) := by decide +kernel
theorem dX7_untell_65 : decode cX7_untell 65 = .ok (.iastore, 1) := by decide +kernel
theorem dX7_untell_66 : decode cX7_untell 66 = .ok (.return_, 1) := by decide +kernel
set_option maxHeartbeats 4000000 in
set_option maxRecDepth 100000 in
theorem s_X7_untell_23 (l : Launch) (D : va_G) (K : Nat → ClassId) (ad : Nat → Nat) (mm : Option Nat) (N : Nat) (hNN : 132 ≤ N) (v ar : sI) (al : sL) (hI : XI v) (w_1 : Int) (hw_1 : 0 ≤ w_1 ∧ w_1 ≤ 17) (ew_1 : v 23 2 = iI w_1) (z_1 : Int) (hz_1 : 0 ≤ z_1 ∧ z_1 ≤ 8) : Met l yX7_untell (wM yX7_untell cX7_untell 3 none) (rmD 1) (va_Pc [.ref (ad 23), .int (iI (z_1))] (wPre D K ad (xG ad K mm) N v ar al)) (va_Qv (fun u : sT => XI u.1 ∧ (∀ i j : Nat, (i, j) ∉ ([(23, 3), (23, 5)] : List (Nat × Nat)) → u.1 i j = v i j)) (wB D ad (xG ad K mm) N) (inW ad N)) 0 0 (inW ad N) := by
  refine s_metV (by decide) (Nat.le_of_ble_eq_true rfl) ?_
  intro p e s m below meth c ls args Q hE hB hl kr
  have hE : CallFix p m c cX7_untell 3 s args tbG "TaleCourt$Telling" := hE
  obtain ⟨hP, hK, hN⟩ := hB
  have hS : va_S (inW ad N) s.heap s.heap [] := va_S.rf
  have hl : lv_has ls 3 [(0, .ref (ad 23)), (1, .int (iI (z_1)))] := hl
  refine lv_aload_n hE.1 hE.2.1 dX7_untell_0 rfl (lv_at hl 0 rfl) ?_
  refine lv_dup hE.1 hE.2.1 dX7_untell_1 rfl ?_
  obtain ⟨z1, hz1, ez1⟩ := iI_of (v 23 3)
  refine x_get (x := .int (v 23 3)) hE hK hP 23 (Nat.lt_of_lt_of_le (by decide) hNN) (xG_7 rfl) rfl hin7 3 (by decide) mw_305 rfl dX7_untell_2 ?_
  refine x_top (y := iI (z1)) ez1 ?_
  refine lv_iconst (v := iI (1)) hE.1 hE.2.1 dX7_untell_5 (by decide) ?_
  refine lv_iload_n hE.1 hE.2.1 dX7_untell_6 rfl (lv_at hl 1 rfl) ?_
  refine lv_ishl hE.1 hE.2.1 dX7_untell_7 ?_
  obtain ⟨z2, hz2, ez2⟩ := iI_shl1 (a := z_1) (by omega)
  refine x_top ez2 ?_
  refine lv_iconst (v := iI (-1)) hE.1 hE.2.1 dX7_untell_8 (by decide) ?_
  refine lv_ixor hE.1 hE.2.1 dX7_untell_9 ?_
  obtain ⟨z3, hz3, ez3⟩ := iI_of (iI (z2) ^^^ iI (-1))
  refine x_top ez3 ?_
  refine lv_iand hE.1 hE.2.1 dX7_untell_10 ?_
  obtain ⟨z4, hz4, ez4⟩ := iI_of (iI (z1) &&& iI (z3))
  refine x_top ez4 ?_
  refine x_put (x := iI (z4)) hE hK hN hP hS 23 (Nat.lt_of_lt_of_le (by decide) hNN) (xG_7 rfl) rfl hin7 tyX7 tyX7_ok nmX7 3 (by decide) mw_305 rfl rfl rfl (Nat.le_of_ble_eq_true rfl) (xG_7 rfl) dX7_untell_11 (fun v5 H locs hv5 hP hS => ?_)
  have hI := XI_putN hI hv5 (by decide)
  refine lv_aload_n hE.1 hE.2.1 dX7_untell_14 rfl (lv_at hl 0 rfl) ?_
  refine lv_dup hE.1 hE.2.1 dX7_untell_15 rfl ?_
  obtain ⟨z6, hz6, ez6⟩ := iI_of (v5 23 5)
  refine x_get (x := .int (v5 23 5)) hE hK hP 23 (Nat.lt_of_lt_of_le (by decide) hNN) (xG_7 rfl) rfl hin7 5 (by decide) mw_312 rfl dX7_untell_16 ?_
  refine x_top (y := iI (z6)) ez6 ?_
  refine lv_aload_n hE.1 hE.2.1 dX7_untell_19 rfl (lv_at hl 0 rfl) ?_
  refine x_get (x := .ref (ad 3)) hE hK hP 23 (Nat.lt_of_lt_of_le (by decide) hNN) (xG_7 rfl) rfl hin7 6 (by decide) mw_315 rfl dX7_untell_20 ?_
  refine lv_iload_n hE.1 hE.2.1 dX7_untell_23 rfl (lv_at hl 1 rfl) ?_
  refine x_vp (nn := 1) (As := [.int (iI (z_1))]) (rest := [.int (iI (z6)), .ref (ad 23)]) hE (s_X1_value_3 l D K ad mm N hNN v5 ar al hI  (z_1) (by omega)) wPre_blind (wPre_now hK hN hP) (x_recv hK hP 3 (Nat.lt_of_lt_of_le (by decide) hNN) (xG_1 rfl) rfl) rfl mw_775 mw_776 mw_777 mw_116 mw_778 (by decide +kernel) ⟨by decide, by decide⟩ hl.1 rfl (Nat.le_of_ble_eq_true rfl) ⟨Nat.zero_le _, Nat.zero_le _⟩ dX7_untell_24 (fun r7 hr7 => ?_)
  obtain ⟨z7, hz7, rfl⟩ := hr7
  refine lv_isub hE.1 hE.2.1 dX7_untell_27 ?_
  obtain ⟨z8, hz8, ez8⟩ := iI_of (iI (z6) - iI (z7))
  refine x_top ez8 ?_
  refine x_put (x := iI (z8)) hE hK hN hP hS 23 (Nat.lt_of_lt_of_le (by decide) hNN) (xG_7 rfl) rfl hin7 tyX7 tyX7_ok nmX7 5 (by decide) mw_312 rfl rfl rfl (Nat.le_of_ble_eq_true rfl) (xG_7 rfl) dX7_untell_28 (fun v9 H locs hv9 hP hS => ?_)
  have hI := XI_putN hI hv9 (by decide)
  refine lv_aload_n hE.1 hE.2.1 dX7_untell_31 rfl (lv_at hl 0 rfl) ?_
  refine x_get (x := .ref (ad 3)) hE hK hP 23 (Nat.lt_of_lt_of_le (by decide) hNN) (xG_7 rfl) rfl hin7 6 (by decide) mw_315 rfl dX7_untell_32 ?_
  refine x_get (x := .ref (ad 5)) hE hK hP 3 (Nat.lt_of_lt_of_le (by decide) hNN) (xG_1 rfl) rfl hin1 12 (by decide) mw_224 rfl dX7_untell_35 ?_
  refine lv_iload_n hE.1 hE.2.1 dX7_untell_38 rfl (lv_at hl 1 rfl) ?_
  refine x_iald (j := iI (z_1)) hE hK hP 5 (Nat.lt_of_lt_of_le (by decide) hNN) (xG_10 rfl) (iI_in (n := 9) (by omega)) dX7_untell_39 ?_
  obtain ⟨z11, hz11, ez11⟩ := iI_of (ar 5 (iI (z_1)).toNatClampNeg)
  refine x_top ez11 ?_
  refine lv_istore_n (lv' := [(2, .int (iI (z11))), (0, .ref (ad 23)), (1, .int (iI (z_1)))]) hE.1 hE.2.1 dX7_untell_40 rfl hl (by decide) rfl (fun ls hl => ?_)
  refine lv_iload_n hE.1 hE.2.1 dX7_untell_41 rfl (lv_at hl 0 rfl) ?_
  refine s_if_lt (a := z11) (tgt := 66) hE.1 hE.2.1 (by omega) dX7_untell_42 (by decide) (fun c12 => ?_) (fun c12 => ?_)
  · skip
    exact kr _ _ _ _ _ _ _ ⟨hI, fun i j h => ((up_oth hv9 (fun q => h (by rcases q with ⟨rfl, rfl⟩; decide))).trans (up_oth hv5 (fun q => h (by rcases q with ⟨rfl, rfl⟩; decide))))⟩ hP hS dX7_untell_66
  · skip
    refine lv_iload_n hE.1 hE.2.1 dX7_untell_45 rfl (lv_at hl 0 rfl) ?_
    refine lv_bipush (v := iI (9)) hE.1 hE.2.1 dX7_untell_46 (by decide) ?_
    refine s_icmp_ge (a := z11) (b := 9) (tgt := 66) hE.1 hE.2.1 (by omega) (by omega) dX7_untell_48 (by decide) (fun c13 => ?_) (fun c13 => ?_)
    · skip
      exact kr _ _ _ _ _ _ _ ⟨hI, fun i j h => ((up_oth hv9 (fun q => h (by rcases q with ⟨rfl, rfl⟩; decide))).trans (up_oth hv5 (fun q => h (by rcases q with ⟨rfl, rfl⟩; decide))))⟩ hP hS dX7_untell_66
    · skip
      refine lv_aload_n hE.1 hE.2.1 dX7_untell_51 rfl (lv_at hl 1 rfl) ?_
      refine x_get (x := .ref (ad 25)) hE hK hP 23 (Nat.lt_of_lt_of_le (by decide) hNN) (xG_7 rfl) rfl hin7 1 (by decide) mw_299 rfl dX7_untell_52 ?_
      refine lv_iload_n hE.1 hE.2.1 dX7_untell_55 rfl (lv_at hl 0 rfl) ?_
      refine lv_aload_n hE.1 hE.2.1 dX7_untell_56 rfl (lv_at hl 1 rfl) ?_
      refine x_get (x := .ref (ad 30)) hE hK hP 23 (Nat.lt_of_lt_of_le (by decide) hNN) (xG_7 rfl) rfl hin7 13 (by decide) mw_322 rfl dX7_untell_57 ?_
      refine lv_aload_n hE.1 hE.2.1 dX7_untell_60 rfl (lv_at hl 1 rfl) ?_
      refine x_get (x := .int (v9 23 2)) hE hK hP 23 (Nat.lt_of_lt_of_le (by decide) hNN) (xG_7 rfl) rfl hin7 2 (by decide) mw_301 rfl dX7_untell_61 ?_
      refine x_top (y := iI (w_1)) ((up_oth hv9 (by decide)).trans ((up_oth hv5 (by decide)).trans ew_1)) ?_
      refine x_iald (j := iI (w_1)) hE hK hP 30 (Nat.lt_of_lt_of_le (by decide) hNN) (xG_10 rfl) (iI_in (n := 18) (by omega)) dX7_untell_64 ?_
      obtain ⟨z15, hz15, ez15⟩ := iI_of (ar 30 (iI (w_1)).toNatClampNeg)
      refine x_top ez15 ?_
      refine x_iast (j := iI (z11)) hE hK hN hP hS 25 (Nat.lt_of_lt_of_le (by decide) hNN) (fun _ => xG_10 rfl) (iI_in (n := 9) (by omega)) dX7_untell_65 (fun ar16 H locs ha16 hP hS => ?_)
      exact kr _ _ _ _ _ _ _ ⟨hI, fun i j h => ((up_oth hv9 (fun q => h (by rcases q with ⟨rfl, rfl⟩; decide))).trans (up_oth hv5 (fun q => h (by rcases q with ⟨rfl, rfl⟩; decide))))⟩ hP hS dX7_untell_66

theorem dX7_takeBack_0 : decode cX7_takeBack 0 = .ok (.aload_n 0, 1) := by decide +kernel
theorem dX7_takeBack_1 : decode cX7_takeBack 1 = .ok (.getfield 41, 3) := by decide +kernel
theorem dX7_takeBack_4 : decode cX7_takeBack 4 = .ok (.ifCond .le 12, 3) := by decide +kernel
theorem dX7_takeBack_7 : decode cX7_takeBack 7 = .ok (.aload_n 0, 1) := by decide +kernel
theorem dX7_takeBack_8 : decode cX7_takeBack 8 = .ok (.getfield 41, 3) := by decide +kernel
theorem dX7_takeBack_11 : decode cX7_takeBack 11 = .ok (.bipush 18, 2) := by decide +kernel
theorem dX7_takeBack_13 : decode cX7_takeBack 13 = .ok (.if_icmp .le 4, 3) := by decide +kernel
theorem dX7_takeBack_16 : decode cX7_takeBack 16 = .ok (.return_, 1) := by decide +kernel
theorem dX7_takeBack_17 : decode cX7_takeBack 17 = .ok (.aload_n 0, 1) := by decide +kernel
theorem dX7_takeBack_18 : decode cX7_takeBack 18 = .ok (.dup, 1) := by decide +kernel
theorem dX7_takeBack_19 : decode cX7_takeBack 19 = .ok (.getfield 41, 3) := by decide +kernel
theorem dX7_takeBack_22 : decode cX7_takeBack 22 = .ok (.iconst 1, 1) := by decide +kernel
theorem dX7_takeBack_23 : decode cX7_takeBack 23 = .ok (.isub, 1) := by decide +kernel
theorem dX7_takeBack_24 : decode cX7_takeBack 24 = .ok (.putfield 41, 3) := by decide +kernel
theorem dX7_takeBack_27 : decode cX7_takeBack 27 = .ok (.aload_n 0, 1) := by decide +kernel
theorem dX7_takeBack_28 : decode cX7_takeBack 28 = .ok (.aload_n 0, 1) := by decide +kernel
theorem dX7_takeBack_29 : decode cX7_takeBack 29 = .ok (.getfield 25, 3) := by decide +kernel
theorem dX7_takeBack_32 : decode cX7_takeBack 32 = .ok (.aload_n 0, 1) := by decide +kernel
theorem dX7_takeBack_33 : decode cX7_takeBack 33 = .ok (.getfield 41, 3) := by decide +kernel
theorem dX7_takeBack_36 : decode cX7_takeBack 36 = .ok (.iaload, 1) := by decide +kernel
theorem dX7_takeBack_37 : decode cX7_takeBack 37 = .ok (.putfield 18, 3) := by decide +kernel
theorem dX7_takeBack_40 : decode cX7_takeBack 40 = .ok (.aload_n 0, 1) := by decide +kernel
theorem dX7_takeBack_41 : decode cX7_takeBack 41 = .ok (.aload_n 0, 1) := by decide +kernel
theorem dX7_takeBack_42 : decode cX7_takeBack 42 = .ok (.getfield 28, 3) := by decide +kernel
theorem dX7_takeBack_45 : decode cX7_takeBack 45 = .ok (.aload_n 0, 1) := by decide +kernel
theorem dX7_takeBack_46 : decode cX7_takeBack 46 = .ok (.getfield 41, 3) := by decide +kernel
theorem dX7_takeBack_49 : decode cX7_takeBack 49 = .ok (.iaload, 1) := by decide +kernel
theorem dX7_takeBack_50 : decode cX7_takeBack 50 = .ok (.putfield 50, 3) := by decide +kernel
theorem dX7_takeBack_53 : decode cX7_takeBack 53 = .ok (.aload_n 0, 1) := by decide +kernel
theorem dX7_takeBack_54 : decode cX7_takeBack 54 = .ok (.aload_n 0, 1) := by decide +kernel
theorem dX7_takeBack_55 : decode cX7_takeBack 55 = .ok (.getfield 31, 3) := by decide +kernel
theorem dX7_takeBack_58 : decode cX7_takeBack 58 = .ok (.aload_n 0, 1) := by decide +kernel
theorem dX7_takeBack_59 : decode cX7_takeBack 59 = .ok (.getfield 41, 3) := by decide +kernel
theorem dX7_takeBack_62 : decode cX7_takeBack 62 = .ok (.iaload, 1) := by decide +kernel
theorem dX7_takeBack_63 : decode cX7_takeBack 63 = .ok (.putfield 53, 3) := by decide +kernel
theorem dX7_takeBack_66 : decode cX7_takeBack 66 = .ok (.aload_n 0, 1) := by decide +kernel
theorem dX7_takeBack_67 : decode cX7_takeBack 67 = .ok (.getfield 9, 3) := by decide +kernel
theorem dX7_takeBack_70 : decode cX7_takeBack 70 = .ok (.aload_n 0, 1) := by decide +kernel
theorem dX7_takeBack_71 : decode cX7_takeBack 71 = .ok (.getfield 41, 3) := by decide +kernel
theorem dX7_takeBack_74 : decode cX7_takeBack 74 = .ok (.iaload, 1) := by decide +kernel
theorem dX7_takeBack_75 : decode cX7_takeBack 75 = .ok (.istore_n 1, 1) := by decide +kernel
theorem dX7_takeBack_76 : decode cX7_takeBack 76 = .ok (.iload_n 1, 1) := by decide +kernel
theorem dX7_takeBack_77 : decode cX7_takeBack 77 = .ok (.ifCond .lt 17, 3) := by decide +kernel
theorem dX7_takeBack_80 : decode cX7_takeBack 80 = .ok (.iload_n 1, 1) := by decide +kernel
theorem dX7_takeBack_81 : decode cX7_takeBack 81 = .ok (.bipush 9, 2) := by decide +kernel
theorem dX7_takeBack_83 : decode cX7_takeBack 83 = .ok (.if_icmp .ge 11, 3) := by decide +kernel
theorem dX7_takeBack_86 : decode cX7_takeBack 86 = .ok (.aload_n 0, 1) := by decide +kernel
theorem dX7_takeBack_87 : decode cX7_takeBack 87 = .ok (.iload_n 1, 1) := by decide +kernel
theorem dX7_takeBack_88 : decode cX7_takeBack 88 = .ok (.invokevirtual 156, 3) := by decide +kernel
theorem dX7_takeBack_91 : decode cX7_takeBack 91 = .ok (.goto 16, 3) := by decide +kernel
theorem dX7_takeBack_94 : decode cX7_takeBack 94 = .ok (.aload_n 0, 1) := by decide +kernel
theorem dX7_takeBack_95 : decode cX7_takeBack 95 = .ok (.getfield 22, 3) := by decide +kernel
theorem dX7_takeBack_98 : decode cX7_takeBack 98 = .ok (.aload_n 0, 1) := by decide +kernel
theorem dX7_takeBack_99 : decode cX7_takeBack 99 = .ok (.invokevirtual 110, 3) := by decide +kernel
theorem dX7_takeBack_102 : decode cX7_takeBack 102 = .ok (.dup2, 1) := by decide +kernel
theorem dX7_takeBack_103 : decode cX7_takeBack 103 = .ok (.iaload, 1) := by decide +kernel
theorem dX7_takeBack_104 : decode cX7_takeBack 104 = .ok (.iconst 1, 1) := by decide +kernel
theorem dX7_takeBack_105 : decode cX7_takeBack 105 = .ok (.isub, 1) := by decide +kernel
theorem dX7_takeBack_106 : decode cX7_takeBack 106 = .ok (.iastore, 1) := by decide +kernel
theorem dX7_takeBack_107 : decode cX7_takeBack 107 = .ok (.return_, 1) := by decide +kernel
set_option maxHeartbeats 4000000 in
set_option maxRecDepth 100000 in
theorem s_X7_takeBack_23 (l : Launch) (D : va_G) (K : Nat → ClassId) (ad : Nat → Nat) (mm : Option Nat) (N : Nat) (hNN : 132 ≤ N) (v ar : sI) (al : sL) (hI : XI v) : Met l yX7_takeBack (wM yX7_takeBack cX7_takeBack 2 none) (rmD 2) (va_Pc [.ref (ad 23)] (wPre D K ad (xG ad K mm) N v ar al)) (va_Qv (fun u : sT => XI u.1 ∧ (∀ i j : Nat, (i, j) ∉ ([(23, 2), (23, 3), (23, 4), (23, 5), (23, 8), (23, 9)] : List (Nat × Nat)) → u.1 i j = v i j)) (wB D ad (xG ad K mm) N) (inW ad N)) 0 0 (inW ad N) := by
  refine s_metV (by decide) (Nat.le_of_ble_eq_true rfl) ?_
  intro p e s m below meth c ls args Q hE hB hl kr
  have hE : CallFix p m c cX7_takeBack 2 s args tbG "TaleCourt$Telling" := hE
  obtain ⟨hP, hK, hN⟩ := hB
  have hS : va_S (inW ad N) s.heap s.heap [] := va_S.rf
  have hl : lv_has ls 2 [(0, .ref (ad 23))] := hl
  refine lv_aload_n hE.1 hE.2.1 dX7_takeBack_0 rfl (lv_at hl 0 rfl) ?_
  obtain ⟨z1, hz1, ez1⟩ := XI_get hI 23 2 0 18 (by decide)
  refine x_get (x := .int (v 23 2)) hE hK hP 23 (Nat.lt_of_lt_of_le (by decide) hNN) (xG_7 rfl) rfl hin7 2 (by decide) mw_301 rfl dX7_takeBack_1 ?_
  refine x_top (y := iI (z1)) ez1 ?_
  refine s_if_le (a := z1) (tgt := 16) hE.1 hE.2.1 (by omega) dX7_takeBack_4 (by decide) (fun c2 => ?_) (fun c2 => ?_)
  · skip
    exact kr _ _ _ _ _ _ _ ⟨hI, fun i j h => rfl⟩ hP hS dX7_takeBack_16
  · skip
    refine lv_aload_n hE.1 hE.2.1 dX7_takeBack_7 rfl (lv_at hl 0 rfl) ?_
    refine x_get (x := .int (v 23 2)) hE hK hP 23 (Nat.lt_of_lt_of_le (by decide) hNN) (xG_7 rfl) rfl hin7 2 (by decide) mw_301 rfl dX7_takeBack_8 ?_
    refine x_top (y := iI (z1)) ez1 ?_
    refine lv_bipush (v := iI (18)) hE.1 hE.2.1 dX7_takeBack_11 (by decide) ?_
    refine s_icmp_le (a := z1) (b := 18) (tgt := 17) hE.1 hE.2.1 (by omega) (by omega) dX7_takeBack_13 (by decide) (fun _ => ?_) (fun c3 => False.elim (by omega))
    refine lv_aload_n hE.1 hE.2.1 dX7_takeBack_17 rfl (lv_at hl 0 rfl) ?_
    refine lv_dup hE.1 hE.2.1 dX7_takeBack_18 rfl ?_
    refine x_get (x := .int (v 23 2)) hE hK hP 23 (Nat.lt_of_lt_of_le (by decide) hNN) (xG_7 rfl) rfl hin7 2 (by decide) mw_301 rfl dX7_takeBack_19 ?_
    refine x_top (y := iI (z1)) ez1 ?_
    refine lv_iconst (v := iI (1)) hE.1 hE.2.1 dX7_takeBack_22 (by decide) ?_
    refine lv_isub hE.1 hE.2.1 dX7_takeBack_23 ?_
    refine x_top (y := iI (z1 - 1)) ((iI_sub (z1) (1)).trans (congrArg iI (by omega))) ?_
    refine x_put (x := iI (z1 - 1)) hE hK hN hP hS 23 (Nat.lt_of_lt_of_le (by decide) hNN) (xG_7 rfl) rfl hin7 tyX7 tyX7_ok nmX7 2 (by decide) mw_301 rfl rfl rfl (Nat.le_of_ble_eq_true rfl) (xG_7 rfl) dX7_takeBack_24 (fun v4 H locs hv4 hP hS => ?_)
    have hI := XI_putB (z := z1 - 1) hI hv4 0 18 (by omega) (by decide) (by omega)
    refine lv_aload_n hE.1 hE.2.1 dX7_takeBack_27 rfl (lv_at hl 0 rfl) ?_
    refine lv_aload_n hE.1 hE.2.1 dX7_takeBack_28 rfl (lv_at hl 0 rfl) ?_
    refine x_get (x := .ref (ad 27)) hE hK hP 23 (Nat.lt_of_lt_of_le (by decide) hNN) (xG_7 rfl) rfl hin7 10 (by decide) mw_319 rfl dX7_takeBack_29 ?_
    refine lv_aload_n hE.1 hE.2.1 dX7_takeBack_32 rfl (lv_at hl 0 rfl) ?_
    refine x_get (x := .int (v4 23 2)) hE hK hP 23 (Nat.lt_of_lt_of_le (by decide) hNN) (xG_7 rfl) rfl hin7 2 (by decide) mw_301 rfl dX7_takeBack_33 ?_
    refine x_top (y := iI (z1 - 1)) (up_eq hv4) ?_
    refine x_iald (j := iI (z1 - 1)) hE hK hP 27 (Nat.lt_of_lt_of_le (by decide) hNN) (xG_10 rfl) (iI_in (n := 18) (by omega)) dX7_takeBack_36 ?_
    obtain ⟨z6, hz6, ez6⟩ := iI_of (ar 27 (iI (z1 - 1)).toNatClampNeg)
    refine x_top ez6 ?_
    refine x_put (x := iI (z6)) hE hK hN hP hS 23 (Nat.lt_of_lt_of_le (by decide) hNN) (xG_7 rfl) rfl hin7 tyX7 tyX7_ok nmX7 4 (by decide) mw_309 rfl rfl rfl (Nat.le_of_ble_eq_true rfl) (xG_7 rfl) dX7_takeBack_37 (fun v7 H locs hv7 hP hS => ?_)
    have hI := XI_putN hI hv7 (by decide)
    refine lv_aload_n hE.1 hE.2.1 dX7_takeBack_40 rfl (lv_at hl 0 rfl) ?_
    refine lv_aload_n hE.1 hE.2.1 dX7_takeBack_41 rfl (lv_at hl 0 rfl) ?_
    refine x_get (x := .ref (ad 28)) hE hK hP 23 (Nat.lt_of_lt_of_le (by decide) hNN) (xG_7 rfl) rfl hin7 11 (by decide) mw_320 rfl dX7_takeBack_42 ?_
    refine lv_aload_n hE.1 hE.2.1 dX7_takeBack_45 rfl (lv_at hl 0 rfl) ?_
    refine x_get (x := .int (v7 23 2)) hE hK hP 23 (Nat.lt_of_lt_of_le (by decide) hNN) (xG_7 rfl) rfl hin7 2 (by decide) mw_301 rfl dX7_takeBack_46 ?_
    refine x_top (y := iI (z1 - 1)) ((up_oth hv7 (by decide)).trans (up_eq hv4)) ?_
    refine x_iald (j := iI (z1 - 1)) hE hK hP 28 (Nat.lt_of_lt_of_le (by decide) hNN) (xG_10 rfl) (iI_in (n := 18) (by omega)) dX7_takeBack_49 ?_
    obtain ⟨z9, hz9, ez9⟩ := iI_of (ar 28 (iI (z1 - 1)).toNatClampNeg)
    refine x_top ez9 ?_
    refine x_put (x := iI (z9)) hE hK hN hP hS 23 (Nat.lt_of_lt_of_le (by decide) hNN) (xG_7 rfl) rfl hin7 tyX7 tyX7_ok nmX7 8 (by decide) mw_317 rfl rfl rfl (Nat.le_of_ble_eq_true rfl) (xG_7 rfl) dX7_takeBack_50 (fun v10 H locs hv10 hP hS => ?_)
    have hI := XI_putN hI hv10 (by decide)
    refine lv_aload_n hE.1 hE.2.1 dX7_takeBack_53 rfl (lv_at hl 0 rfl) ?_
    refine lv_aload_n hE.1 hE.2.1 dX7_takeBack_54 rfl (lv_at hl 0 rfl) ?_
    refine x_get (x := .ref (ad 29)) hE hK hP 23 (Nat.lt_of_lt_of_le (by decide) hNN) (xG_7 rfl) rfl hin7 12 (by decide) mw_321 rfl dX7_takeBack_55 ?_
    refine lv_aload_n hE.1 hE.2.1 dX7_takeBack_58 rfl (lv_at hl 0 rfl) ?_
    refine x_get (x := .int (v10 23 2)) hE hK hP 23 (Nat.lt_of_lt_of_le (by decide) hNN) (xG_7 rfl) rfl hin7 2 (by decide) mw_301 rfl dX7_takeBack_59 ?_
    refine x_top (y := iI (z1 - 1)) ((up_oth hv10 (by decide)).trans ((up_oth hv7 (by decide)).trans (up_eq hv4))) ?_
    refine x_iald (j := iI (z1 - 1)) hE hK hP 29 (Nat.lt_of_lt_of_le (by decide) hNN) (xG_10 rfl) (iI_in (n := 18) (by omega)) dX7_takeBack_62 ?_
    obtain ⟨z12, hz12, ez12⟩ := iI_of (ar 29 (iI (z1 - 1)).toNatClampNeg)
    refine x_top ez12 ?_
    refine x_put (x := iI (z12)) hE hK hN hP hS 23 (Nat.lt_of_lt_of_le (by decide) hNN) (xG_7 rfl) rfl hin7 tyX7 tyX7_ok nmX7 9 (by decide) mw_318 rfl rfl rfl (Nat.le_of_ble_eq_true rfl) (xG_7 rfl) dX7_takeBack_63 (fun v13 H locs hv13 hP hS => ?_)
    have hI := XI_putN hI hv13 (by decide)
    refine lv_aload_n hE.1 hE.2.1 dX7_takeBack_66 rfl (lv_at hl 0 rfl) ?_
    refine x_get (x := .ref (ad 24)) hE hK hP 23 (Nat.lt_of_lt_of_le (by decide) hNN) (xG_7 rfl) rfl hin7 0 (by decide) mw_295 rfl dX7_takeBack_67 ?_
    refine lv_aload_n hE.1 hE.2.1 dX7_takeBack_70 rfl (lv_at hl 0 rfl) ?_
    refine x_get (x := .int (v13 23 2)) hE hK hP 23 (Nat.lt_of_lt_of_le (by decide) hNN) (xG_7 rfl) rfl hin7 2 (by decide) mw_301 rfl dX7_takeBack_71 ?_
    refine x_top (y := iI (z1 - 1)) ((up_oth hv13 (by decide)).trans ((up_oth hv10 (by decide)).trans ((up_oth hv7 (by decide)).trans (up_eq hv4)))) ?_
    refine x_iald (j := iI (z1 - 1)) hE hK hP 24 (Nat.lt_of_lt_of_le (by decide) hNN) (xG_10 rfl) (iI_in (n := 18) (by omega)) dX7_takeBack_74 ?_
    obtain ⟨z15, hz15, ez15⟩ := iI_of (ar 24 (iI (z1 - 1)).toNatClampNeg)
    refine x_top ez15 ?_
    refine lv_istore_n (lv' := [(1, .int (iI (z15))), (0, .ref (ad 23))]) hE.1 hE.2.1 dX7_takeBack_75 rfl hl (by decide) rfl (fun ls hl => ?_)
    refine lv_iload_n hE.1 hE.2.1 dX7_takeBack_76 rfl (lv_at hl 0 rfl) ?_
    refine s_if_lt (a := z15) (tgt := 94) hE.1 hE.2.1 (by omega) dX7_takeBack_77 (by decide) (fun c16 => ?_) (fun c16 => ?_)
    · skip
      refine lv_aload_n hE.1 hE.2.1 dX7_takeBack_94 rfl (lv_at hl 1 rfl) ?_
      refine x_get (x := .ref (ad 26)) hE hK hP 23 (Nat.lt_of_lt_of_le (by decide) hNN) (xG_7 rfl) rfl hin7 7 (by decide) mw_316 rfl dX7_takeBack_95 ?_
      refine lv_aload_n hE.1 hE.2.1 dX7_takeBack_98 rfl (lv_at hl 1 rfl) ?_
      refine x_vp (nn := 0) (As := []) (rest := [.ref (ad 26)]) hE (s_X7_teller_23 l D K ad mm N hNN v13 ar al hI  ) wPre_blind (wPre_now hK hN hP) (x_recv hK hP 23 (Nat.lt_of_lt_of_le (by decide) hNN) (xG_7 rfl) rfl) rfl mw_758 mw_759 mw_760 mw_117 mw_761 (by decide +kernel) ⟨by decide, by decide⟩ hl.1 rfl (Nat.le_of_ble_eq_true rfl) ⟨Nat.zero_le _, Nat.zero_le _⟩ dX7_takeBack_99 (fun r17 hr17 => ?_)
      obtain ⟨z17, hz17, rfl⟩ := hr17
      refine lv_dup2_11 hE.1 hE.2.1 dX7_takeBack_102 rfl rfl ?_
      refine x_iald (j := iI (z17)) hE hK hP 26 (Nat.lt_of_lt_of_le (by decide) hNN) (xG_10 rfl) (iI_in (n := 3) (by omega)) dX7_takeBack_103 ?_
      obtain ⟨z19, hz19, ez19⟩ := iI_of (ar 26 (iI (z17)).toNatClampNeg)
      refine x_top ez19 ?_
      refine lv_iconst (v := iI (1)) hE.1 hE.2.1 dX7_takeBack_104 (by decide) ?_
      refine lv_isub hE.1 hE.2.1 dX7_takeBack_105 ?_
      obtain ⟨z20, hz20, ez20⟩ := iI_of (iI (z19) - iI (1))
      refine x_top ez20 ?_
      refine x_iast (j := iI (z17)) hE hK hN hP hS 26 (Nat.lt_of_lt_of_le (by decide) hNN) (fun _ => xG_10 rfl) (iI_in (n := 3) (by omega)) dX7_takeBack_106 (fun ar21 H locs ha21 hP hS => ?_)
      exact kr _ _ _ _ _ _ _ ⟨hI, fun i j h => ((up_oth hv13 (fun q => h (by rcases q with ⟨rfl, rfl⟩; decide))).trans ((up_oth hv10 (fun q => h (by rcases q with ⟨rfl, rfl⟩; decide))).trans ((up_oth hv7 (fun q => h (by rcases q with ⟨rfl, rfl⟩; decide))).trans (up_oth hv4 (fun q => h (by rcases q with ⟨rfl, rfl⟩; decide))))))⟩ hP hS dX7_takeBack_107
    · skip
      refine lv_iload_n hE.1 hE.2.1 dX7_takeBack_80 rfl (lv_at hl 0 rfl) ?_
      refine lv_bipush (v := iI (9)) hE.1 hE.2.1 dX7_takeBack_81 (by decide) ?_
      refine s_icmp_ge (a := z15) (b := 9) (tgt := 94) hE.1 hE.2.1 (by omega) (by omega) dX7_takeBack_83 (by decide) (fun c22 => ?_) (fun c22 => ?_)
      · skip
        refine lv_aload_n hE.1 hE.2.1 dX7_takeBack_94 rfl (lv_at hl 1 rfl) ?_
        refine x_get (x := .ref (ad 26)) hE hK hP 23 (Nat.lt_of_lt_of_le (by decide) hNN) (xG_7 rfl) rfl hin7 7 (by decide) mw_316 rfl dX7_takeBack_95 ?_
        refine lv_aload_n hE.1 hE.2.1 dX7_takeBack_98 rfl (lv_at hl 1 rfl) ?_
        refine x_vp (nn := 0) (As := []) (rest := [.ref (ad 26)]) hE (s_X7_teller_23 l D K ad mm N hNN v13 ar al hI  ) wPre_blind (wPre_now hK hN hP) (x_recv hK hP 23 (Nat.lt_of_lt_of_le (by decide) hNN) (xG_7 rfl) rfl) rfl mw_758 mw_759 mw_760 mw_117 mw_761 (by decide +kernel) ⟨by decide, by decide⟩ hl.1 rfl (Nat.le_of_ble_eq_true rfl) ⟨Nat.zero_le _, Nat.zero_le _⟩ dX7_takeBack_99 (fun r23 hr23 => ?_)
        obtain ⟨z23, hz23, rfl⟩ := hr23
        refine lv_dup2_11 hE.1 hE.2.1 dX7_takeBack_102 rfl rfl ?_
        refine x_iald (j := iI (z23)) hE hK hP 26 (Nat.lt_of_lt_of_le (by decide) hNN) (xG_10 rfl) (iI_in (n := 3) (by omega)) dX7_takeBack_103 ?_
        obtain ⟨z25, hz25, ez25⟩ := iI_of (ar 26 (iI (z23)).toNatClampNeg)
        refine x_top ez25 ?_
        refine lv_iconst (v := iI (1)) hE.1 hE.2.1 dX7_takeBack_104 (by decide) ?_
        refine lv_isub hE.1 hE.2.1 dX7_takeBack_105 ?_
        obtain ⟨z26, hz26, ez26⟩ := iI_of (iI (z25) - iI (1))
        refine x_top ez26 ?_
        refine x_iast (j := iI (z23)) hE hK hN hP hS 26 (Nat.lt_of_lt_of_le (by decide) hNN) (fun _ => xG_10 rfl) (iI_in (n := 3) (by omega)) dX7_takeBack_106 (fun ar27 H locs ha27 hP hS => ?_)
        exact kr _ _ _ _ _ _ _ ⟨hI, fun i j h => ((up_oth hv13 (fun q => h (by rcases q with ⟨rfl, rfl⟩; decide))).trans ((up_oth hv10 (fun q => h (by rcases q with ⟨rfl, rfl⟩; decide))).trans ((up_oth hv7 (fun q => h (by rcases q with ⟨rfl, rfl⟩; decide))).trans (up_oth hv4 (fun q => h (by rcases q with ⟨rfl, rfl⟩; decide))))))⟩ hP hS dX7_takeBack_107
      · skip
        refine lv_aload_n hE.1 hE.2.1 dX7_takeBack_86 rfl (lv_at hl 1 rfl) ?_
        refine lv_iload_n hE.1 hE.2.1 dX7_takeBack_87 rfl (lv_at hl 0 rfl) ?_
        refine x_vv (nn := 1) (As := [.int (iI (z15))]) (rest := []) hE hK hN hP hS (s_X7_untell_23 l D K ad mm N hNN v13 ar al hI (z1 - 1) (by omega) ((up_oth hv13 (by decide)).trans ((up_oth hv10 (by decide)).trans ((up_oth hv7 (by decide)).trans (up_eq hv4)))) (z15) (by omega)) (x_recv hK hP 23 (Nat.lt_of_lt_of_le (by decide) hNN) (xG_7 rfl) rfl) rfl mw_816 mw_818 mw_21 mw_117 mw_819 (by decide +kernel) ⟨by decide, by decide⟩ hl.1 rfl (Nat.le_of_ble_eq_true rfl) ⟨Nat.zero_le _, Nat.zero_le _⟩ dX7_takeBack_88 (fun v28 ar28 al28 H locs hq28 hP hS => ?_)
        obtain ⟨hI, hq28⟩ := hq28
        have hI : XI v28 := hI
        refine lv_goto (tgt := 107) hE.1 hE.2.1 dX7_takeBack_91 (by decide) ?_
        exact kr _ _ _ _ _ _ _ ⟨hI, fun i j h => ((hq28 i j (fun q => h (mem_sub (by decide) q))).trans ((up_oth hv13 (fun q => h (by rcases q with ⟨rfl, rfl⟩; decide))).trans ((up_oth hv10 (fun q => h (by rcases q with ⟨rfl, rfl⟩; decide))).trans ((up_oth hv7 (fun q => h (by rcases q with ⟨rfl, rfl⟩; decide))).trans (up_oth hv4 (fun q => h (by rcases q with ⟨rfl, rfl⟩; decide)))))))⟩ hP hS dX7_takeBack_107

theorem dX8_unsay_0 : decode cX8_unsay 0 = .ok (.aload_n 0, 1) := by decide +kernel
theorem dX8_unsay_1 : decode cX8_unsay 1 = .ok (.getfield 19, 3) := by decide +kernel
theorem dX8_unsay_4 : decode cX8_unsay 4 = .ok (.invokevirtual 157, 3) := by decide +kernel
theorem dX8_unsay_7 : decode cX8_unsay 7 = .ok (.ifCond .ne 6, 3) := by decide +kernel
theorem dX8_unsay_10 : decode cX8_unsay 10 = .ok (.bipush (-2), 2) := by decide +kernel
theorem dX8_unsay_12 : decode cX8_unsay 12 = .ok (.ireturn, 1) := by decide +kernel
theorem dX8_unsay_13 : decode cX8_unsay 13 = .ok (.aload_n 0, 1) := by decide +kernel
theorem dX8_unsay_14 : decode cX8_unsay 14 = .ok (.getfield 31, 3) := by decide +kernel
theorem dX8_unsay_17 : decode cX8_unsay 17 = .ok (.getfield 167, 3) := by decide +kernel
theorem dX8_unsay_20 : decode cX8_unsay 20 = .ok (.ifCond .ne 6, 3) := by decide +kernel
theorem dX8_unsay_23 : decode cX8_unsay 23 = .ok (.bipush (-5), 2) := by decide +kernel
theorem dX8_unsay_25 : decode cX8_unsay 25 = .ok (.ireturn, 1) := by decide +kernel
theorem dX8_unsay_26 : decode cX8_unsay 26 = .ok (.aload_n 0, 1) := by decide +kernel
theorem dX8_unsay_27 : decode cX8_unsay 27 = .ok (.getfield 31, 3) := by decide +kernel
theorem dX8_unsay_30 : decode cX8_unsay 30 = .ok (.invokevirtual 170, 3) := by decide +kernel
theorem dX8_unsay_33 : decode cX8_unsay 33 = .ok (.aload_n 0, 1) := by decide +kernel
theorem dX8_unsay_34 : decode cX8_unsay 34 = .ok (.getfield 31, 3) := by decide +kernel
theorem dX8_unsay_37 : decode cX8_unsay 37 = .ok (.getfield 167, 3) := by decide +kernel
theorem dX8_unsay_40 : decode cX8_unsay 40 = .ok (.ireturn, 1) := by decide +kernel
set_option maxHeartbeats 4000000 in
set_option maxRecDepth 100000 in
theorem s_X8_unsay_0 (l : Launch) (D : va_G) (K : Nat → ClassId) (ad : Nat → Nat) (mm : Option Nat) (N : Nat) (hNN : 132 ≤ N) (v ar : sI) (al : sL) (hI : XI v) : Met l yX8_unsay (wM yX8_unsay cX8_unsay 1 (some .int)) (rmD 3) (va_Pc [.ref (ad 0)] (wPre D K ad (xG ad K mm) N v ar al)) (va_Qi (fun (r : Int32) (u : sT) => (∃ z : Int, (-2147483648 ≤ z ∧ z ≤ 2147483647) ∧ r = iI z) ∧ XI u.1 ∧ (∀ i j : Nat, (i, j) ∉ ([(23, 2), (23, 3), (23, 4), (23, 5), (23, 8), (23, 9)] : List (Nat × Nat)) → u.1 i j = v i j)) (wB D ad (xG ad K mm) N) (inW ad N)) 0 0 (inW ad N) := by
  refine s_metI (by decide) (Nat.le_of_ble_eq_true rfl) ?_
  intro p e s m below meth c ls args Q hE hB hl kr
  have hE : CallFix p m c cX8_unsay 1 s args tbG "TaleCourt" := hE
  obtain ⟨hP, hK, hN⟩ := hB
  have hS : va_S (inW ad N) s.heap s.heap [] := va_S.rf
  have hl : lv_has ls 1 [(0, .ref (ad 0))] := hl
  refine lv_aload_n hE.1 hE.2.1 dX8_unsay_0 rfl (lv_at hl 0 rfl) ?_
  refine x_get (x := .ref (ad 3)) hE hK hP 0 (Nat.lt_of_lt_of_le (by decide) hNN) (xG_8 rfl) rfl hin8 1 (by decide) mw_481 rfl dX8_unsay_1 ?_
  refine x_vp (nn := 0) (As := []) (rest := []) hE (s_X1_stands_3 l D K ad mm N hNN v ar al hI  ) wPre_blind (wPre_now hK hN hP) (x_recv hK hP 3 (Nat.lt_of_lt_of_le (by decide) hNN) (xG_1 rfl) rfl) rfl mw_788 mw_789 mw_790 mw_116 mw_791 (by decide +kernel) ⟨by decide, by decide⟩ hl.1 rfl (Nat.le_of_ble_eq_true rfl) ⟨Nat.zero_le _, Nat.zero_le _⟩ dX8_unsay_4 (fun r1 hr1 => ?_)
  obtain ⟨z1, hz1, rfl⟩ := hr1
  refine s_if_ne (a := z1) (tgt := 13) hE.1 hE.2.1 (by omega) dX8_unsay_7 (by decide) (fun c2 => ?_) (fun c2 => ?_)
  · skip
    refine lv_aload_n hE.1 hE.2.1 dX8_unsay_13 rfl (lv_at hl 0 rfl) ?_
    refine x_get (x := .ref (ad 23)) hE hK hP 0 (Nat.lt_of_lt_of_le (by decide) hNN) (xG_8 rfl) rfl hin8 3 (by decide) mw_483 rfl dX8_unsay_14 ?_
    obtain ⟨z3, hz3, ez3⟩ := XI_get hI 23 2 0 18 (by decide)
    refine x_get (x := .int (v 23 2)) hE hK hP 23 (Nat.lt_of_lt_of_le (by decide) hNN) (xG_7 rfl) rfl hin7 2 (by decide) mw_304 rfl dX8_unsay_17 ?_
    refine x_top (y := iI (z3)) ez3 ?_
    refine s_if_ne (a := z3) (tgt := 26) hE.1 hE.2.1 (by omega) dX8_unsay_20 (by decide) (fun c4 => ?_) (fun c4 => ?_)
    · skip
      refine lv_aload_n hE.1 hE.2.1 dX8_unsay_26 rfl (lv_at hl 0 rfl) ?_
      refine x_get (x := .ref (ad 23)) hE hK hP 0 (Nat.lt_of_lt_of_le (by decide) hNN) (xG_8 rfl) rfl hin8 3 (by decide) mw_483 rfl dX8_unsay_27 ?_
      refine x_vv (nn := 0) (As := []) (rest := []) hE hK hN hP hS (s_X7_takeBack_23 l D K ad mm N hNN v ar al hI  ) (x_recv hK hP 23 (Nat.lt_of_lt_of_le (by decide) hNN) (xG_7 rfl) rfl) rfl mw_812 mw_813 mw_814 mw_117 mw_815 (by decide +kernel) ⟨by decide, by decide⟩ hl.1 rfl (Nat.le_of_ble_eq_true rfl) ⟨Nat.zero_le _, Nat.zero_le _⟩ dX8_unsay_30 (fun v5 ar5 al5 H locs hq5 hP hS => ?_)
      obtain ⟨hI, hq5⟩ := hq5
      have hI : XI v5 := hI
      refine lv_aload_n hE.1 hE.2.1 dX8_unsay_33 rfl (lv_at hl 0 rfl) ?_
      refine x_get (x := .ref (ad 23)) hE hK hP 0 (Nat.lt_of_lt_of_le (by decide) hNN) (xG_8 rfl) rfl hin8 3 (by decide) mw_483 rfl dX8_unsay_34 ?_
      obtain ⟨z6, hz6, ez6⟩ := XI_get hI 23 2 0 18 (by decide)
      refine x_get (x := .int (v5 23 2)) hE hK hP 23 (Nat.lt_of_lt_of_le (by decide) hNN) (xG_7 rfl) rfl hin7 2 (by decide) mw_304 rfl dX8_unsay_37 ?_
      refine x_top (y := iI (z6)) ez6 ?_
      exact kr _ _ _ _ _ _ _ _ rfl ⟨⟨z6, by omega, rfl⟩, hI, fun i j h => (hq5 i j (fun q => h (mem_sub (by decide) q)))⟩ hP hS dX8_unsay_40
    · skip
      refine lv_bipush (v := iI (-5)) hE.1 hE.2.1 dX8_unsay_23 (by decide) ?_
      exact kr _ _ _ _ _ _ _ _ rfl ⟨⟨-5, by omega, rfl⟩, hI, fun i j h => rfl⟩ hP hS dX8_unsay_25
  · skip
    refine lv_bipush (v := iI (-2)) hE.1 hE.2.1 dX8_unsay_10 (by decide) ?_
    exact kr _ _ _ _ _ _ _ _ rfl ⟨⟨-2, by omega, rfl⟩, hI, fun i j h => rfl⟩ hP hS dX8_unsay_12

theorem dX7_clear_0 : decode cX7_clear 0 = .ok (.aload_n 0, 1) := by decide +kernel
theorem dX7_clear_1 : decode cX7_clear 1 = .ok (.iconst 0, 1) := by decide +kernel
theorem dX7_clear_2 : decode cX7_clear 2 = .ok (.putfield 41, 3) := by decide +kernel
theorem dX7_clear_5 : decode cX7_clear 5 = .ok (.aload_n 0, 1) := by decide +kernel
theorem dX7_clear_6 : decode cX7_clear 6 = .ok (.iconst 0, 1) := by decide +kernel
theorem dX7_clear_7 : decode cX7_clear 7 = .ok (.putfield 44, 3) := by decide +kernel
theorem dX7_clear_10 : decode cX7_clear 10 = .ok (.aload_n 0, 1) := by decide +kernel
theorem dX7_clear_11 : decode cX7_clear 11 = .ok (.iconst (-1), 1) := by decide +kernel
theorem dX7_clear_12 : decode cX7_clear 12 = .ok (.putfield 18, 3) := by decide +kernel
theorem dX7_clear_15 : decode cX7_clear 15 = .ok (.aload_n 0, 1) := by decide +kernel
theorem dX7_clear_16 : decode cX7_clear 16 = .ok (.iconst 0, 1) := by decide +kernel
theorem dX7_clear_17 : decode cX7_clear 17 = .ok (.putfield 47, 3) := by decide +kernel
theorem dX7_clear_20 : decode cX7_clear 20 = .ok (.aload_n 0, 1) := by decide +kernel
theorem dX7_clear_21 : decode cX7_clear 21 = .ok (.iconst 0, 1) := by decide +kernel
theorem dX7_clear_22 : decode cX7_clear 22 = .ok (.putfield 50, 3) := by decide +kernel
theorem dX7_clear_25 : decode cX7_clear 25 = .ok (.aload_n 0, 1) := by decide +kernel
theorem dX7_clear_26 : decode cX7_clear 26 = .ok (.iconst 0, 1) := by decide +kernel
theorem dX7_clear_27 : decode cX7_clear 27 = .ok (.putfield 53, 3) := by decide +kernel
theorem dX7_clear_30 : decode cX7_clear 30 = .ok (.aload_n 0, 1) := by decide +kernel
theorem dX7_clear_31 : decode cX7_clear 31 = .ok (.getfield 22, 3) := by decide +kernel
theorem dX7_clear_34 : decode cX7_clear 34 = .ok (.iconst 0, 1) := by decide +kernel
theorem dX7_clear_35 : decode cX7_clear 35 = .ok (.invokestatic 56, 3) := by decide +kernel
theorem dX7_clear_38 : decode cX7_clear 38 = .ok (.return_, 1) := by decide +kernel
set_option maxHeartbeats 4000000 in
set_option maxRecDepth 100000 in
theorem s_X7_clear_23 (l : Launch) (D : va_G) (K : Nat → ClassId) (ad : Nat → Nat) (mm : Option Nat) (N : Nat) (hNN : 132 ≤ N) (v ar : sI) (al : sL) (hI : XI v) : Met l yX7_clear (wM yX7_clear cX7_clear 1 none) (rmD 1) (va_Pc [.ref (ad 23)] (wPre D K ad (xG ad K mm) N v ar al)) (va_Qv (fun u : sT => XI u.1 ∧ (∀ i j : Nat, (i, j) ∉ ([(23, 2), (23, 3), (23, 4), (23, 5), (23, 8), (23, 9)] : List (Nat × Nat)) → u.1 i j = v i j)) (wB D ad (xG ad K mm) N) (inW ad N)) 0 0 (inW ad N) := by
  refine s_metV (by decide) (Nat.le_of_ble_eq_true rfl) ?_
  intro p e s m below meth c ls args Q hE hB hl kr
  have hE : CallFix p m c cX7_clear 1 s args tbG "TaleCourt$Telling" := hE
  obtain ⟨hP, hK, hN⟩ := hB
  have hS : va_S (inW ad N) s.heap s.heap [] := va_S.rf
  have hl : lv_has ls 1 [(0, .ref (ad 23))] := hl
  refine lv_aload_n hE.1 hE.2.1 dX7_clear_0 rfl (lv_at hl 0 rfl) ?_
  refine lv_iconst (v := iI (0)) hE.1 hE.2.1 dX7_clear_1 (by decide) ?_
  refine x_put (x := iI (0)) hE hK hN hP hS 23 (Nat.lt_of_lt_of_le (by decide) hNN) (xG_7 rfl) rfl hin7 tyX7 tyX7_ok nmX7 2 (by decide) mw_301 rfl rfl rfl (Nat.le_of_ble_eq_true rfl) (xG_7 rfl) dX7_clear_2 (fun v1 H locs hv1 hP hS => ?_)
  have hI := XI_putB (z := 0) hI hv1 0 18 (by omega) (by decide) (by omega)
  refine lv_aload_n hE.1 hE.2.1 dX7_clear_5 rfl (lv_at hl 0 rfl) ?_
  refine lv_iconst (v := iI (0)) hE.1 hE.2.1 dX7_clear_6 (by decide) ?_
  refine x_put (x := iI (0)) hE hK hN hP hS 23 (Nat.lt_of_lt_of_le (by decide) hNN) (xG_7 rfl) rfl hin7 tyX7 tyX7_ok nmX7 3 (by decide) mw_305 rfl rfl rfl (Nat.le_of_ble_eq_true rfl) (xG_7 rfl) dX7_clear_7 (fun v2 H locs hv2 hP hS => ?_)
  have hI := XI_putN hI hv2 (by decide)
  refine lv_aload_n hE.1 hE.2.1 dX7_clear_10 rfl (lv_at hl 0 rfl) ?_
  refine lv_iconst (v := iI (-1)) hE.1 hE.2.1 dX7_clear_11 (by decide) ?_
  refine x_put (x := iI (-1)) hE hK hN hP hS 23 (Nat.lt_of_lt_of_le (by decide) hNN) (xG_7 rfl) rfl hin7 tyX7 tyX7_ok nmX7 4 (by decide) mw_309 rfl rfl rfl (Nat.le_of_ble_eq_true rfl) (xG_7 rfl) dX7_clear_12 (fun v3 H locs hv3 hP hS => ?_)
  have hI := XI_putN hI hv3 (by decide)
  refine lv_aload_n hE.1 hE.2.1 dX7_clear_15 rfl (lv_at hl 0 rfl) ?_
  refine lv_iconst (v := iI (0)) hE.1 hE.2.1 dX7_clear_16 (by decide) ?_
  refine x_put (x := iI (0)) hE hK hN hP hS 23 (Nat.lt_of_lt_of_le (by decide) hNN) (xG_7 rfl) rfl hin7 tyX7 tyX7_ok nmX7 5 (by decide) mw_312 rfl rfl rfl (Nat.le_of_ble_eq_true rfl) (xG_7 rfl) dX7_clear_17 (fun v4 H locs hv4 hP hS => ?_)
  have hI := XI_putN hI hv4 (by decide)
  refine lv_aload_n hE.1 hE.2.1 dX7_clear_20 rfl (lv_at hl 0 rfl) ?_
  refine lv_iconst (v := iI (0)) hE.1 hE.2.1 dX7_clear_21 (by decide) ?_
  refine x_put (x := iI (0)) hE hK hN hP hS 23 (Nat.lt_of_lt_of_le (by decide) hNN) (xG_7 rfl) rfl hin7 tyX7 tyX7_ok nmX7 8 (by decide) mw_317 rfl rfl rfl (Nat.le_of_ble_eq_true rfl) (xG_7 rfl) dX7_clear_22 (fun v5 H locs hv5 hP hS => ?_)
  have hI := XI_putN hI hv5 (by decide)
  refine lv_aload_n hE.1 hE.2.1 dX7_clear_25 rfl (lv_at hl 0 rfl) ?_
  refine lv_iconst (v := iI (0)) hE.1 hE.2.1 dX7_clear_26 (by decide) ?_
  refine x_put (x := iI (0)) hE hK hN hP hS 23 (Nat.lt_of_lt_of_le (by decide) hNN) (xG_7 rfl) rfl hin7 tyX7 tyX7_ok nmX7 9 (by decide) mw_318 rfl rfl rfl (Nat.le_of_ble_eq_true rfl) (xG_7 rfl) dX7_clear_27 (fun v6 H locs hv6 hP hS => ?_)
  have hI := XI_putN hI hv6 (by decide)
  refine lv_aload_n hE.1 hE.2.1 dX7_clear_30 rfl (lv_at hl 0 rfl) ?_
  refine x_get (x := .ref (ad 26)) hE hK hP 23 (Nat.lt_of_lt_of_le (by decide) hNN) (xG_7 rfl) rfl hin7 7 (by decide) mw_316 rfl dX7_clear_31 ?_
  refine lv_iconst (v := iI (0)) hE.1 hE.2.1 dX7_clear_34 (by decide) ?_
  refine x_sv (nn := 2) (As := [.ref (ad 26), .int (iI (0))]) (rest := []) hE hK hN hP hS (k_fillI l D K ad v6 ar al 26 3 (Nat.lt_of_lt_of_le (by decide) hNN) (fun _ => xG_10 rfl) (Nat.le_of_ble_eq_true rfl) (iI (0))) rfl mw_685 mw_536 mw_124 mw_537 (by decide +kernel) ⟨by decide, by decide⟩ hl.1 rfl (Nat.le_of_ble_eq_true rfl) ⟨Nat.zero_le _, Nat.zero_le _⟩ dX7_clear_35 (fun v7 ar7 al7 H locs hq7 hP hS => ?_)
  rw [show v7 = v6 from hq7.1] at hP
  exact kr _ _ _ _ _ _ _ ⟨hI, fun i j h => ((up_oth hv6 (fun q => h (by rcases q with ⟨rfl, rfl⟩; decide))).trans ((up_oth hv5 (fun q => h (by rcases q with ⟨rfl, rfl⟩; decide))).trans ((up_oth hv4 (fun q => h (by rcases q with ⟨rfl, rfl⟩; decide))).trans ((up_oth hv3 (fun q => h (by rcases q with ⟨rfl, rfl⟩; decide))).trans ((up_oth hv2 (fun q => h (by rcases q with ⟨rfl, rfl⟩; decide))).trans (up_oth hv1 (fun q => h (by rcases q with ⟨rfl, rfl⟩; decide))))))))⟩ hP hS dX7_clear_38

theorem dX8_anew_0 : decode cX8_anew 0 = .ok (.aload_n 0, 1) := by decide +kernel
theorem dX8_anew_1 : decode cX8_anew 1 = .ok (.getfield 19, 3) := by decide +kernel
theorem dX8_anew_4 : decode cX8_anew 4 = .ok (.invokevirtual 157, 3) := by decide +kernel
theorem dX8_anew_7 : decode cX8_anew 7 = .ok (.ifCond .ne 6, 3) := by decide +kernel
theorem dX8_anew_10 : decode cX8_anew 10 = .ok (.bipush (-2), 2) := by decide +kernel
theorem dX8_anew_12 : decode cX8_anew 12 = .ok (.ireturn, 1) := by decide +kernel
theorem dX8_anew_13 : decode cX8_anew 13 = .ok (.aload_n 0, 1) := by decide +kernel
theorem dX8_anew_14 : decode cX8_anew 14 = .ok (.getfield 31, 3) := by decide +kernel
theorem dX8_anew_17 : decode cX8_anew 17 = .ok (.getfield 167, 3) := by decide +kernel
theorem dX8_anew_20 : decode cX8_anew 20 = .ok (.istore_n 1, 1) := by decide +kernel
theorem dX8_anew_21 : decode cX8_anew 21 = .ok (.aload_n 0, 1) := by decide +kernel
theorem dX8_anew_22 : decode cX8_anew 22 = .ok (.getfield 31, 3) := by decide +kernel
theorem dX8_anew_25 : decode cX8_anew 25 = .ok (.invokevirtual 90, 3) := by decide +kernel
theorem dX8_anew_28 : decode cX8_anew 28 = .ok (.iload_n 1, 1) := by decide +kernel
theorem dX8_anew_29 : decode cX8_anew 29 = .ok (.ireturn, 1) := by decide +kernel
set_option maxHeartbeats 4000000 in
set_option maxRecDepth 100000 in
theorem s_X8_anew_0 (l : Launch) (D : va_G) (K : Nat → ClassId) (ad : Nat → Nat) (mm : Option Nat) (N : Nat) (hNN : 132 ≤ N) (v ar : sI) (al : sL) (hI : XI v) : Met l yX8_anew (wM yX8_anew cX8_anew 2 (some .int)) (rmD 2) (va_Pc [.ref (ad 0)] (wPre D K ad (xG ad K mm) N v ar al)) (va_Qi (fun (r : Int32) (u : sT) => (∃ z : Int, (-2147483648 ≤ z ∧ z ≤ 2147483647) ∧ r = iI z) ∧ XI u.1 ∧ (∀ i j : Nat, (i, j) ∉ ([(23, 2), (23, 3), (23, 4), (23, 5), (23, 8), (23, 9)] : List (Nat × Nat)) → u.1 i j = v i j)) (wB D ad (xG ad K mm) N) (inW ad N)) 0 0 (inW ad N) := by
  refine s_metI (by decide) (Nat.le_of_ble_eq_true rfl) ?_
  intro p e s m below meth c ls args Q hE hB hl kr
  have hE : CallFix p m c cX8_anew 2 s args tbG "TaleCourt" := hE
  obtain ⟨hP, hK, hN⟩ := hB
  have hS : va_S (inW ad N) s.heap s.heap [] := va_S.rf
  have hl : lv_has ls 2 [(0, .ref (ad 0))] := hl
  refine lv_aload_n hE.1 hE.2.1 dX8_anew_0 rfl (lv_at hl 0 rfl) ?_
  refine x_get (x := .ref (ad 3)) hE hK hP 0 (Nat.lt_of_lt_of_le (by decide) hNN) (xG_8 rfl) rfl hin8 1 (by decide) mw_481 rfl dX8_anew_1 ?_
  refine x_vp (nn := 0) (As := []) (rest := []) hE (s_X1_stands_3 l D K ad mm N hNN v ar al hI  ) wPre_blind (wPre_now hK hN hP) (x_recv hK hP 3 (Nat.lt_of_lt_of_le (by decide) hNN) (xG_1 rfl) rfl) rfl mw_788 mw_789 mw_790 mw_116 mw_791 (by decide +kernel) ⟨by decide, by decide⟩ hl.1 rfl (Nat.le_of_ble_eq_true rfl) ⟨Nat.zero_le _, Nat.zero_le _⟩ dX8_anew_4 (fun r1 hr1 => ?_)
  obtain ⟨z1, hz1, rfl⟩ := hr1
  refine s_if_ne (a := z1) (tgt := 13) hE.1 hE.2.1 (by omega) dX8_anew_7 (by decide) (fun c2 => ?_) (fun c2 => ?_)
  · skip
    refine lv_aload_n hE.1 hE.2.1 dX8_anew_13 rfl (lv_at hl 0 rfl) ?_
    refine x_get (x := .ref (ad 23)) hE hK hP 0 (Nat.lt_of_lt_of_le (by decide) hNN) (xG_8 rfl) rfl hin8 3 (by decide) mw_483 rfl dX8_anew_14 ?_
    obtain ⟨z3, hz3, ez3⟩ := XI_get hI 23 2 0 18 (by decide)
    refine x_get (x := .int (v 23 2)) hE hK hP 23 (Nat.lt_of_lt_of_le (by decide) hNN) (xG_7 rfl) rfl hin7 2 (by decide) mw_304 rfl dX8_anew_17 ?_
    refine x_top (y := iI (z3)) ez3 ?_
    refine lv_istore_n (lv' := [(1, .int (iI (z3))), (0, .ref (ad 0))]) hE.1 hE.2.1 dX8_anew_20 rfl hl (by decide) rfl (fun ls hl => ?_)
    refine lv_aload_n hE.1 hE.2.1 dX8_anew_21 rfl (lv_at hl 1 rfl) ?_
    refine x_get (x := .ref (ad 23)) hE hK hP 0 (Nat.lt_of_lt_of_le (by decide) hNN) (xG_8 rfl) rfl hin8 3 (by decide) mw_483 rfl dX8_anew_22 ?_
    refine x_vv (nn := 0) (As := []) (rest := []) hE hK hN hP hS (s_X7_clear_23 l D K ad mm N hNN v ar al hI  ) (x_recv hK hP 23 (Nat.lt_of_lt_of_le (by decide) hNN) (xG_7 rfl) rfl) rfl mw_681 mw_682 mw_683 mw_117 mw_684 (by decide +kernel) ⟨by decide, by decide⟩ hl.1 rfl (Nat.le_of_ble_eq_true rfl) ⟨Nat.zero_le _, Nat.zero_le _⟩ dX8_anew_25 (fun v4 ar4 al4 H locs hq4 hP hS => ?_)
    obtain ⟨hI, hq4⟩ := hq4
    have hI : XI v4 := hI
    refine lv_iload_n hE.1 hE.2.1 dX8_anew_28 rfl (lv_at hl 0 rfl) ?_
    exact kr _ _ _ _ _ _ _ _ rfl ⟨⟨z3, by omega, rfl⟩, hI, fun i j h => (hq4 i j (fun q => h (mem_sub (by decide) q)))⟩ hP hS dX8_anew_29
  · skip
    refine lv_bipush (v := iI (-2)) hE.1 hE.2.1 dX8_anew_10 (by decide) ?_
    exact kr _ _ _ _ _ _ _ _ rfl ⟨⟨-2, by omega, rfl⟩, hI, fun i j h => rfl⟩ hP hS dX8_anew_12

theorem dX8_told_0 : decode cX8_told 0 = .ok (.aload_n 0, 1) := by decide +kernel
theorem dX8_told_1 : decode cX8_told 1 = .ok (.getfield 19, 3) := by decide +kernel
theorem dX8_told_4 : decode cX8_told 4 = .ok (.invokevirtual 157, 3) := by decide +kernel
theorem dX8_told_7 : decode cX8_told 7 = .ok (.ifCond .ne 6, 3) := by decide +kernel
theorem dX8_told_10 : decode cX8_told 10 = .ok (.bipush (-2), 2) := by decide +kernel
theorem dX8_told_12 : decode cX8_told 12 = .ok (.ireturn, 1) := by decide +kernel
theorem dX8_told_13 : decode cX8_told 13 = .ok (.iload_n 1, 1) := by decide +kernel
theorem dX8_told_14 : decode cX8_told 14 = .ok (.ifCond .lt 32, 3) := by decide +kernel
theorem dX8_told_17 : decode cX8_told 17 = .ok (.iload_n 1, 1) := by decide +kernel
theorem dX8_told_18 : decode cX8_told 18 = .ok (.aload_n 0, 1) := by decide +kernel
theorem dX8_told_19 : decode cX8_told 19 = .ok (.getfield 31, 3) := by decide +kernel
theorem dX8_told_22 : decode cX8_told 22 = .ok (.getfield 167, 3) := by decide +kernel
theorem dX8_told_25 : decode cX8_told 25 = .ok (.if_icmp .ge 21, 3) := by decide +kernel
theorem dX8_told_28 : decode cX8_told 28 = .ok (.iload_n 1, 1) := by decide +kernel
theorem dX8_told_29 : decode cX8_told 29 = .ok (.bipush 18, 2) := by decide +kernel
theorem dX8_told_31 : decode cX8_told 31 = .ok (.if_icmp .ge 15, 3) := by decide +kernel
theorem dX8_told_34 : decode cX8_told 34 = .ok (.aload_n 0, 1) := by decide +kernel
theorem dX8_told_35 : decode cX8_told 35 = .ok (.getfield 31, 3) := by decide +kernel
theorem dX8_told_38 : decode cX8_told 38 = .ok (.getfield 173, 3) := by decide +kernel
theorem dX8_told_41 : decode cX8_told 41 = .ok (.iload_n 1, 1) := by decide +kernel
theorem dX8_told_42 : decode cX8_told 42 = .ok (.iaload, 1) := by decide +kernel
theorem dX8_told_43 : decode cX8_told 43 = .ok (.goto 4, 3) := by decide +kernel
theorem dX8_told_46 : decode cX8_told 46 = .ok (.iconst (-1), 1) := by decide +kernel
theorem dX8_told_47 : decode cX8_told 47 = .ok (.ireturn, 1) := by decide +kernel
set_option maxHeartbeats 4000000 in
set_option maxRecDepth 100000 in
theorem s_X8_told_0 (l : Launch) (D : va_G) (K : Nat → ClassId) (ad : Nat → Nat) (mm : Option Nat) (N : Nat) (hNN : 132 ≤ N) (v ar : sI) (al : sL) (hI : XI v) (z_1 : Int) (hz_1 : -2147483648 ≤ z_1 ∧ z_1 ≤ 2147483647) : Met l yX8_told (wM yX8_told cX8_told 2 (some .int)) (rmD 1) (va_Pc [.ref (ad 0), .int (iI (z_1))] (wPre D K ad (xG ad K mm) N v ar al)) (vp_Si (fun r => ∃ z : Int, (-2147483648 ≤ z ∧ z ≤ 2147483647) ∧ r = iI z)) 0 0 (fun _ => False) := by
  refine s_metP (by decide) (Nat.le_of_ble_eq_true rfl) ?_
  intro p e s m below meth c ls args Q hE hB hl kr
  have hE : CallFix p m c cX8_told 2 s args tbG "TaleCourt" := hE
  obtain ⟨hP, hK, hN⟩ := hB
  have hl : lv_has ls 2 [(0, .ref (ad 0)), (1, .int (iI (z_1)))] := hl
  refine lv_aload_n hE.1 hE.2.1 dX8_told_0 rfl (lv_at hl 0 rfl) ?_
  refine x_get (x := .ref (ad 3)) hE hK hP 0 (Nat.lt_of_lt_of_le (by decide) hNN) (xG_8 rfl) rfl hin8 1 (by decide) mw_481 rfl dX8_told_1 ?_
  refine x_vp (nn := 0) (As := []) (rest := []) hE (s_X1_stands_3 l D K ad mm N hNN v ar al hI  ) wPre_blind (wPre_now hK hN hP) (x_recv hK hP 3 (Nat.lt_of_lt_of_le (by decide) hNN) (xG_1 rfl) rfl) rfl mw_788 mw_789 mw_790 mw_116 mw_791 (by decide +kernel) ⟨by decide, by decide⟩ hl.1 rfl (Nat.le_of_ble_eq_true rfl) ⟨Nat.zero_le _, Nat.zero_le _⟩ dX8_told_4 (fun r1 hr1 => ?_)
  obtain ⟨z1, hz1, rfl⟩ := hr1
  refine s_if_ne (a := z1) (tgt := 13) hE.1 hE.2.1 (by omega) dX8_told_7 (by decide) (fun c2 => ?_) (fun c2 => ?_)
  · skip
    refine lv_iload_n hE.1 hE.2.1 dX8_told_13 rfl (lv_at hl 1 rfl) ?_
    refine s_if_lt (a := z_1) (tgt := 46) hE.1 hE.2.1 (by omega) dX8_told_14 (by decide) (fun c3 => ?_) (fun c3 => ?_)
    · skip
      refine lv_iconst (v := iI (-1)) hE.1 hE.2.1 dX8_told_46 (by decide) ?_
      exact kr _ _ _ rfl ⟨-1, by omega, rfl⟩ dX8_told_47
    · skip
      refine lv_iload_n hE.1 hE.2.1 dX8_told_17 rfl (lv_at hl 1 rfl) ?_
      refine lv_aload_n hE.1 hE.2.1 dX8_told_18 rfl (lv_at hl 0 rfl) ?_
      refine x_get (x := .ref (ad 23)) hE hK hP 0 (Nat.lt_of_lt_of_le (by decide) hNN) (xG_8 rfl) rfl hin8 3 (by decide) mw_483 rfl dX8_told_19 ?_
      obtain ⟨z4, hz4, ez4⟩ := XI_get hI 23 2 0 18 (by decide)
      refine x_get (x := .int (v 23 2)) hE hK hP 23 (Nat.lt_of_lt_of_le (by decide) hNN) (xG_7 rfl) rfl hin7 2 (by decide) mw_304 rfl dX8_told_22 ?_
      refine x_top (y := iI (z4)) ez4 ?_
      refine s_icmp_ge (a := z_1) (b := z4) (tgt := 46) hE.1 hE.2.1 (by omega) (by omega) dX8_told_25 (by decide) (fun c5 => ?_) (fun c5 => ?_)
      · skip
        refine lv_iconst (v := iI (-1)) hE.1 hE.2.1 dX8_told_46 (by decide) ?_
        exact kr _ _ _ rfl ⟨-1, by omega, rfl⟩ dX8_told_47
      · skip
        refine lv_iload_n hE.1 hE.2.1 dX8_told_28 rfl (lv_at hl 1 rfl) ?_
        refine lv_bipush (v := iI (18)) hE.1 hE.2.1 dX8_told_29 (by decide) ?_
        refine s_icmp_ge (a := z_1) (b := 18) (tgt := 46) hE.1 hE.2.1 (by omega) (by omega) dX8_told_31 (by decide) (fun c6 => False.elim (by omega)) (fun _ => ?_)
        refine lv_aload_n hE.1 hE.2.1 dX8_told_34 rfl (lv_at hl 0 rfl) ?_
        refine x_get (x := .ref (ad 23)) hE hK hP 0 (Nat.lt_of_lt_of_le (by decide) hNN) (xG_8 rfl) rfl hin8 3 (by decide) mw_483 rfl dX8_told_35 ?_
        refine x_get (x := .ref (ad 24)) hE hK hP 23 (Nat.lt_of_lt_of_le (by decide) hNN) (xG_7 rfl) rfl hin7 0 (by decide) mw_298 rfl dX8_told_38 ?_
        refine lv_iload_n hE.1 hE.2.1 dX8_told_41 rfl (lv_at hl 1 rfl) ?_
        refine x_iald (j := iI (z_1)) hE hK hP 24 (Nat.lt_of_lt_of_le (by decide) hNN) (xG_10 rfl) (iI_in (n := 18) (by omega)) dX8_told_42 ?_
        obtain ⟨z8, hz8, ez8⟩ := iI_of (ar 24 (iI (z_1)).toNatClampNeg)
        refine x_top ez8 ?_
        refine lv_goto (tgt := 47) hE.1 hE.2.1 dX8_told_43 (by decide) ?_
        exact kr _ _ _ rfl ⟨z8, by omega, rfl⟩ dX8_told_47
  · skip
    refine lv_bipush (v := iI (-2)) hE.1 hE.2.1 dX8_told_10 (by decide) ?_
    exact kr _ _ _ rfl ⟨-2, by omega, rfl⟩ dX8_told_12

theorem dX8_length_0 : decode cX8_length 0 = .ok (.aload_n 0, 1) := by decide +kernel
theorem dX8_length_1 : decode cX8_length 1 = .ok (.getfield 19, 3) := by decide +kernel
theorem dX8_length_4 : decode cX8_length 4 = .ok (.invokevirtual 157, 3) := by decide +kernel
theorem dX8_length_7 : decode cX8_length 7 = .ok (.ifCond .eq 13, 3) := by decide +kernel
theorem dX8_length_10 : decode cX8_length 10 = .ok (.aload_n 0, 1) := by decide +kernel
theorem dX8_length_11 : decode cX8_length 11 = .ok (.getfield 31, 3) := by decide +kernel
theorem dX8_length_14 : decode cX8_length 14 = .ok (.getfield 167, 3) := by decide +kernel
theorem dX8_length_17 : decode cX8_length 17 = .ok (.goto 5, 3) := by decide +kernel
theorem dX8_length_20 : decode cX8_length 20 = .ok (.bipush (-2), 2) := by decide +kernel
theorem dX8_length_22 : decode cX8_length 22 = .ok (.ireturn, 1) := by decide +kernel
set_option maxHeartbeats 4000000 in
set_option maxRecDepth 100000 in
theorem s_X8_length_0 (l : Launch) (D : va_G) (K : Nat → ClassId) (ad : Nat → Nat) (mm : Option Nat) (N : Nat) (hNN : 132 ≤ N) (v ar : sI) (al : sL) (hI : XI v) : Met l yX8_length (wM yX8_length cX8_length 1 (some .int)) (rmD 1) (va_Pc [.ref (ad 0)] (wPre D K ad (xG ad K mm) N v ar al)) (vp_Si (fun r => ∃ z : Int, (-2147483648 ≤ z ∧ z ≤ 2147483647) ∧ r = iI z)) 0 0 (fun _ => False) := by
  refine s_metP (by decide) (Nat.le_of_ble_eq_true rfl) ?_
  intro p e s m below meth c ls args Q hE hB hl kr
  have hE : CallFix p m c cX8_length 1 s args tbG "TaleCourt" := hE
  obtain ⟨hP, hK, hN⟩ := hB
  have hl : lv_has ls 1 [(0, .ref (ad 0))] := hl
  refine lv_aload_n hE.1 hE.2.1 dX8_length_0 rfl (lv_at hl 0 rfl) ?_
  refine x_get (x := .ref (ad 3)) hE hK hP 0 (Nat.lt_of_lt_of_le (by decide) hNN) (xG_8 rfl) rfl hin8 1 (by decide) mw_481 rfl dX8_length_1 ?_
  refine x_vp (nn := 0) (As := []) (rest := []) hE (s_X1_stands_3 l D K ad mm N hNN v ar al hI  ) wPre_blind (wPre_now hK hN hP) (x_recv hK hP 3 (Nat.lt_of_lt_of_le (by decide) hNN) (xG_1 rfl) rfl) rfl mw_788 mw_789 mw_790 mw_116 mw_791 (by decide +kernel) ⟨by decide, by decide⟩ hl.1 rfl (Nat.le_of_ble_eq_true rfl) ⟨Nat.zero_le _, Nat.zero_le _⟩ dX8_length_4 (fun r1 hr1 => ?_)
  obtain ⟨z1, hz1, rfl⟩ := hr1
  refine s_if_eq (a := z1) (tgt := 20) hE.1 hE.2.1 (by omega) dX8_length_7 (by decide) (fun c2 => ?_) (fun c2 => ?_)
  · skip
    refine lv_bipush (v := iI (-2)) hE.1 hE.2.1 dX8_length_20 (by decide) ?_
    exact kr _ _ _ rfl ⟨-2, by omega, rfl⟩ dX8_length_22
  · skip
    refine lv_aload_n hE.1 hE.2.1 dX8_length_10 rfl (lv_at hl 0 rfl) ?_
    refine x_get (x := .ref (ad 23)) hE hK hP 0 (Nat.lt_of_lt_of_le (by decide) hNN) (xG_8 rfl) rfl hin8 3 (by decide) mw_483 rfl dX8_length_11 ?_
    obtain ⟨z3, hz3, ez3⟩ := XI_get hI 23 2 0 18 (by decide)
    refine x_get (x := .int (v 23 2)) hE hK hP 23 (Nat.lt_of_lt_of_le (by decide) hNN) (xG_7 rfl) rfl hin7 2 (by decide) mw_304 rfl dX8_length_14 ?_
    refine x_top (y := iI (z3)) ez3 ?_
    refine lv_goto (tgt := 22) hE.1 hE.2.1 dX8_length_17 (by decide) ?_
    exact kr _ _ _ rfl ⟨z3, by omega, rfl⟩ dX8_length_22

theorem dX8_whose_0 : decode cX8_whose 0 = .ok (.aload_n 0, 1) := by decide +kernel
theorem dX8_whose_1 : decode cX8_whose 1 = .ok (.getfield 19, 3) := by decide +kernel
theorem dX8_whose_4 : decode cX8_whose 4 = .ok (.invokevirtual 157, 3) := by decide +kernel
theorem dX8_whose_7 : decode cX8_whose 7 = .ok (.ifCond .eq 13, 3) := by decide +kernel
theorem dX8_whose_10 : decode cX8_whose 10 = .ok (.aload_n 0, 1) := by decide +kernel
theorem dX8_whose_11 : decode cX8_whose 11 = .ok (.getfield 31, 3) := by decide +kernel
theorem dX8_whose_14 : decode cX8_whose 14 = .ok (.invokevirtual 176, 3) := by decide +kernel
theorem dX8_whose_17 : decode cX8_whose 17 = .ok (.goto 5, 3) := by decide +kernel
theorem dX8_whose_20 : decode cX8_whose 20 = .ok (.bipush (-2), 2) := by decide +kernel
theorem dX8_whose_22 : decode cX8_whose 22 = .ok (.ireturn, 1) := by decide +kernel
set_option maxHeartbeats 4000000 in
set_option maxRecDepth 100000 in
theorem s_X8_whose_0 (l : Launch) (D : va_G) (K : Nat → ClassId) (ad : Nat → Nat) (mm : Option Nat) (N : Nat) (hNN : 132 ≤ N) (v ar : sI) (al : sL) (hI : XI v) : Met l yX8_whose (wM yX8_whose cX8_whose 1 (some .int)) (rmD 1) (va_Pc [.ref (ad 0)] (wPre D K ad (xG ad K mm) N v ar al)) (vp_Si (fun r => ∃ z : Int, (-2147483648 ≤ z ∧ z ≤ 2147483647) ∧ r = iI z)) 0 0 (fun _ => False) := by
  refine s_metP (by decide) (Nat.le_of_ble_eq_true rfl) ?_
  intro p e s m below meth c ls args Q hE hB hl kr
  have hE : CallFix p m c cX8_whose 1 s args tbG "TaleCourt" := hE
  obtain ⟨hP, hK, hN⟩ := hB
  have hl : lv_has ls 1 [(0, .ref (ad 0))] := hl
  refine lv_aload_n hE.1 hE.2.1 dX8_whose_0 rfl (lv_at hl 0 rfl) ?_
  refine x_get (x := .ref (ad 3)) hE hK hP 0 (Nat.lt_of_lt_of_le (by decide) hNN) (xG_8 rfl) rfl hin8 1 (by decide) mw_481 rfl dX8_whose_1 ?_
  refine x_vp (nn := 0) (As := []) (rest := []) hE (s_X1_stands_3 l D K ad mm N hNN v ar al hI  ) wPre_blind (wPre_now hK hN hP) (x_recv hK hP 3 (Nat.lt_of_lt_of_le (by decide) hNN) (xG_1 rfl) rfl) rfl mw_788 mw_789 mw_790 mw_116 mw_791 (by decide +kernel) ⟨by decide, by decide⟩ hl.1 rfl (Nat.le_of_ble_eq_true rfl) ⟨Nat.zero_le _, Nat.zero_le _⟩ dX8_whose_4 (fun r1 hr1 => ?_)
  obtain ⟨z1, hz1, rfl⟩ := hr1
  refine s_if_eq (a := z1) (tgt := 20) hE.1 hE.2.1 (by omega) dX8_whose_7 (by decide) (fun c2 => ?_) (fun c2 => ?_)
  · skip
    refine lv_bipush (v := iI (-2)) hE.1 hE.2.1 dX8_whose_20 (by decide) ?_
    exact kr _ _ _ rfl ⟨-2, by omega, rfl⟩ dX8_whose_22
  · skip
    refine lv_aload_n hE.1 hE.2.1 dX8_whose_10 rfl (lv_at hl 0 rfl) ?_
    refine x_get (x := .ref (ad 23)) hE hK hP 0 (Nat.lt_of_lt_of_le (by decide) hNN) (xG_8 rfl) rfl hin8 3 (by decide) mw_483 rfl dX8_whose_11 ?_
    refine x_vp (nn := 0) (As := []) (rest := []) hE (s_X7_teller_23 l D K ad mm N hNN v ar al hI  ) wPre_blind (wPre_now hK hN hP) (x_recv hK hP 23 (Nat.lt_of_lt_of_le (by decide) hNN) (xG_7 rfl) rfl) rfl mw_836 mw_759 mw_760 mw_117 mw_761 (by decide +kernel) ⟨by decide, by decide⟩ hl.1 rfl (Nat.le_of_ble_eq_true rfl) ⟨Nat.zero_le _, Nat.zero_le _⟩ dX8_whose_14 (fun r3 hr3 => ?_)
    obtain ⟨z3, hz3, rfl⟩ := hr3
    refine lv_goto (tgt := 22) hE.1 hE.2.1 dX8_whose_17 (by decide) ?_
    exact kr _ _ _ rfl ⟨z3, by omega, rfl⟩ dX8_whose_22

theorem dJ6_bitCount_0f7a4_0 : decode cJ6_bitCount_0f7a4 0 = .ok (.iload_n 0, 1) := by decide +kernel
theorem dJ6_bitCount_0f7a4_1 : decode cJ6_bitCount_0f7a4 1 = .ok (.iload_n 0, 1) := by decide +kernel
theorem dJ6_bitCount_0f7a4_2 : decode cJ6_bitCount_0f7a4 2 = .ok (.iconst 1, 1) := by decide +kernel
theorem dJ6_bitCount_0f7a4_3 : decode cJ6_bitCount_0f7a4 3 = .ok (.iushr, 1) := by decide +kernel
theorem dJ6_bitCount_0f7a4_4 : decode cJ6_bitCount_0f7a4 4 = .ok (.ldc_w 265, 3) := by decide +kernel
theorem dJ6_bitCount_0f7a4_7 : decode cJ6_bitCount_0f7a4 7 = .ok (.iand, 1) := by decide +kernel
theorem dJ6_bitCount_0f7a4_8 : decode cJ6_bitCount_0f7a4 8 = .ok (.isub, 1) := by decide +kernel
theorem dJ6_bitCount_0f7a4_9 : decode cJ6_bitCount_0f7a4 9 = .ok (.istore_n 0, 1) := by decide +kernel
theorem dJ6_bitCount_0f7a4_10 : decode cJ6_bitCount_0f7a4 10 = .ok (.iload_n 0, 1) := by decide +kernel
theorem dJ6_bitCount_0f7a4_11 : decode cJ6_bitCount_0f7a4 11 = .ok (.ldc_w 266, 3) := by decide +kernel
theorem dJ6_bitCount_0f7a4_14 : decode cJ6_bitCount_0f7a4 14 = .ok (.iand, 1) := by decide +kernel
theorem dJ6_bitCount_0f7a4_15 : decode cJ6_bitCount_0f7a4 15 = .ok (.iload_n 0, 1) := by decide +kernel
theorem dJ6_bitCount_0f7a4_16 : decode cJ6_bitCount_0f7a4 16 = .ok (.iconst 2, 1) := by decide +kernel
theorem dJ6_bitCount_0f7a4_17 : decode cJ6_bitCount_0f7a4 17 = .ok (.iushr, 1) := by decide +kernel
theorem dJ6_bitCount_0f7a4_18 : decode cJ6_bitCount_0f7a4 18 = .ok (.ldc_w 266, 3) := by decide +kernel
theorem dJ6_bitCount_0f7a4_21 : decode cJ6_bitCount_0f7a4 21 = .ok (.iand, 1) := by decide +kernel
theorem dJ6_bitCount_0f7a4_22 : decode cJ6_bitCount_0f7a4 22 = .ok (.iadd, 1) := by decide +kernel
theorem dJ6_bitCount_0f7a4_23 : decode cJ6_bitCount_0f7a4 23 = .ok (.istore_n 0, 1) := by decide +kernel
theorem dJ6_bitCount_0f7a4_24 : decode cJ6_bitCount_0f7a4 24 = .ok (.iload_n 0, 1) := by decide +kernel
theorem dJ6_bitCount_0f7a4_25 : decode cJ6_bitCount_0f7a4 25 = .ok (.iload_n 0, 1) := by decide +kernel
theorem dJ6_bitCount_0f7a4_26 : decode cJ6_bitCount_0f7a4 26 = .ok (.iconst 4, 1) := by decide +kernel
theorem dJ6_bitCount_0f7a4_27 : decode cJ6_bitCount_0f7a4 27 = .ok (.iushr, 1) := by decide +kernel
theorem dJ6_bitCount_0f7a4_28 : decode cJ6_bitCount_0f7a4 28 = .ok (.iadd, 1) := by decide +kernel
theorem dJ6_bitCount_0f7a4_29 : decode cJ6_bitCount_0f7a4 29 = .ok (.ldc_w 267, 3) := by decide +kernel
theorem dJ6_bitCount_0f7a4_32 : decode cJ6_bitCount_0f7a4 32 = .ok (.iand, 1) := by decide +kernel
theorem dJ6_bitCount_0f7a4_33 : decode cJ6_bitCount_0f7a4 33 = .ok (.istore_n 0, 1) := by decide +kernel
theorem dJ6_bitCount_0f7a4_34 : decode cJ6_bitCount_0f7a4 34 = .ok (.iload_n 0, 1) := by decide +kernel
theorem dJ6_bitCount_0f7a4_35 : decode cJ6_bitCount_0f7a4 35 = .ok (.iload_n 0, 1) := by decide +kernel
theorem dJ6_bitCount_0f7a4_36 : decode cJ6_bitCount_0f7a4 36 = .ok (.bipush 8, 2) := by decide +kernel
theorem dJ6_bitCount_0f7a4_38 : decode cJ6_bitCount_0f7a4 38 = .ok (.iushr, 1) := by decide +kernel
theorem dJ6_bitCount_0f7a4_39 : decode cJ6_bitCount_0f7a4 39 = .ok (.iadd, 1) := by decide +kernel
theorem dJ6_bitCount_0f7a4_40 : decode cJ6_bitCount_0f7a4 40 = .ok (.istore_n 0, 1) := by decide +kernel
theorem dJ6_bitCount_0f7a4_41 : decode cJ6_bitCount_0f7a4 41 = .ok (.iload_n 0, 1) := by decide +kernel
theorem dJ6_bitCount_0f7a4_42 : decode cJ6_bitCount_0f7a4 42 = .ok (.iload_n 0, 1) := by decide +kernel
theorem dJ6_bitCount_0f7a4_43 : decode cJ6_bitCount_0f7a4 43 = .ok (.bipush 16, 2) := by decide +kernel
theorem dJ6_bitCount_0f7a4_45 : decode cJ6_bitCount_0f7a4 45 = .ok (.iushr, 1) := by decide +kernel
theorem dJ6_bitCount_0f7a4_46 : decode cJ6_bitCount_0f7a4 46 = .ok (.iadd, 1) := by decide +kernel
theorem dJ6_bitCount_0f7a4_47 : decode cJ6_bitCount_0f7a4 47 = .ok (.istore_n 0, 1) := by decide +kernel
theorem dJ6_bitCount_0f7a4_48 : decode cJ6_bitCount_0f7a4 48 = .ok (.iload_n 0, 1) := by decide +kernel
theorem dJ6_bitCount_0f7a4_49 : decode cJ6_bitCount_0f7a4 49 = .ok (.bipush 63, 2) := by decide +kernel
theorem dJ6_bitCount_0f7a4_51 : decode cJ6_bitCount_0f7a4 51 = .ok (.iand, 1) := by decide +kernel
theorem dJ6_bitCount_0f7a4_52 : decode cJ6_bitCount_0f7a4 52 = .ok (.ireturn, 1) := by decide +kernel
set_option maxHeartbeats 4000000 in
set_option maxRecDepth 100000 in
theorem s_J6_bitCount_0f7a4 (l : Launch) (z_1 : Int) (hz_1 : -2147483648 ≤ z_1 ∧ z_1 ≤ 2147483647) : Met l yJ6_bitCount_0f7a4 (wM yJ6_bitCount_0f7a4 cJ6_bitCount_0f7a4 1 (some .int)) (rmD 0) (va_Pc [.int (iI (z_1))] (fun _ => True)) (vp_Si (fun r => ∃ z : Int, (-2147483648 ≤ z ∧ z ≤ 2147483647) ∧ r = iI z)) 0 0 (fun _ => False) := by
  refine s_metP (by decide) (Nat.le_of_ble_eq_true rfl) ?_
  intro p e s m below meth c ls args Q hE hB hl kr
  have hE : CallFix p m c cJ6_bitCount_0f7a4 1 s args tbG "java/lang/Integer" := hE
  have hl : lv_has ls 1 [(0, .int (iI (z_1)))] := hl
  refine lv_iload_n hE.1 hE.2.1 dJ6_bitCount_0f7a4_0 rfl (lv_at hl 0 rfl) ?_
  refine lv_iload_n hE.1 hE.2.1 dJ6_bitCount_0f7a4_1 rfl (lv_at hl 0 rfl) ?_
  refine lv_iconst (v := iI (1)) hE.1 hE.2.1 dJ6_bitCount_0f7a4_2 (by decide) ?_
  obtain ⟨z1, hz1, ez1⟩ := iI_of (((iI (z_1)).toUInt32 >>> ((iI (1)).toUInt32 &&& Int32.toUInt32 31)).toInt32)
  refine lv_iushr (v := iI (z1)) hE.1 hE.2.1 dJ6_bitCount_0f7a4_3 ez1 ?_
  refine lv_ldcw (v := 1431655765) hE.1 hE.2.1 hE.2.2.2.1 (hE.2.2.2.2 _ mw_852) dJ6_bitCount_0f7a4_4 ?_
  refine x_top (y := iI (1431655765)) (by decide) ?_
  refine lv_iand hE.1 hE.2.1 dJ6_bitCount_0f7a4_7 ?_
  obtain ⟨z2, hz2, ez2⟩ := iI_of (iI (z1) &&& iI (1431655765))
  refine x_top ez2 ?_
  refine lv_isub hE.1 hE.2.1 dJ6_bitCount_0f7a4_8 ?_
  obtain ⟨z3, hz3, ez3⟩ := iI_of (iI (z_1) - iI (z2))
  refine x_top ez3 ?_
  refine lv_istore_n (lv' := [(0, .int (iI (z3)))]) hE.1 hE.2.1 dJ6_bitCount_0f7a4_9 rfl hl (by decide) rfl (fun ls hl => ?_)
  refine lv_iload_n hE.1 hE.2.1 dJ6_bitCount_0f7a4_10 rfl (lv_at hl 0 rfl) ?_
  refine lv_ldcw (v := 858993459) hE.1 hE.2.1 hE.2.2.2.1 (hE.2.2.2.2 _ mw_853) dJ6_bitCount_0f7a4_11 ?_
  refine x_top (y := iI (858993459)) (by decide) ?_
  refine lv_iand hE.1 hE.2.1 dJ6_bitCount_0f7a4_14 ?_
  obtain ⟨z4, hz4, ez4⟩ := iI_of (iI (z3) &&& iI (858993459))
  refine x_top ez4 ?_
  refine lv_iload_n hE.1 hE.2.1 dJ6_bitCount_0f7a4_15 rfl (lv_at hl 0 rfl) ?_
  refine lv_iconst (v := iI (2)) hE.1 hE.2.1 dJ6_bitCount_0f7a4_16 (by decide) ?_
  obtain ⟨z5, hz5, ez5⟩ := iI_of (((iI (z3)).toUInt32 >>> ((iI (2)).toUInt32 &&& Int32.toUInt32 31)).toInt32)
  refine lv_iushr (v := iI (z5)) hE.1 hE.2.1 dJ6_bitCount_0f7a4_17 ez5 ?_
  refine lv_ldcw (v := 858993459) hE.1 hE.2.1 hE.2.2.2.1 (hE.2.2.2.2 _ mw_853) dJ6_bitCount_0f7a4_18 ?_
  refine x_top (y := iI (858993459)) (by decide) ?_
  refine lv_iand hE.1 hE.2.1 dJ6_bitCount_0f7a4_21 ?_
  obtain ⟨z6, hz6, ez6⟩ := iI_of (iI (z5) &&& iI (858993459))
  refine x_top ez6 ?_
  refine lv_iadd hE.1 hE.2.1 dJ6_bitCount_0f7a4_22 ?_
  obtain ⟨z7, hz7, ez7⟩ := iI_of (iI (z4) + iI (z6))
  refine x_top ez7 ?_
  refine lv_istore_n (lv' := [(0, .int (iI (z7)))]) hE.1 hE.2.1 dJ6_bitCount_0f7a4_23 rfl hl (by decide) rfl (fun ls hl => ?_)
  refine lv_iload_n hE.1 hE.2.1 dJ6_bitCount_0f7a4_24 rfl (lv_at hl 0 rfl) ?_
  refine lv_iload_n hE.1 hE.2.1 dJ6_bitCount_0f7a4_25 rfl (lv_at hl 0 rfl) ?_
  refine lv_iconst (v := iI (4)) hE.1 hE.2.1 dJ6_bitCount_0f7a4_26 (by decide) ?_
  obtain ⟨z8, hz8, ez8⟩ := iI_of (((iI (z7)).toUInt32 >>> ((iI (4)).toUInt32 &&& Int32.toUInt32 31)).toInt32)
  refine lv_iushr (v := iI (z8)) hE.1 hE.2.1 dJ6_bitCount_0f7a4_27 ez8 ?_
  refine lv_iadd hE.1 hE.2.1 dJ6_bitCount_0f7a4_28 ?_
  obtain ⟨z9, hz9, ez9⟩ := iI_of (iI (z7) + iI (z8))
  refine x_top ez9 ?_
  refine lv_ldcw (v := 252645135) hE.1 hE.2.1 hE.2.2.2.1 (hE.2.2.2.2 _ mw_854) dJ6_bitCount_0f7a4_29 ?_
  refine x_top (y := iI (252645135)) (by decide) ?_
  refine lv_iand hE.1 hE.2.1 dJ6_bitCount_0f7a4_32 ?_
  obtain ⟨z10, hz10, ez10⟩ := iI_of (iI (z9) &&& iI (252645135))
  refine x_top ez10 ?_
  refine lv_istore_n (lv' := [(0, .int (iI (z10)))]) hE.1 hE.2.1 dJ6_bitCount_0f7a4_33 rfl hl (by decide) rfl (fun ls hl => ?_)
  refine lv_iload_n hE.1 hE.2.1 dJ6_bitCount_0f7a4_34 rfl (lv_at hl 0 rfl) ?_
  refine lv_iload_n hE.1 hE.2.1 dJ6_bitCount_0f7a4_35 rfl (lv_at hl 0 rfl) ?_
  refine lv_bipush (v := iI (8)) hE.1 hE.2.1 dJ6_bitCount_0f7a4_36 (by decide) ?_
  obtain ⟨z11, hz11, ez11⟩ := iI_of (((iI (z10)).toUInt32 >>> ((iI (8)).toUInt32 &&& Int32.toUInt32 31)).toInt32)
  refine lv_iushr (v := iI (z11)) hE.1 hE.2.1 dJ6_bitCount_0f7a4_38 ez11 ?_
  refine lv_iadd hE.1 hE.2.1 dJ6_bitCount_0f7a4_39 ?_
  obtain ⟨z12, hz12, ez12⟩ := iI_of (iI (z10) + iI (z11))
  refine x_top ez12 ?_
  refine lv_istore_n (lv' := [(0, .int (iI (z12)))]) hE.1 hE.2.1 dJ6_bitCount_0f7a4_40 rfl hl (by decide) rfl (fun ls hl => ?_)
  refine lv_iload_n hE.1 hE.2.1 dJ6_bitCount_0f7a4_41 rfl (lv_at hl 0 rfl) ?_
  refine lv_iload_n hE.1 hE.2.1 dJ6_bitCount_0f7a4_42 rfl (lv_at hl 0 rfl) ?_
  refine lv_bipush (v := iI (16)) hE.1 hE.2.1 dJ6_bitCount_0f7a4_43 (by decide) ?_
  obtain ⟨z13, hz13, ez13⟩ := iI_of (((iI (z12)).toUInt32 >>> ((iI (16)).toUInt32 &&& Int32.toUInt32 31)).toInt32)
  refine lv_iushr (v := iI (z13)) hE.1 hE.2.1 dJ6_bitCount_0f7a4_45 ez13 ?_
  refine lv_iadd hE.1 hE.2.1 dJ6_bitCount_0f7a4_46 ?_
  obtain ⟨z14, hz14, ez14⟩ := iI_of (iI (z12) + iI (z13))
  refine x_top ez14 ?_
  refine lv_istore_n (lv' := [(0, .int (iI (z14)))]) hE.1 hE.2.1 dJ6_bitCount_0f7a4_47 rfl hl (by decide) rfl (fun ls hl => ?_)
  refine lv_iload_n hE.1 hE.2.1 dJ6_bitCount_0f7a4_48 rfl (lv_at hl 0 rfl) ?_
  refine lv_bipush (v := iI (63)) hE.1 hE.2.1 dJ6_bitCount_0f7a4_49 (by decide) ?_
  refine lv_iand hE.1 hE.2.1 dJ6_bitCount_0f7a4_51 ?_
  obtain ⟨z15, hz15, ez15⟩ := iI_and (iI (z14)) (iI (63)) 6 (by decide)
  refine x_top ez15 ?_
  exact kr _ _ _ rfl ⟨z15, by omega, rfl⟩ dJ6_bitCount_0f7a4_52

theorem dX7_playable_0 : decode cX7_playable 0 = .ok (.aload_n 0, 1) := by decide +kernel
theorem dX7_playable_1 : decode cX7_playable 1 = .ok (.getfield 44, 3) := by decide +kernel
theorem dX7_playable_4 : decode cX7_playable 4 = .ok (.aload_n 0, 1) := by decide +kernel
theorem dX7_playable_5 : decode cX7_playable 5 = .ok (.getfield 50, 3) := by decide +kernel
theorem dX7_playable_8 : decode cX7_playable 8 = .ok (.ior, 1) := by decide +kernel
theorem dX7_playable_9 : decode cX7_playable 9 = .ok (.aload_n 0, 1) := by decide +kernel
theorem dX7_playable_10 : decode cX7_playable 10 = .ok (.getfield 37, 3) := by decide +kernel
theorem dX7_playable_13 : decode cX7_playable 13 = .ok (.getfield 107, 3) := by decide +kernel
theorem dX7_playable_16 : decode cX7_playable 16 = .ok (.aload_n 0, 1) := by decide +kernel
theorem dX7_playable_17 : decode cX7_playable 17 = .ok (.invokevirtual 110, 3) := by decide +kernel
theorem dX7_playable_20 : decode cX7_playable 20 = .ok (.iaload, 1) := by decide +kernel
theorem dX7_playable_21 : decode cX7_playable 21 = .ok (.ior, 1) := by decide +kernel
theorem dX7_playable_22 : decode cX7_playable 22 = .ok (.istore_n 1, 1) := by decide +kernel
theorem dX7_playable_23 : decode cX7_playable 23 = .ok (.aload_n 0, 1) := by decide +kernel
theorem dX7_playable_24 : decode cX7_playable 24 = .ok (.getfield 41, 3) := by decide +kernel
theorem dX7_playable_27 : decode cX7_playable 27 = .ok (.iconst 1, 1) := by decide +kernel
theorem dX7_playable_28 : decode cX7_playable 28 = .ok (.iand, 1) := by decide +kernel
theorem dX7_playable_29 : decode cX7_playable 29 = .ok (.ifCond .ne 13, 3) := by decide +kernel
theorem dX7_playable_32 : decode cX7_playable 32 = .ok (.iload_n 1, 1) := by decide +kernel
theorem dX7_playable_33 : decode cX7_playable 33 = .ok (.aload_n 0, 1) := by decide +kernel
theorem dX7_playable_34 : decode cX7_playable 34 = .ok (.getfield 37, 3) := by decide +kernel
theorem dX7_playable_37 : decode cX7_playable 37 = .ok (.getfield 113, 3) := by decide +kernel
theorem dX7_playable_40 : decode cX7_playable 40 = .ok (.ior, 1) := by decide +kernel
theorem dX7_playable_41 : decode cX7_playable 41 = .ok (.istore_n 1, 1) := by decide +kernel
theorem dX7_playable_42 : decode cX7_playable 42 = .ok (.aload_n 0, 1) := by decide +kernel
theorem dX7_playable_43 : decode cX7_playable 43 = .ok (.invokevirtual 116, 3) := by decide +kernel
theorem dX7_playable_46 : decode cX7_playable 46 = .ok (.iload_n 1, 1) := by decide +kernel
theorem dX7_playable_47 : decode cX7_playable 47 = .ok (.iconst (-1), 1) := by decide +kernel
theorem dX7_playable_48 : decode cX7_playable 48 = .ok (.ixor, 1) := by decide +kernel
theorem dX7_playable_49 : decode cX7_playable 49 = .ok (.iand, 1) := by decide +kernel
theorem dX7_playable_50 : decode cX7_playable 50 = .ok (.ireturn, 1) := by decide +kernel
set_option maxHeartbeats 4000000 in
set_option maxRecDepth 100000 in
theorem s_X7_playable_23 (l : Launch) (D : va_G) (K : Nat → ClassId) (ad : Nat → Nat) (mm : Option Nat) (N : Nat) (hNN : 132 ≤ N) (v ar : sI) (al : sL) (hI : XI v) : Met l yX7_playable (wM yX7_playable cX7_playable 2 (some .int)) (rmD 1) (va_Pc [.ref (ad 23)] (wPre D K ad (xG ad K mm) N v ar al)) (vp_Si (fun r => ∃ z : Int, (-2147483648 ≤ z ∧ z ≤ 2147483647) ∧ r = iI z)) 0 0 (fun _ => False) := by
  refine s_metP (by decide) (Nat.le_of_ble_eq_true rfl) ?_
  intro p e s m below meth c ls args Q hE hB hl kr
  have hE : CallFix p m c cX7_playable 2 s args tbG "TaleCourt$Telling" := hE
  obtain ⟨hP, hK, hN⟩ := hB
  have hl : lv_has ls 2 [(0, .ref (ad 23))] := hl
  refine lv_aload_n hE.1 hE.2.1 dX7_playable_0 rfl (lv_at hl 0 rfl) ?_
  obtain ⟨z1, hz1, ez1⟩ := iI_of (v 23 3)
  refine x_get (x := .int (v 23 3)) hE hK hP 23 (Nat.lt_of_lt_of_le (by decide) hNN) (xG_7 rfl) rfl hin7 3 (by decide) mw_305 rfl dX7_playable_1 ?_
  refine x_top (y := iI (z1)) ez1 ?_
  refine lv_aload_n hE.1 hE.2.1 dX7_playable_4 rfl (lv_at hl 0 rfl) ?_
  obtain ⟨z2, hz2, ez2⟩ := iI_of (v 23 8)
  refine x_get (x := .int (v 23 8)) hE hK hP 23 (Nat.lt_of_lt_of_le (by decide) hNN) (xG_7 rfl) rfl hin7 8 (by decide) mw_317 rfl dX7_playable_5 ?_
  refine x_top (y := iI (z2)) ez2 ?_
  refine lv_ior hE.1 hE.2.1 dX7_playable_8 ?_
  obtain ⟨z3, hz3, ez3⟩ := iI_of (iI (z1) ||| iI (z2))
  refine x_top ez3 ?_
  refine lv_aload_n hE.1 hE.2.1 dX7_playable_9 rfl (lv_at hl 0 rfl) ?_
  refine x_get (x := .ref (ad 3)) hE hK hP 23 (Nat.lt_of_lt_of_le (by decide) hNN) (xG_7 rfl) rfl hin7 6 (by decide) mw_315 rfl dX7_playable_10 ?_
  refine x_get (x := .ref (ad 10)) hE hK hP 3 (Nat.lt_of_lt_of_le (by decide) hNN) (xG_1 rfl) rfl hin1 17 (by decide) mw_240 rfl dX7_playable_13 ?_
  refine lv_aload_n hE.1 hE.2.1 dX7_playable_16 rfl (lv_at hl 0 rfl) ?_
  refine x_vp (nn := 0) (As := []) (rest := [.ref (ad 10), .int (iI (z3))]) hE (s_X7_teller_23 l D K ad mm N hNN v ar al hI  ) wPre_blind (wPre_now hK hN hP) (x_recv hK hP 23 (Nat.lt_of_lt_of_le (by decide) hNN) (xG_7 rfl) rfl) rfl mw_758 mw_759 mw_760 mw_117 mw_761 (by decide +kernel) ⟨by decide, by decide⟩ hl.1 rfl (Nat.le_of_ble_eq_true rfl) ⟨Nat.zero_le _, Nat.zero_le _⟩ dX7_playable_17 (fun r4 hr4 => ?_)
  obtain ⟨z4, hz4, rfl⟩ := hr4
  refine x_iald (j := iI (z4)) hE hK hP 10 (Nat.lt_of_lt_of_le (by decide) hNN) (xG_10 rfl) (iI_in (n := 3) (by omega)) dX7_playable_20 ?_
  obtain ⟨z6, hz6, ez6⟩ := iI_of (ar 10 (iI (z4)).toNatClampNeg)
  refine x_top ez6 ?_
  refine lv_ior hE.1 hE.2.1 dX7_playable_21 ?_
  obtain ⟨z7, hz7, ez7⟩ := iI_of (iI (z3) ||| iI (z6))
  refine x_top ez7 ?_
  refine lv_istore_n (lv' := [(1, .int (iI (z7))), (0, .ref (ad 23))]) hE.1 hE.2.1 dX7_playable_22 rfl hl (by decide) rfl (fun ls hl => ?_)
  refine lv_aload_n hE.1 hE.2.1 dX7_playable_23 rfl (lv_at hl 1 rfl) ?_
  obtain ⟨z8, hz8, ez8⟩ := XI_get hI 23 2 0 18 (by decide)
  refine x_get (x := .int (v 23 2)) hE hK hP 23 (Nat.lt_of_lt_of_le (by decide) hNN) (xG_7 rfl) rfl hin7 2 (by decide) mw_301 rfl dX7_playable_24 ?_
  refine x_top (y := iI (z8)) ez8 ?_
  refine lv_iconst (v := iI (1)) hE.1 hE.2.1 dX7_playable_27 (by decide) ?_
  refine lv_iand hE.1 hE.2.1 dX7_playable_28 ?_
  obtain ⟨z9, hz9, ez9⟩ := iI_and (iI (z8)) (iI (1)) 1 (by decide)
  refine x_top ez9 ?_
  refine s_if_ne (a := z9) (tgt := 42) hE.1 hE.2.1 (by omega) dX7_playable_29 (by decide) (fun c10 => ?_) (fun c10 => ?_)
  · skip
    refine lv_aload_n hE.1 hE.2.1 dX7_playable_42 rfl (lv_at hl 1 rfl) ?_
    refine x_vp (nn := 0) (As := []) (rest := []) hE (s_X7_joined_23 l D K ad mm N hNN v ar al hI  ) wPre_blind (wPre_now hK hN hP) (x_recv hK hP 23 (Nat.lt_of_lt_of_le (by decide) hNN) (xG_7 rfl) rfl) rfl mw_746 mw_748 mw_16 mw_117 mw_749 (by decide +kernel) ⟨by decide, by decide⟩ hl.1 rfl (Nat.le_of_ble_eq_true rfl) ⟨Nat.zero_le _, Nat.zero_le _⟩ dX7_playable_43 (fun r11 hr11 => ?_)
    obtain ⟨z11, hz11, rfl⟩ := hr11
    refine lv_iload_n hE.1 hE.2.1 dX7_playable_46 rfl (lv_at hl 0 rfl) ?_
    refine lv_iconst (v := iI (-1)) hE.1 hE.2.1 dX7_playable_47 (by decide) ?_
    refine lv_ixor hE.1 hE.2.1 dX7_playable_48 ?_
    obtain ⟨z12, hz12, ez12⟩ := iI_of (iI (z7) ^^^ iI (-1))
    refine x_top ez12 ?_
    refine lv_iand hE.1 hE.2.1 dX7_playable_49 ?_
    obtain ⟨z13, hz13, ez13⟩ := iI_of (iI (z11) &&& iI (z12))
    refine x_top ez13 ?_
    exact kr _ _ _ rfl ⟨z13, by omega, rfl⟩ dX7_playable_50
  · skip
    refine lv_iload_n hE.1 hE.2.1 dX7_playable_32 rfl (lv_at hl 0 rfl) ?_
    refine lv_aload_n hE.1 hE.2.1 dX7_playable_33 rfl (lv_at hl 1 rfl) ?_
    refine x_get (x := .ref (ad 3)) hE hK hP 23 (Nat.lt_of_lt_of_le (by decide) hNN) (xG_7 rfl) rfl hin7 6 (by decide) mw_315 rfl dX7_playable_34 ?_
    obtain ⟨z14, hz14, ez14⟩ := iI_of (v 3 8)
    refine x_get (x := .int (v 3 8)) hE hK hP 3 (Nat.lt_of_lt_of_le (by decide) hNN) (xG_1 rfl) rfl hin1 8 (by decide) mw_210 rfl dX7_playable_37 ?_
    refine x_top (y := iI (z14)) ez14 ?_
    refine lv_ior hE.1 hE.2.1 dX7_playable_40 ?_
    obtain ⟨z15, hz15, ez15⟩ := iI_of (iI (z7) ||| iI (z14))
    refine x_top ez15 ?_
    refine lv_istore_n (lv' := [(1, .int (iI (z15))), (0, .ref (ad 23))]) hE.1 hE.2.1 dX7_playable_41 rfl hl (by decide) rfl (fun ls hl => ?_)
    refine lv_aload_n hE.1 hE.2.1 dX7_playable_42 rfl (lv_at hl 1 rfl) ?_
    refine x_vp (nn := 0) (As := []) (rest := []) hE (s_X7_joined_23 l D K ad mm N hNN v ar al hI  ) wPre_blind (wPre_now hK hN hP) (x_recv hK hP 23 (Nat.lt_of_lt_of_le (by decide) hNN) (xG_7 rfl) rfl) rfl mw_746 mw_748 mw_16 mw_117 mw_749 (by decide +kernel) ⟨by decide, by decide⟩ hl.1 rfl (Nat.le_of_ble_eq_true rfl) ⟨Nat.zero_le _, Nat.zero_le _⟩ dX7_playable_43 (fun r16 hr16 => ?_)
    obtain ⟨z16, hz16, rfl⟩ := hr16
    refine lv_iload_n hE.1 hE.2.1 dX7_playable_46 rfl (lv_at hl 0 rfl) ?_
    refine lv_iconst (v := iI (-1)) hE.1 hE.2.1 dX7_playable_47 (by decide) ?_
    refine lv_ixor hE.1 hE.2.1 dX7_playable_48 ?_
    obtain ⟨z17, hz17, ez17⟩ := iI_of (iI (z15) ^^^ iI (-1))
    refine x_top ez17 ?_
    refine lv_iand hE.1 hE.2.1 dX7_playable_49 ?_
    obtain ⟨z18, hz18, ez18⟩ := iI_of (iI (z16) &&& iI (z17))
    refine x_top ez18 ?_
    exact kr _ _ _ rfl ⟨z18, by omega, rfl⟩ dX7_playable_50

theorem dX7_tellable_0 : decode cX7_tellable 0 = .ok (.aload_n 0, 1) := by decide +kernel
theorem dX7_tellable_1 : decode cX7_tellable 1 = .ok (.invokevirtual 119, 3) := by decide +kernel
theorem dX7_tellable_4 : decode cX7_tellable 4 = .ok (.istore_n 1, 1) := by decide +kernel
theorem dX7_tellable_5 : decode cX7_tellable 5 = .ok (.iload_n 1, 1) := by decide +kernel
theorem dX7_tellable_6 : decode cX7_tellable 6 = .ok (.ifCond .ne 8, 3) := by decide +kernel
theorem dX7_tellable_9 : decode cX7_tellable 9 = .ok (.aload_n 0, 1) := by decide +kernel
theorem dX7_tellable_10 : decode cX7_tellable 10 = .ok (.invokevirtual 122, 3) := by decide +kernel
theorem dX7_tellable_13 : decode cX7_tellable 13 = .ok (.ireturn, 1) := by decide +kernel
theorem dX7_tellable_14 : decode cX7_tellable 14 = .ok (.iload_n 1, 1) := by decide +kernel
theorem dX7_tellable_15 : decode cX7_tellable 15 = .ok (.invokestatic 93, 3) := by decide +kernel
theorem dX7_tellable_18 : decode cX7_tellable 18 = .ok (.iconst 1, 1) := by decide +kernel
theorem dX7_tellable_19 : decode cX7_tellable 19 = .ok (.if_icmp .ne 12, 3) := by decide +kernel
theorem dX7_tellable_22 : decode cX7_tellable 22 = .ok (.aload_n 0, 1) := by decide +kernel
theorem dX7_tellable_23 : decode cX7_tellable 23 = .ok (.invokevirtual 122, 3) := by decide +kernel
theorem dX7_tellable_26 : decode cX7_tellable 26 = .ok (.iload_n 1, 1) := by decide +kernel
theorem dX7_tellable_27 : decode cX7_tellable 27 = .ok (.iand, 1) := by decide +kernel
theorem dX7_tellable_28 : decode cX7_tellable 28 = .ok (.goto 4, 3) := by decide +kernel
theorem dX7_tellable_31 : decode cX7_tellable 31 = .ok (.iconst 0, 1) := by decide +kernel
theorem dX7_tellable_32 : decode cX7_tellable 32 = .ok (.ireturn, 1) := by decide +kernel
set_option maxHeartbeats 4000000 in
set_option maxRecDepth 100000 in
theorem s_X7_tellable_23 (l : Launch) (D : va_G) (K : Nat → ClassId) (ad : Nat → Nat) (mm : Option Nat) (N : Nat) (hNN : 132 ≤ N) (v ar : sI) (al : sL) (hI : XI v) : Met l yX7_tellable (wM yX7_tellable cX7_tellable 2 (some .int)) (rmD 2) (va_Pc [.ref (ad 23)] (wPre D K ad (xG ad K mm) N v ar al)) (vp_Si (fun r => ∃ z : Int, (-2147483648 ≤ z ∧ z ≤ 2147483647) ∧ r = iI z)) 0 0 (fun _ => False) := by
  refine s_metP (by decide) (Nat.le_of_ble_eq_true rfl) ?_
  intro p e s m below meth c ls args Q hE hB hl kr
  have hE : CallFix p m c cX7_tellable 2 s args tbG "TaleCourt$Telling" := hE
  obtain ⟨hP, hK, hN⟩ := hB
  have hl : lv_has ls 2 [(0, .ref (ad 23))] := hl
  refine lv_aload_n hE.1 hE.2.1 dX7_tellable_0 rfl (lv_at hl 0 rfl) ?_
  refine x_vp (nn := 0) (As := []) (rest := []) hE (s_X7_pressing_23 l D K ad mm N hNN v ar al hI  ) wPre_blind (wPre_now hK hN hP) (x_recv hK hP 23 (Nat.lt_of_lt_of_le (by decide) hNN) (xG_7 rfl) rfl) rfl mw_750 mw_752 mw_17 mw_117 mw_753 (by decide +kernel) ⟨by decide, by decide⟩ hl.1 rfl (Nat.le_of_ble_eq_true rfl) ⟨Nat.zero_le _, Nat.zero_le _⟩ dX7_tellable_1 (fun r1 hr1 => ?_)
  obtain ⟨z1, hz1, rfl⟩ := hr1
  refine lv_istore_n (lv' := [(1, .int (iI (z1))), (0, .ref (ad 23))]) hE.1 hE.2.1 dX7_tellable_4 rfl hl (by decide) rfl (fun ls hl => ?_)
  refine lv_iload_n hE.1 hE.2.1 dX7_tellable_5 rfl (lv_at hl 0 rfl) ?_
  refine s_if_ne (a := z1) (tgt := 14) hE.1 hE.2.1 (by omega) dX7_tellable_6 (by decide) (fun c2 => ?_) (fun c2 => ?_)
  · skip
    refine lv_iload_n hE.1 hE.2.1 dX7_tellable_14 rfl (lv_at hl 0 rfl) ?_
    refine x_sp (nn := 1) (As := [.int (iI (z1))]) (rest := []) hE (s_J6_bitCount_0f7a4 l (z1) (by omega)) tt_blind (fun _ _ _ => trivial) rfl mw_849 mw_850 mw_131 mw_851 (by decide +kernel) ⟨by decide, by decide⟩ hl.1 rfl (Nat.le_of_ble_eq_true rfl) ⟨Nat.zero_le _, Nat.zero_le _⟩ dX7_tellable_15 (fun r3 hr3 => ?_)
    obtain ⟨z3, hz3, rfl⟩ := hr3
    refine lv_iconst (v := iI (1)) hE.1 hE.2.1 dX7_tellable_18 (by decide) ?_
    refine s_icmp_ne (a := z3) (b := 1) (tgt := 31) hE.1 hE.2.1 (by omega) (by omega) dX7_tellable_19 (by decide) (fun c4 => ?_) (fun c4 => ?_)
    · skip
      refine lv_iconst (v := iI (0)) hE.1 hE.2.1 dX7_tellable_31 (by decide) ?_
      exact kr _ _ _ rfl ⟨0, by omega, rfl⟩ dX7_tellable_32
    · skip
      refine lv_aload_n hE.1 hE.2.1 dX7_tellable_22 rfl (lv_at hl 1 rfl) ?_
      refine x_vp (nn := 0) (As := []) (rest := []) hE (s_X7_playable_23 l D K ad mm N hNN v ar al hI  ) wPre_blind (wPre_now hK hN hP) (x_recv hK hP 23 (Nat.lt_of_lt_of_le (by decide) hNN) (xG_7 rfl) rfl) rfl mw_845 mw_846 mw_847 mw_117 mw_848 (by decide +kernel) ⟨by decide, by decide⟩ hl.1 rfl (Nat.le_of_ble_eq_true rfl) ⟨Nat.zero_le _, Nat.zero_le _⟩ dX7_tellable_23 (fun r5 hr5 => ?_)
      obtain ⟨z5, hz5, rfl⟩ := hr5
      refine lv_iload_n hE.1 hE.2.1 dX7_tellable_26 rfl (lv_at hl 0 rfl) ?_
      refine lv_iand hE.1 hE.2.1 dX7_tellable_27 ?_
      obtain ⟨z6, hz6, ez6⟩ := iI_of (iI (z5) &&& iI (z1))
      refine x_top ez6 ?_
      refine lv_goto (tgt := 32) hE.1 hE.2.1 dX7_tellable_28 (by decide) ?_
      exact kr _ _ _ rfl ⟨z6, by omega, rfl⟩ dX7_tellable_32
  · skip
    refine lv_aload_n hE.1 hE.2.1 dX7_tellable_9 rfl (lv_at hl 1 rfl) ?_
    refine x_vp (nn := 0) (As := []) (rest := []) hE (s_X7_playable_23 l D K ad mm N hNN v ar al hI  ) wPre_blind (wPre_now hK hN hP) (x_recv hK hP 23 (Nat.lt_of_lt_of_le (by decide) hNN) (xG_7 rfl) rfl) rfl mw_845 mw_846 mw_847 mw_117 mw_848 (by decide +kernel) ⟨by decide, by decide⟩ hl.1 rfl (Nat.le_of_ble_eq_true rfl) ⟨Nat.zero_le _, Nat.zero_le _⟩ dX7_tellable_10 (fun r7 hr7 => ?_)
    obtain ⟨z7, hz7, rfl⟩ := hr7
    exact kr _ _ _ rfl ⟨z7, by omega, rfl⟩ dX7_tellable_13

theorem dX8_may_0 : decode cX8_may 0 = .ok (.aload_n 0, 1) := by decide +kernel
theorem dX8_may_1 : decode cX8_may 1 = .ok (.getfield 19, 3) := by decide +kernel
theorem dX8_may_4 : decode cX8_may 4 = .ok (.invokevirtual 157, 3) := by decide +kernel
theorem dX8_may_7 : decode cX8_may 7 = .ok (.ifCond .eq 13, 3) := by decide +kernel
theorem dX8_may_10 : decode cX8_may 10 = .ok (.aload_n 0, 1) := by decide +kernel
theorem dX8_may_11 : decode cX8_may 11 = .ok (.getfield 31, 3) := by decide +kernel
theorem dX8_may_14 : decode cX8_may 14 = .ok (.invokevirtual 180, 3) := by decide +kernel
theorem dX8_may_17 : decode cX8_may 17 = .ok (.goto 5, 3) := by decide +kernel
theorem dX8_may_20 : decode cX8_may 20 = .ok (.bipush (-2), 2) := by decide +kernel
theorem dX8_may_22 : decode cX8_may 22 = .ok (.ireturn, 1) := by decide +kernel
set_option maxHeartbeats 4000000 in
set_option maxRecDepth 100000 in
theorem s_X8_may_0 (l : Launch) (D : va_G) (K : Nat → ClassId) (ad : Nat → Nat) (mm : Option Nat) (N : Nat) (hNN : 132 ≤ N) (v ar : sI) (al : sL) (hI : XI v) : Met l yX8_may (wM yX8_may cX8_may 1 (some .int)) (rmD 3) (va_Pc [.ref (ad 0)] (wPre D K ad (xG ad K mm) N v ar al)) (vp_Si (fun r => ∃ z : Int, (-2147483648 ≤ z ∧ z ≤ 2147483647) ∧ r = iI z)) 0 0 (fun _ => False) := by
  refine s_metP (by decide) (Nat.le_of_ble_eq_true rfl) ?_
  intro p e s m below meth c ls args Q hE hB hl kr
  have hE : CallFix p m c cX8_may 1 s args tbG "TaleCourt" := hE
  obtain ⟨hP, hK, hN⟩ := hB
  have hl : lv_has ls 1 [(0, .ref (ad 0))] := hl
  refine lv_aload_n hE.1 hE.2.1 dX8_may_0 rfl (lv_at hl 0 rfl) ?_
  refine x_get (x := .ref (ad 3)) hE hK hP 0 (Nat.lt_of_lt_of_le (by decide) hNN) (xG_8 rfl) rfl hin8 1 (by decide) mw_481 rfl dX8_may_1 ?_
  refine x_vp (nn := 0) (As := []) (rest := []) hE (s_X1_stands_3 l D K ad mm N hNN v ar al hI  ) wPre_blind (wPre_now hK hN hP) (x_recv hK hP 3 (Nat.lt_of_lt_of_le (by decide) hNN) (xG_1 rfl) rfl) rfl mw_788 mw_789 mw_790 mw_116 mw_791 (by decide +kernel) ⟨by decide, by decide⟩ hl.1 rfl (Nat.le_of_ble_eq_true rfl) ⟨Nat.zero_le _, Nat.zero_le _⟩ dX8_may_4 (fun r1 hr1 => ?_)
  obtain ⟨z1, hz1, rfl⟩ := hr1
  refine s_if_eq (a := z1) (tgt := 20) hE.1 hE.2.1 (by omega) dX8_may_7 (by decide) (fun c2 => ?_) (fun c2 => ?_)
  · skip
    refine lv_bipush (v := iI (-2)) hE.1 hE.2.1 dX8_may_20 (by decide) ?_
    exact kr _ _ _ rfl ⟨-2, by omega, rfl⟩ dX8_may_22
  · skip
    refine lv_aload_n hE.1 hE.2.1 dX8_may_10 rfl (lv_at hl 0 rfl) ?_
    refine x_get (x := .ref (ad 23)) hE hK hP 0 (Nat.lt_of_lt_of_le (by decide) hNN) (xG_8 rfl) rfl hin8 3 (by decide) mw_483 rfl dX8_may_11 ?_
    refine x_vp (nn := 0) (As := []) (rest := []) hE (s_X7_tellable_23 l D K ad mm N hNN v ar al hI  ) wPre_blind (wPre_now hK hN hP) (x_recv hK hP 23 (Nat.lt_of_lt_of_le (by decide) hNN) (xG_7 rfl) rfl) rfl mw_841 mw_842 mw_843 mw_117 mw_844 (by decide +kernel) ⟨by decide, by decide⟩ hl.1 rfl (Nat.le_of_ble_eq_true rfl) ⟨Nat.zero_le _, Nat.zero_le _⟩ dX8_may_14 (fun r3 hr3 => ?_)
    obtain ⟨z3, hz3, rfl⟩ := hr3
    refine lv_goto (tgt := 22) hE.1 hE.2.1 dX8_may_17 (by decide) ?_
    exact kr _ _ _ rfl ⟨z3, by omega, rfl⟩ dX8_may_22

theorem dX8_why_0 : decode cX8_why 0 = .ok (.aload_n 0, 1) := by decide +kernel
theorem dX8_why_1 : decode cX8_why 1 = .ok (.getfield 19, 3) := by decide +kernel
theorem dX8_why_4 : decode cX8_why 4 = .ok (.iload_n 1, 1) := by decide +kernel
theorem dX8_why_5 : decode cX8_why 5 = .ok (.invokevirtual 102, 3) := by decide +kernel
theorem dX8_why_8 : decode cX8_why 8 = .ok (.ifCond .eq 14, 3) := by decide +kernel
theorem dX8_why_11 : decode cX8_why 11 = .ok (.aload_n 0, 1) := by decide +kernel
theorem dX8_why_12 : decode cX8_why 12 = .ok (.getfield 31, 3) := by decide +kernel
theorem dX8_why_15 : decode cX8_why 15 = .ok (.iload_n 1, 1) := by decide +kernel
theorem dX8_why_16 : decode cX8_why 16 = .ok (.invokevirtual 148, 3) := by decide +kernel
theorem dX8_why_19 : decode cX8_why 19 = .ok (.goto 5, 3) := by decide +kernel
theorem dX8_why_22 : decode cX8_why 22 = .ok (.bipush (-2), 2) := by decide +kernel
theorem dX8_why_24 : decode cX8_why 24 = .ok (.ireturn, 1) := by decide +kernel
set_option maxHeartbeats 4000000 in
set_option maxRecDepth 100000 in
theorem s_X8_why_0 (l : Launch) (D : va_G) (K : Nat → ClassId) (ad : Nat → Nat) (mm : Option Nat) (N : Nat) (hNN : 132 ≤ N) (v ar : sI) (al : sL) (hI : XI v) (z_1 : Int) (hz_1 : -2147483648 ≤ z_1 ∧ z_1 ≤ 2147483647) : Met l yX8_why (wM yX8_why cX8_why 2 (some .int)) (rmD 3) (va_Pc [.ref (ad 0), .int (iI (z_1))] (wPre D K ad (xG ad K mm) N v ar al)) (vp_Si (fun r => ∃ z : Int, (-2147483648 ≤ z ∧ z ≤ 2147483647) ∧ r = iI z)) 0 0 (fun _ => False) := by
  refine s_metP (by decide) (Nat.le_of_ble_eq_true rfl) ?_
  intro p e s m below meth c ls args Q hE hB hl kr
  have hE : CallFix p m c cX8_why 2 s args tbG "TaleCourt" := hE
  obtain ⟨hP, hK, hN⟩ := hB
  have hl : lv_has ls 2 [(0, .ref (ad 0)), (1, .int (iI (z_1)))] := hl
  refine lv_aload_n hE.1 hE.2.1 dX8_why_0 rfl (lv_at hl 0 rfl) ?_
  refine x_get (x := .ref (ad 3)) hE hK hP 0 (Nat.lt_of_lt_of_le (by decide) hNN) (xG_8 rfl) rfl hin8 1 (by decide) mw_481 rfl dX8_why_1 ?_
  refine lv_iload_n hE.1 hE.2.1 dX8_why_4 rfl (lv_at hl 1 rfl) ?_
  refine x_vp (nn := 1) (As := [.int (iI (z_1))]) (rest := []) hE (s_X1_hasMotif_3 l D K ad mm N hNN v ar al hI  (z_1) (by omega)) wPre_blind (wPre_now hK hN hP) (x_recv hK hP 3 (Nat.lt_of_lt_of_le (by decide) hNN) (xG_1 rfl) rfl) rfl mw_694 mw_695 mw_696 mw_116 mw_697 (by decide +kernel) ⟨by decide, by decide⟩ hl.1 rfl (Nat.le_of_ble_eq_true rfl) ⟨Nat.zero_le _, Nat.zero_le _⟩ dX8_why_5 (fun r1 hr1 => ?_)
  obtain ⟨z1, hz1, rfl⟩ := hr1
  refine s_if_eq (a := z1) (tgt := 22) hE.1 hE.2.1 (by omega) dX8_why_8 (by decide) (fun c2 => ?_) (fun c2 => ?_)
  · skip
    refine lv_bipush (v := iI (-2)) hE.1 hE.2.1 dX8_why_22 (by decide) ?_
    exact kr _ _ _ rfl ⟨-2, by omega, rfl⟩ dX8_why_24
  · skip
    refine lv_aload_n hE.1 hE.2.1 dX8_why_11 rfl (lv_at hl 0 rfl) ?_
    refine x_get (x := .ref (ad 23)) hE hK hP 0 (Nat.lt_of_lt_of_le (by decide) hNN) (xG_8 rfl) rfl hin8 3 (by decide) mw_483 rfl dX8_why_12 ?_
    refine lv_iload_n hE.1 hE.2.1 dX8_why_15 rfl (lv_at hl 1 rfl) ?_
    refine x_vp (nn := 1) (As := [.int (iI (z_1))]) (rest := []) hE (s_X7_reason_23 l D K ad mm N hNN v ar al hI  (z_1) (by omega)) wPre_blind (wPre_now hK hN hP) (x_recv hK hP 23 (Nat.lt_of_lt_of_le (by decide) hNN) (xG_7 rfl) rfl) rfl mw_742 mw_743 mw_744 mw_117 mw_745 (by decide +kernel) ⟨by decide, by decide⟩ hl.1 rfl (Nat.le_of_ble_eq_true rfl) ⟨Nat.zero_le _, Nat.zero_le _⟩ dX8_why_16 (fun r3 hr3 => ?_)
    obtain ⟨z3, hz3, rfl⟩ := hr3
    refine lv_goto (tgt := 24) hE.1 hE.2.1 dX8_why_19 (by decide) ?_
    exact kr _ _ _ rfl ⟨z3, by omega, rfl⟩ dX8_why_24

theorem dX8_owed_0 : decode cX8_owed 0 = .ok (.aload_n 0, 1) := by decide +kernel
theorem dX8_owed_1 : decode cX8_owed 1 = .ok (.getfield 19, 3) := by decide +kernel
theorem dX8_owed_4 : decode cX8_owed 4 = .ok (.invokevirtual 157, 3) := by decide +kernel
theorem dX8_owed_7 : decode cX8_owed 7 = .ok (.ifCond .eq 13, 3) := by decide +kernel
theorem dX8_owed_10 : decode cX8_owed 10 = .ok (.aload_n 0, 1) := by decide +kernel
theorem dX8_owed_11 : decode cX8_owed 11 = .ok (.getfield 31, 3) := by decide +kernel
theorem dX8_owed_14 : decode cX8_owed 14 = .ok (.invokevirtual 183, 3) := by decide +kernel
theorem dX8_owed_17 : decode cX8_owed 17 = .ok (.goto 5, 3) := by decide +kernel
theorem dX8_owed_20 : decode cX8_owed 20 = .ok (.bipush (-2), 2) := by decide +kernel
theorem dX8_owed_22 : decode cX8_owed 22 = .ok (.ireturn, 1) := by decide +kernel
set_option maxHeartbeats 4000000 in
set_option maxRecDepth 100000 in
theorem s_X8_owed_0 (l : Launch) (D : va_G) (K : Nat → ClassId) (ad : Nat → Nat) (mm : Option Nat) (N : Nat) (hNN : 132 ≤ N) (v ar : sI) (al : sL) (hI : XI v) : Met l yX8_owed (wM yX8_owed cX8_owed 1 (some .int)) (rmD 1) (va_Pc [.ref (ad 0)] (wPre D K ad (xG ad K mm) N v ar al)) (vp_Si (fun r => ∃ z : Int, (-2147483648 ≤ z ∧ z ≤ 2147483647) ∧ r = iI z)) 0 0 (fun _ => False) := by
  refine s_metP (by decide) (Nat.le_of_ble_eq_true rfl) ?_
  intro p e s m below meth c ls args Q hE hB hl kr
  have hE : CallFix p m c cX8_owed 1 s args tbG "TaleCourt" := hE
  obtain ⟨hP, hK, hN⟩ := hB
  have hl : lv_has ls 1 [(0, .ref (ad 0))] := hl
  refine lv_aload_n hE.1 hE.2.1 dX8_owed_0 rfl (lv_at hl 0 rfl) ?_
  refine x_get (x := .ref (ad 3)) hE hK hP 0 (Nat.lt_of_lt_of_le (by decide) hNN) (xG_8 rfl) rfl hin8 1 (by decide) mw_481 rfl dX8_owed_1 ?_
  refine x_vp (nn := 0) (As := []) (rest := []) hE (s_X1_stands_3 l D K ad mm N hNN v ar al hI  ) wPre_blind (wPre_now hK hN hP) (x_recv hK hP 3 (Nat.lt_of_lt_of_le (by decide) hNN) (xG_1 rfl) rfl) rfl mw_788 mw_789 mw_790 mw_116 mw_791 (by decide +kernel) ⟨by decide, by decide⟩ hl.1 rfl (Nat.le_of_ble_eq_true rfl) ⟨Nat.zero_le _, Nat.zero_le _⟩ dX8_owed_4 (fun r1 hr1 => ?_)
  obtain ⟨z1, hz1, rfl⟩ := hr1
  refine s_if_eq (a := z1) (tgt := 20) hE.1 hE.2.1 (by omega) dX8_owed_7 (by decide) (fun c2 => ?_) (fun c2 => ?_)
  · skip
    refine lv_bipush (v := iI (-2)) hE.1 hE.2.1 dX8_owed_20 (by decide) ?_
    exact kr _ _ _ rfl ⟨-2, by omega, rfl⟩ dX8_owed_22
  · skip
    refine lv_aload_n hE.1 hE.2.1 dX8_owed_10 rfl (lv_at hl 0 rfl) ?_
    refine x_get (x := .ref (ad 23)) hE hK hP 0 (Nat.lt_of_lt_of_le (by decide) hNN) (xG_8 rfl) rfl hin8 3 (by decide) mw_483 rfl dX8_owed_11 ?_
    refine x_vp (nn := 0) (As := []) (rest := []) hE (s_X7_unpaid_23 l D K ad mm N hNN v ar al hI  ) wPre_blind (wPre_now hK hN hP) (x_recv hK hP 23 (Nat.lt_of_lt_of_le (by decide) hNN) (xG_7 rfl) rfl) rfl mw_863 mw_755 mw_756 mw_117 mw_757 (by decide +kernel) ⟨by decide, by decide⟩ hl.1 rfl (Nat.le_of_ble_eq_true rfl) ⟨Nat.zero_le _, Nat.zero_le _⟩ dX8_owed_14 (fun r3 hr3 => ?_)
    obtain ⟨z3, hz3, rfl⟩ := hr3
    refine lv_goto (tgt := 22) hE.1 hE.2.1 dX8_owed_17 (by decide) ?_
    exact kr _ _ _ rfl ⟨z3, by omega, rfl⟩ dX8_owed_22

theorem dX8_due_0 : decode cX8_due 0 = .ok (.aload_n 0, 1) := by decide +kernel
theorem dX8_due_1 : decode cX8_due 1 = .ok (.getfield 19, 3) := by decide +kernel
theorem dX8_due_4 : decode cX8_due 4 = .ok (.iload_n 1, 1) := by decide +kernel
theorem dX8_due_5 : decode cX8_due 5 = .ok (.invokevirtual 102, 3) := by decide +kernel
theorem dX8_due_8 : decode cX8_due 8 = .ok (.ifCond .ne 6, 3) := by decide +kernel
theorem dX8_due_11 : decode cX8_due 11 = .ok (.bipush (-2), 2) := by decide +kernel
theorem dX8_due_13 : decode cX8_due 13 = .ok (.ireturn, 1) := by decide +kernel
theorem dX8_due_14 : decode cX8_due 14 = .ok (.aload_n 0, 1) := by decide +kernel
theorem dX8_due_15 : decode cX8_due 15 = .ok (.getfield 31, 3) := by decide +kernel
theorem dX8_due_18 : decode cX8_due 18 = .ok (.invokevirtual 183, 3) := by decide +kernel
theorem dX8_due_21 : decode cX8_due 21 = .ok (.iload_n 1, 1) := by decide +kernel
theorem dX8_due_22 : decode cX8_due 22 = .ok (.ishr, 1) := by decide +kernel
theorem dX8_due_23 : decode cX8_due 23 = .ok (.iconst 1, 1) := by decide +kernel
theorem dX8_due_24 : decode cX8_due 24 = .ok (.iand, 1) := by decide +kernel
theorem dX8_due_25 : decode cX8_due 25 = .ok (.ifCond .eq 15, 3) := by decide +kernel
theorem dX8_due_28 : decode cX8_due 28 = .ok (.aload_n 0, 1) := by decide +kernel
theorem dX8_due_29 : decode cX8_due 29 = .ok (.getfield 31, 3) := by decide +kernel
theorem dX8_due_32 : decode cX8_due 32 = .ok (.getfield 186, 3) := by decide +kernel
theorem dX8_due_35 : decode cX8_due 35 = .ok (.iload_n 1, 1) := by decide +kernel
theorem dX8_due_36 : decode cX8_due 36 = .ok (.iaload, 1) := by decide +kernel
theorem dX8_due_37 : decode cX8_due 37 = .ok (.goto 4, 3) := by decide +kernel
theorem dX8_due_40 : decode cX8_due 40 = .ok (.iconst (-1), 1) := by decide +kernel
theorem dX8_due_41 : decode cX8_due 41 = .ok (.ireturn, 1) := by decide +kernel
set_option maxHeartbeats 4000000 in
set_option maxRecDepth 100000 in
theorem s_X8_due_0 (l : Launch) (D : va_G) (K : Nat → ClassId) (ad : Nat → Nat) (mm : Option Nat) (N : Nat) (hNN : 132 ≤ N) (v ar : sI) (al : sL) (hI : XI v) (z_1 : Int) (hz_1 : -2147483648 ≤ z_1 ∧ z_1 ≤ 2147483647) : Met l yX8_due (wM yX8_due cX8_due 2 (some .int)) (rmD 1) (va_Pc [.ref (ad 0), .int (iI (z_1))] (wPre D K ad (xG ad K mm) N v ar al)) (vp_Si (fun r => ∃ z : Int, (-2147483648 ≤ z ∧ z ≤ 2147483647) ∧ r = iI z)) 0 0 (fun _ => False) := by
  refine s_metP (by decide) (Nat.le_of_ble_eq_true rfl) ?_
  intro p e s m below meth c ls args Q hE hB hl kr
  have hE : CallFix p m c cX8_due 2 s args tbG "TaleCourt" := hE
  obtain ⟨hP, hK, hN⟩ := hB
  have hl : lv_has ls 2 [(0, .ref (ad 0)), (1, .int (iI (z_1)))] := hl
  refine lv_aload_n hE.1 hE.2.1 dX8_due_0 rfl (lv_at hl 0 rfl) ?_
  refine x_get (x := .ref (ad 3)) hE hK hP 0 (Nat.lt_of_lt_of_le (by decide) hNN) (xG_8 rfl) rfl hin8 1 (by decide) mw_481 rfl dX8_due_1 ?_
  refine lv_iload_n hE.1 hE.2.1 dX8_due_4 rfl (lv_at hl 1 rfl) ?_
  refine x_vp (nn := 1) (As := [.int (iI (z_1))]) (rest := []) hE (s_X1_hasMotif_3 l D K ad mm N hNN v ar al hI  (z_1) (by omega)) wPre_blind (wPre_now hK hN hP) (x_recv hK hP 3 (Nat.lt_of_lt_of_le (by decide) hNN) (xG_1 rfl) rfl) rfl mw_694 mw_695 mw_696 mw_116 mw_697 (by decide +kernel) ⟨by decide, by decide⟩ hl.1 rfl (Nat.le_of_ble_eq_true rfl) ⟨Nat.zero_le _, Nat.zero_le _⟩ dX8_due_5 (fun r1 hr1 => ?_)
  obtain ⟨z1, hz1, rfl⟩ := hr1
  refine s_if_ne (a := z1) (tgt := 14) hE.1 hE.2.1 (by omega) dX8_due_8 (by decide) (fun c2 => ?_) (fun c2 => ?_)
  · skip
    refine lv_aload_n hE.1 hE.2.1 dX8_due_14 rfl (lv_at hl 0 rfl) ?_
    refine x_get (x := .ref (ad 23)) hE hK hP 0 (Nat.lt_of_lt_of_le (by decide) hNN) (xG_8 rfl) rfl hin8 3 (by decide) mw_483 rfl dX8_due_15 ?_
    refine x_vp (nn := 0) (As := []) (rest := []) hE (s_X7_unpaid_23 l D K ad mm N hNN v ar al hI  ) wPre_blind (wPre_now hK hN hP) (x_recv hK hP 23 (Nat.lt_of_lt_of_le (by decide) hNN) (xG_7 rfl) rfl) rfl mw_863 mw_755 mw_756 mw_117 mw_757 (by decide +kernel) ⟨by decide, by decide⟩ hl.1 rfl (Nat.le_of_ble_eq_true rfl) ⟨Nat.zero_le _, Nat.zero_le _⟩ dX8_due_18 (fun r3 hr3 => ?_)
    obtain ⟨z3, hz3, rfl⟩ := hr3
    refine lv_iload_n hE.1 hE.2.1 dX8_due_21 rfl (lv_at hl 1 rfl) ?_
    refine lv_ishr hE.1 hE.2.1 dX8_due_22 ?_
    obtain ⟨z4, hz4, ez4⟩ := iI_of (iI (z3) >>> (iI (z_1) &&& 31))
    refine x_top ez4 ?_
    refine lv_iconst (v := iI (1)) hE.1 hE.2.1 dX8_due_23 (by decide) ?_
    refine lv_iand hE.1 hE.2.1 dX8_due_24 ?_
    obtain ⟨z5, hz5, ez5⟩ := iI_and (iI (z4)) (iI (1)) 1 (by decide)
    refine x_top ez5 ?_
    refine s_if_eq (a := z5) (tgt := 40) hE.1 hE.2.1 (by omega) dX8_due_25 (by decide) (fun c6 => ?_) (fun c6 => ?_)
    · skip
      refine lv_iconst (v := iI (-1)) hE.1 hE.2.1 dX8_due_40 (by decide) ?_
      exact kr _ _ _ rfl ⟨-1, by omega, rfl⟩ dX8_due_41
    · skip
      refine lv_aload_n hE.1 hE.2.1 dX8_due_28 rfl (lv_at hl 0 rfl) ?_
      refine x_get (x := .ref (ad 23)) hE hK hP 0 (Nat.lt_of_lt_of_le (by decide) hNN) (xG_8 rfl) rfl hin8 3 (by decide) mw_483 rfl dX8_due_29 ?_
      refine x_get (x := .ref (ad 25)) hE hK hP 23 (Nat.lt_of_lt_of_le (by decide) hNN) (xG_7 rfl) rfl hin7 1 (by decide) mw_300 rfl dX8_due_32 ?_
      refine lv_iload_n hE.1 hE.2.1 dX8_due_35 rfl (lv_at hl 1 rfl) ?_
      refine x_iald (j := iI (z_1)) hE hK hP 25 (Nat.lt_of_lt_of_le (by decide) hNN) (xG_10 rfl) (iI_in (n := 9) (by omega)) dX8_due_36 ?_
      obtain ⟨z8, hz8, ez8⟩ := iI_of (ar 25 (iI (z_1)).toNatClampNeg)
      refine x_top ez8 ?_
      refine lv_goto (tgt := 41) hE.1 hE.2.1 dX8_due_37 (by decide) ?_
      exact kr _ _ _ rfl ⟨z8, by omega, rfl⟩ dX8_due_41
  · skip
    refine lv_bipush (v := iI (-2)) hE.1 hE.2.1 dX8_due_11 (by decide) ?_
    exact kr _ _ _ rfl ⟨-2, by omega, rfl⟩ dX8_due_13

theorem dX7_isWhole_0 : decode cX7_isWhole 0 = .ok (.aload_n 0, 1) := by decide +kernel
theorem dX7_isWhole_1 : decode cX7_isWhole 1 = .ok (.getfield 18, 3) := by decide +kernel
theorem dX7_isWhole_4 : decode cX7_isWhole 4 = .ok (.ifCond .lt 31, 3) := by decide +kernel
theorem dX7_isWhole_7 : decode cX7_isWhole 7 = .ok (.aload_n 0, 1) := by decide +kernel
theorem dX7_isWhole_8 : decode cX7_isWhole 8 = .ok (.invokevirtual 86, 3) := by decide +kernel
theorem dX7_isWhole_11 : decode cX7_isWhole 11 = .ok (.ifCond .ne 24, 3) := by decide +kernel
theorem dX7_isWhole_14 : decode cX7_isWhole 14 = .ok (.aload_n 0, 1) := by decide +kernel
theorem dX7_isWhole_15 : decode cX7_isWhole 15 = .ok (.getfield 37, 3) := by decide +kernel
theorem dX7_isWhole_18 : decode cX7_isWhole 18 = .ok (.getfield 90, 3) := by decide +kernel
theorem dX7_isWhole_21 : decode cX7_isWhole 21 = .ok (.aload_n 0, 1) := by decide +kernel
theorem dX7_isWhole_22 : decode cX7_isWhole 22 = .ok (.getfield 18, 3) := by decide +kernel
theorem dX7_isWhole_25 : decode cX7_isWhole 25 = .ok (.ishr, 1) := by decide +kernel
theorem dX7_isWhole_26 : decode cX7_isWhole 26 = .ok (.iconst 1, 1) := by decide +kernel
theorem dX7_isWhole_27 : decode cX7_isWhole 27 = .ok (.iand, 1) := by decide +kernel
theorem dX7_isWhole_28 : decode cX7_isWhole 28 = .ok (.ifCond .ne 7, 3) := by decide +kernel
theorem dX7_isWhole_31 : decode cX7_isWhole 31 = .ok (.iconst 1, 1) := by decide +kernel
theorem dX7_isWhole_32 : decode cX7_isWhole 32 = .ok (.goto 4, 3) := by decide +kernel
theorem dX7_isWhole_35 : decode cX7_isWhole 35 = .ok (.iconst 0, 1) := by decide +kernel
theorem dX7_isWhole_36 : decode cX7_isWhole 36 = .ok (.ireturn, 1) := by decide +kernel
set_option maxHeartbeats 4000000 in
set_option maxRecDepth 100000 in
theorem s_X7_isWhole_23 (l : Launch) (D : va_G) (K : Nat → ClassId) (ad : Nat → Nat) (mm : Option Nat) (N : Nat) (hNN : 132 ≤ N) (v ar : sI) (al : sL) (hI : XI v) : Met l yX7_isWhole (wM yX7_isWhole cX7_isWhole 1 (some .boolean)) (rmD 1) (va_Pc [.ref (ad 23)] (wPre D K ad (xG ad K mm) N v ar al)) (vp_Si (fun r => ∃ z : Int, (0 ≤ z ∧ z ≤ 1) ∧ r = iI z)) 0 0 (fun _ => False) := by
  refine s_metP (by decide) (Nat.le_of_ble_eq_true rfl) ?_
  intro p e s m below meth c ls args Q hE hB hl kr
  have hE : CallFix p m c cX7_isWhole 1 s args tbG "TaleCourt$Telling" := hE
  obtain ⟨hP, hK, hN⟩ := hB
  have hl : lv_has ls 1 [(0, .ref (ad 23))] := hl
  refine lv_aload_n hE.1 hE.2.1 dX7_isWhole_0 rfl (lv_at hl 0 rfl) ?_
  obtain ⟨z1, hz1, ez1⟩ := iI_of (v 23 4)
  refine x_get (x := .int (v 23 4)) hE hK hP 23 (Nat.lt_of_lt_of_le (by decide) hNN) (xG_7 rfl) rfl hin7 4 (by decide) mw_309 rfl dX7_isWhole_1 ?_
  refine x_top (y := iI (z1)) ez1 ?_
  refine s_if_lt (a := z1) (tgt := 35) hE.1 hE.2.1 (by omega) dX7_isWhole_4 (by decide) (fun c2 => ?_) (fun c2 => ?_)
  · skip
    refine lv_iconst (v := iI (0)) hE.1 hE.2.1 dX7_isWhole_35 (by decide) ?_
    exact kr _ _ _ (nar01 (by omega)) ⟨0, by omega, rfl⟩ dX7_isWhole_36
  · skip
    refine lv_aload_n hE.1 hE.2.1 dX7_isWhole_7 rfl (lv_at hl 0 rfl) ?_
    refine x_vp (nn := 0) (As := []) (rest := []) hE (s_X7_unpaid_23 l D K ad mm N hNN v ar al hI  ) wPre_blind (wPre_now hK hN hP) (x_recv hK hP 23 (Nat.lt_of_lt_of_le (by decide) hNN) (xG_7 rfl) rfl) rfl mw_754 mw_755 mw_756 mw_117 mw_757 (by decide +kernel) ⟨by decide, by decide⟩ hl.1 rfl (Nat.le_of_ble_eq_true rfl) ⟨Nat.zero_le _, Nat.zero_le _⟩ dX7_isWhole_8 (fun r3 hr3 => ?_)
    obtain ⟨z3, hz3, rfl⟩ := hr3
    refine s_if_ne (a := z3) (tgt := 35) hE.1 hE.2.1 (by omega) dX7_isWhole_11 (by decide) (fun c4 => ?_) (fun c4 => ?_)
    · skip
      refine lv_iconst (v := iI (0)) hE.1 hE.2.1 dX7_isWhole_35 (by decide) ?_
      exact kr _ _ _ (nar01 (by omega)) ⟨0, by omega, rfl⟩ dX7_isWhole_36
    · skip
      refine lv_aload_n hE.1 hE.2.1 dX7_isWhole_14 rfl (lv_at hl 0 rfl) ?_
      refine x_get (x := .ref (ad 3)) hE hK hP 23 (Nat.lt_of_lt_of_le (by decide) hNN) (xG_7 rfl) rfl hin7 6 (by decide) mw_315 rfl dX7_isWhole_15 ?_
      obtain ⟨z5, hz5, ez5⟩ := iI_of (v 3 10)
      refine x_get (x := .int (v 3 10)) hE hK hP 3 (Nat.lt_of_lt_of_le (by decide) hNN) (xG_1 rfl) rfl hin1 10 (by decide) mw_217 rfl dX7_isWhole_18 ?_
      refine x_top (y := iI (z5)) ez5 ?_
      refine lv_aload_n hE.1 hE.2.1 dX7_isWhole_21 rfl (lv_at hl 0 rfl) ?_
      refine x_get (x := .int (v 23 4)) hE hK hP 23 (Nat.lt_of_lt_of_le (by decide) hNN) (xG_7 rfl) rfl hin7 4 (by decide) mw_309 rfl dX7_isWhole_22 ?_
      refine x_top (y := iI (z1)) ez1 ?_
      refine lv_ishr hE.1 hE.2.1 dX7_isWhole_25 ?_
      obtain ⟨z6, hz6, ez6⟩ := iI_of (iI (z5) >>> (iI (z1) &&& 31))
      refine x_top ez6 ?_
      refine lv_iconst (v := iI (1)) hE.1 hE.2.1 dX7_isWhole_26 (by decide) ?_
      refine lv_iand hE.1 hE.2.1 dX7_isWhole_27 ?_
      obtain ⟨z7, hz7, ez7⟩ := iI_and (iI (z6)) (iI (1)) 1 (by decide)
      refine x_top ez7 ?_
      refine s_if_ne (a := z7) (tgt := 35) hE.1 hE.2.1 (by omega) dX7_isWhole_28 (by decide) (fun c8 => ?_) (fun c8 => ?_)
      · skip
        refine lv_iconst (v := iI (0)) hE.1 hE.2.1 dX7_isWhole_35 (by decide) ?_
        exact kr _ _ _ (nar01 (by omega)) ⟨0, by omega, rfl⟩ dX7_isWhole_36
      · skip
        refine lv_iconst (v := iI (1)) hE.1 hE.2.1 dX7_isWhole_31 (by decide) ?_
        refine lv_goto (tgt := 36) hE.1 hE.2.1 dX7_isWhole_32 (by decide) ?_
        exact kr _ _ _ (nar01 (by omega)) ⟨1, by omega, rfl⟩ dX7_isWhole_36

theorem dX8_whole_0 : decode cX8_whole 0 = .ok (.aload_n 0, 1) := by decide +kernel
theorem dX8_whole_1 : decode cX8_whole 1 = .ok (.getfield 19, 3) := by decide +kernel
theorem dX8_whole_4 : decode cX8_whole 4 = .ok (.invokevirtual 157, 3) := by decide +kernel
theorem dX8_whole_7 : decode cX8_whole 7 = .ok (.ifCond .ne 6, 3) := by decide +kernel
theorem dX8_whole_10 : decode cX8_whole 10 = .ok (.bipush (-2), 2) := by decide +kernel
theorem dX8_whole_12 : decode cX8_whole 12 = .ok (.ireturn, 1) := by decide +kernel
theorem dX8_whole_13 : decode cX8_whole 13 = .ok (.aload_n 0, 1) := by decide +kernel
theorem dX8_whole_14 : decode cX8_whole 14 = .ok (.getfield 31, 3) := by decide +kernel
theorem dX8_whole_17 : decode cX8_whole 17 = .ok (.invokevirtual 189, 3) := by decide +kernel
theorem dX8_whole_20 : decode cX8_whole 20 = .ok (.ifCond .eq 7, 3) := by decide +kernel
theorem dX8_whole_23 : decode cX8_whole 23 = .ok (.iconst 1, 1) := by decide +kernel
theorem dX8_whole_24 : decode cX8_whole 24 = .ok (.goto 4, 3) := by decide +kernel
theorem dX8_whole_27 : decode cX8_whole 27 = .ok (.iconst 0, 1) := by decide +kernel
theorem dX8_whole_28 : decode cX8_whole 28 = .ok (.ireturn, 1) := by decide +kernel
set_option maxHeartbeats 4000000 in
set_option maxRecDepth 100000 in
theorem s_X8_whole_0 (l : Launch) (D : va_G) (K : Nat → ClassId) (ad : Nat → Nat) (mm : Option Nat) (N : Nat) (hNN : 132 ≤ N) (v ar : sI) (al : sL) (hI : XI v) : Met l yX8_whole (wM yX8_whole cX8_whole 1 (some .int)) (rmD 2) (va_Pc [.ref (ad 0)] (wPre D K ad (xG ad K mm) N v ar al)) (vp_Si (fun r => ∃ z : Int, (-2147483648 ≤ z ∧ z ≤ 2147483647) ∧ r = iI z)) 0 0 (fun _ => False) := by
  refine s_metP (by decide) (Nat.le_of_ble_eq_true rfl) ?_
  intro p e s m below meth c ls args Q hE hB hl kr
  have hE : CallFix p m c cX8_whole 1 s args tbG "TaleCourt" := hE
  obtain ⟨hP, hK, hN⟩ := hB
  have hl : lv_has ls 1 [(0, .ref (ad 0))] := hl
  refine lv_aload_n hE.1 hE.2.1 dX8_whole_0 rfl (lv_at hl 0 rfl) ?_
  refine x_get (x := .ref (ad 3)) hE hK hP 0 (Nat.lt_of_lt_of_le (by decide) hNN) (xG_8 rfl) rfl hin8 1 (by decide) mw_481 rfl dX8_whole_1 ?_
  refine x_vp (nn := 0) (As := []) (rest := []) hE (s_X1_stands_3 l D K ad mm N hNN v ar al hI  ) wPre_blind (wPre_now hK hN hP) (x_recv hK hP 3 (Nat.lt_of_lt_of_le (by decide) hNN) (xG_1 rfl) rfl) rfl mw_788 mw_789 mw_790 mw_116 mw_791 (by decide +kernel) ⟨by decide, by decide⟩ hl.1 rfl (Nat.le_of_ble_eq_true rfl) ⟨Nat.zero_le _, Nat.zero_le _⟩ dX8_whole_4 (fun r1 hr1 => ?_)
  obtain ⟨z1, hz1, rfl⟩ := hr1
  refine s_if_ne (a := z1) (tgt := 13) hE.1 hE.2.1 (by omega) dX8_whole_7 (by decide) (fun c2 => ?_) (fun c2 => ?_)
  · skip
    refine lv_aload_n hE.1 hE.2.1 dX8_whole_13 rfl (lv_at hl 0 rfl) ?_
    refine x_get (x := .ref (ad 23)) hE hK hP 0 (Nat.lt_of_lt_of_le (by decide) hNN) (xG_8 rfl) rfl hin8 3 (by decide) mw_483 rfl dX8_whole_14 ?_
    refine x_vp (nn := 0) (As := []) (rest := []) hE (s_X7_isWhole_23 l D K ad mm N hNN v ar al hI  ) wPre_blind (wPre_now hK hN hP) (x_recv hK hP 23 (Nat.lt_of_lt_of_le (by decide) hNN) (xG_7 rfl) rfl) rfl mw_872 mw_873 mw_874 mw_117 mw_875 (by decide +kernel) ⟨by decide, by decide⟩ hl.1 rfl (Nat.le_of_ble_eq_true rfl) ⟨Nat.zero_le _, Nat.zero_le _⟩ dX8_whole_17 (fun r3 hr3 => ?_)
    obtain ⟨z3, hz3, rfl⟩ := hr3
    refine s_if_eq (a := z3) (tgt := 27) hE.1 hE.2.1 (by omega) dX8_whole_20 (by decide) (fun c4 => ?_) (fun c4 => ?_)
    · skip
      refine lv_iconst (v := iI (0)) hE.1 hE.2.1 dX8_whole_27 (by decide) ?_
      exact kr _ _ _ rfl ⟨0, by omega, rfl⟩ dX8_whole_28
    · skip
      refine lv_iconst (v := iI (1)) hE.1 hE.2.1 dX8_whole_23 (by decide) ?_
      refine lv_goto (tgt := 28) hE.1 hE.2.1 dX8_whole_24 (by decide) ?_
      exact kr _ _ _ rfl ⟨1, by omega, rfl⟩ dX8_whole_28
  · skip
    refine lv_bipush (v := iI (-2)) hE.1 hE.2.1 dX8_whole_10 (by decide) ?_
    exact kr _ _ _ rfl ⟨-2, by omega, rfl⟩ dX8_whole_12

theorem dX8_points_0 : decode cX8_points 0 = .ok (.aload_n 0, 1) := by decide +kernel
theorem dX8_points_1 : decode cX8_points 1 = .ok (.getfield 19, 3) := by decide +kernel
theorem dX8_points_4 : decode cX8_points 4 = .ok (.invokevirtual 157, 3) := by decide +kernel
theorem dX8_points_7 : decode cX8_points 7 = .ok (.ifCond .eq 13, 3) := by decide +kernel
theorem dX8_points_10 : decode cX8_points 10 = .ok (.aload_n 0, 1) := by decide +kernel
theorem dX8_points_11 : decode cX8_points 11 = .ok (.getfield 31, 3) := by decide +kernel
theorem dX8_points_14 : decode cX8_points 14 = .ok (.getfield 192, 3) := by decide +kernel
theorem dX8_points_17 : decode cX8_points 17 = .ok (.goto 5, 3) := by decide +kernel
theorem dX8_points_20 : decode cX8_points 20 = .ok (.bipush (-2), 2) := by decide +kernel
theorem dX8_points_22 : decode cX8_points 22 = .ok (.ireturn, 1) := by decide +kernel
set_option maxHeartbeats 4000000 in
set_option maxRecDepth 100000 in
theorem s_X8_points_0 (l : Launch) (D : va_G) (K : Nat → ClassId) (ad : Nat → Nat) (mm : Option Nat) (N : Nat) (hNN : 132 ≤ N) (v ar : sI) (al : sL) (hI : XI v) : Met l yX8_points (wM yX8_points cX8_points 1 (some .int)) (rmD 1) (va_Pc [.ref (ad 0)] (wPre D K ad (xG ad K mm) N v ar al)) (vp_Si (fun r => ∃ z : Int, (-2147483648 ≤ z ∧ z ≤ 2147483647) ∧ r = iI z)) 0 0 (fun _ => False) := by
  refine s_metP (by decide) (Nat.le_of_ble_eq_true rfl) ?_
  intro p e s m below meth c ls args Q hE hB hl kr
  have hE : CallFix p m c cX8_points 1 s args tbG "TaleCourt" := hE
  obtain ⟨hP, hK, hN⟩ := hB
  have hl : lv_has ls 1 [(0, .ref (ad 0))] := hl
  refine lv_aload_n hE.1 hE.2.1 dX8_points_0 rfl (lv_at hl 0 rfl) ?_
  refine x_get (x := .ref (ad 3)) hE hK hP 0 (Nat.lt_of_lt_of_le (by decide) hNN) (xG_8 rfl) rfl hin8 1 (by decide) mw_481 rfl dX8_points_1 ?_
  refine x_vp (nn := 0) (As := []) (rest := []) hE (s_X1_stands_3 l D K ad mm N hNN v ar al hI  ) wPre_blind (wPre_now hK hN hP) (x_recv hK hP 3 (Nat.lt_of_lt_of_le (by decide) hNN) (xG_1 rfl) rfl) rfl mw_788 mw_789 mw_790 mw_116 mw_791 (by decide +kernel) ⟨by decide, by decide⟩ hl.1 rfl (Nat.le_of_ble_eq_true rfl) ⟨Nat.zero_le _, Nat.zero_le _⟩ dX8_points_4 (fun r1 hr1 => ?_)
  obtain ⟨z1, hz1, rfl⟩ := hr1
  refine s_if_eq (a := z1) (tgt := 20) hE.1 hE.2.1 (by omega) dX8_points_7 (by decide) (fun c2 => ?_) (fun c2 => ?_)
  · skip
    refine lv_bipush (v := iI (-2)) hE.1 hE.2.1 dX8_points_20 (by decide) ?_
    exact kr _ _ _ rfl ⟨-2, by omega, rfl⟩ dX8_points_22
  · skip
    refine lv_aload_n hE.1 hE.2.1 dX8_points_10 rfl (lv_at hl 0 rfl) ?_
    refine x_get (x := .ref (ad 23)) hE hK hP 0 (Nat.lt_of_lt_of_le (by decide) hNN) (xG_8 rfl) rfl hin8 3 (by decide) mw_483 rfl dX8_points_11 ?_
    obtain ⟨z3, hz3, ez3⟩ := iI_of (v 23 5)
    refine x_get (x := .int (v 23 5)) hE hK hP 23 (Nat.lt_of_lt_of_le (by decide) hNN) (xG_7 rfl) rfl hin7 5 (by decide) mw_314 rfl dX8_points_14 ?_
    refine x_top (y := iI (z3)) ez3 ?_
    refine lv_goto (tgt := 22) hE.1 hE.2.1 dX8_points_17 (by decide) ?_
    exact kr _ _ _ rfl ⟨z3, by omega, rfl⟩ dX8_points_22

theorem dX1_hasTeller_0 : decode cX1_hasTeller 0 = .ok (.iload_n 1, 1) := by decide +kernel
theorem dX1_hasTeller_1 : decode cX1_hasTeller 1 = .ok (.ifCond .lt 20, 3) := by decide +kernel
theorem dX1_hasTeller_4 : decode cX1_hasTeller 4 = .ok (.iload_n 1, 1) := by decide +kernel
theorem dX1_hasTeller_5 : decode cX1_hasTeller 5 = .ok (.aload_n 0, 1) := by decide +kernel
theorem dX1_hasTeller_6 : decode cX1_hasTeller 6 = .ok (.getfield 39, 3) := by decide +kernel
theorem dX1_hasTeller_9 : decode cX1_hasTeller 9 = .ok (.if_icmp .ge 12, 3) := by decide +kernel
theorem dX1_hasTeller_12 : decode cX1_hasTeller 12 = .ok (.iload_n 1, 1) := by decide +kernel
theorem dX1_hasTeller_13 : decode cX1_hasTeller 13 = .ok (.iconst 3, 1) := by decide +kernel
theorem dX1_hasTeller_14 : decode cX1_hasTeller 14 = .ok (.if_icmp .ge 7, 3) := by decide +kernel
theorem dX1_hasTeller_17 : decode cX1_hasTeller 17 = .ok (.iconst 1, 1) := by decide +kernel
theorem dX1_hasTeller_18 : decode cX1_hasTeller 18 = .ok (.goto 4, 3) := by decide +kernel
theorem dX1_hasTeller_21 : decode cX1_hasTeller 21 = .ok (.iconst 0, 1) := by decide +kernel
theorem dX1_hasTeller_22 : decode cX1_hasTeller 22 = .ok (.ireturn, 1) := by decide +kernel
set_option maxHeartbeats 4000000 in
set_option maxRecDepth 100000 in
theorem s_X1_hasTeller_3 (l : Launch) (D : va_G) (K : Nat → ClassId) (ad : Nat → Nat) (mm : Option Nat) (N : Nat) (hNN : 132 ≤ N) (v ar : sI) (al : sL) (hI : XI v) (z_1 : Int) (hz_1 : -2147483648 ≤ z_1 ∧ z_1 ≤ 2147483647) : Met l yX1_hasTeller (wM yX1_hasTeller cX1_hasTeller 2 (some .boolean)) (rmD 0) (va_Pc [.ref (ad 3), .int (iI (z_1))] (wPre D K ad (xG ad K mm) N v ar al)) (vp_Si (fun r => ∃ z : Int, (z = 0 ∨ (z = 1 ∧ 0 ≤ z_1 ∧ z_1 ≤ 2)) ∧ r = iI z)) 0 0 (fun _ => False) := by
  refine s_metP (by decide) (Nat.le_of_ble_eq_true rfl) ?_
  intro p e s m below meth c ls args Q hE hB hl kr
  have hE : CallFix p m c cX1_hasTeller 2 s args tbG "TaleCourt$Court" := hE
  obtain ⟨hP, hK, hN⟩ := hB
  have hl : lv_has ls 2 [(0, .ref (ad 3)), (1, .int (iI (z_1)))] := hl
  refine lv_iload_n hE.1 hE.2.1 dX1_hasTeller_0 rfl (lv_at hl 1 rfl) ?_
  refine s_if_lt (a := z_1) (tgt := 21) hE.1 hE.2.1 (by omega) dX1_hasTeller_1 (by decide) (fun c1 => ?_) (fun c1 => ?_)
  · skip
    refine lv_iconst (v := iI (0)) hE.1 hE.2.1 dX1_hasTeller_21 (by decide) ?_
    exact kr _ _ _ (nar01 (by omega)) ⟨0, by omega, rfl⟩ dX1_hasTeller_22
  · skip
    refine lv_iload_n hE.1 hE.2.1 dX1_hasTeller_4 rfl (lv_at hl 1 rfl) ?_
    refine lv_aload_n hE.1 hE.2.1 dX1_hasTeller_5 rfl (lv_at hl 0 rfl) ?_
    obtain ⟨z2, hz2, ez2⟩ := XI_get hI 3 0 0 3 (by decide)
    refine x_get (x := .int (v 3 0)) hE hK hP 3 (Nat.lt_of_lt_of_le (by decide) hNN) (xG_1 rfl) rfl hin1 0 (by decide) mw_178 rfl dX1_hasTeller_6 ?_
    refine x_top (y := iI (z2)) ez2 ?_
    refine s_icmp_ge (a := z_1) (b := z2) (tgt := 21) hE.1 hE.2.1 (by omega) (by omega) dX1_hasTeller_9 (by decide) (fun c3 => ?_) (fun c3 => ?_)
    · skip
      refine lv_iconst (v := iI (0)) hE.1 hE.2.1 dX1_hasTeller_21 (by decide) ?_
      exact kr _ _ _ (nar01 (by omega)) ⟨0, by omega, rfl⟩ dX1_hasTeller_22
    · skip
      refine lv_iload_n hE.1 hE.2.1 dX1_hasTeller_12 rfl (lv_at hl 1 rfl) ?_
      refine lv_iconst (v := iI (3)) hE.1 hE.2.1 dX1_hasTeller_13 (by decide) ?_
      refine s_icmp_ge (a := z_1) (b := 3) (tgt := 21) hE.1 hE.2.1 (by omega) (by omega) dX1_hasTeller_14 (by decide) (fun c4 => False.elim (by omega)) (fun _ => ?_)
      refine lv_iconst (v := iI (1)) hE.1 hE.2.1 dX1_hasTeller_17 (by decide) ?_
      refine lv_goto (tgt := 22) hE.1 hE.2.1 dX1_hasTeller_18 (by decide) ?_
      exact kr _ _ _ (nar01 (by omega)) ⟨1, by omega, rfl⟩ dX1_hasTeller_22

theorem dX7_shareOf_0 : decode cX7_shareOf 0 = .ok (.iconst 0, 1) := by decide +kernel
theorem dX7_shareOf_1 : decode cX7_shareOf 1 = .ok (.istore_n 2, 1) := by decide +kernel
theorem dX7_shareOf_2 : decode cX7_shareOf 2 = .ok (.iconst 1, 1) := by decide +kernel
theorem dX7_shareOf_3 : decode cX7_shareOf 3 = .ok (.aload_n 0, 1) := by decide +kernel
theorem dX7_shareOf_4 : decode cX7_shareOf 4 = .ok (.getfield 37, 3) := by decide +kernel
theorem dX7_shareOf_7 : decode cX7_shareOf 7 = .ok (.getfield 68, 3) := by decide +kernel
theorem dX7_shareOf_10 : decode cX7_shareOf 10 = .ok (.invokestatic 76, 3) := by decide +kernel
theorem dX7_shareOf_13 : decode cX7_shareOf 13 = .ok (.istore_n 3, 1) := by decide +kernel
theorem dX7_shareOf_14 : decode cX7_shareOf 14 = .ok (.iload_n 1, 1) := by decide +kernel
theorem dX7_shareOf_15 : decode cX7_shareOf 15 = .ok (.istore 4, 2) := by decide +kernel
theorem dX7_shareOf_17 : decode cX7_shareOf 17 = .ok (.iload 4, 2) := by decide +kernel
theorem dX7_shareOf_19 : decode cX7_shareOf 19 = .ok (.aload_n 0, 1) := by decide +kernel
theorem dX7_shareOf_20 : decode cX7_shareOf 20 = .ok (.getfield 41, 3) := by decide +kernel
theorem dX7_shareOf_23 : decode cX7_shareOf 23 = .ok (.if_icmp .ge 36, 3) := by decide +kernel
theorem dX7_shareOf_26 : decode cX7_shareOf 26 = .ok (.iload 4, 2) := by decide +kernel
theorem dX7_shareOf_28 : decode cX7_shareOf 28 = .ok (.bipush 18, 2) := by decide +kernel
theorem dX7_shareOf_30 : decode cX7_shareOf 30 = .ok (.if_icmp .ge 29, 3) := by decide +kernel
theorem dX7_shareOf_33 : decode cX7_shareOf 33 = .ok (.iload_n 2, 1) := by decide +kernel
theorem dX7_shareOf_34 : decode cX7_shareOf 34 = .ok (.aload_n 0, 1) := by decide +kernel
theorem dX7_shareOf_35 : decode cX7_shareOf 35 = .ok (.getfield 37, 3) := by decide +kernel
theorem dX7_shareOf_38 : decode cX7_shareOf 38 = .ok (.aload_n 0, 1) := by decide +kernel
theorem dX7_shareOf_39 : decode cX7_shareOf 39 = .ok (.getfield 9, 3) := by decide +kernel
theorem dX7_shareOf_42 : decode cX7_shareOf 42 = .ok (.iload 4, 2) := by decide +kernel
theorem dX7_shareOf_44 : decode cX7_shareOf 44 = .ok (.iaload, 1) := by decide +kernel
theorem dX7_shareOf_45 : decode cX7_shareOf 45 = .ok (.invokevirtual 82, 3) := by decide +kernel
theorem dX7_shareOf_48 : decode cX7_shareOf 48 = .ok (.iadd, 1) := by decide +kernel
theorem dX7_shareOf_49 : decode cX7_shareOf 49 = .ok (.istore_n 2, 1) := by decide +kernel
theorem dX7_shareOf_50 : decode cX7_shareOf 50 = .ok (.iload 4, 2) := by decide +kernel
theorem dX7_shareOf_52 : decode cX7_shareOf 52 = .ok (.iload_n 3, 1) := by decide +kernel
theorem dX7_shareOf_53 : decode cX7_shareOf 53 = .ok (.iadd, 1) := by decide +kernel
theorem dX7_shareOf_54 : decode cX7_shareOf 54 = .ok (.istore 4, 2) := by decide +kernel
theorem dX7_shareOf_56 : decode cX7_shareOf 56 = .ok (.goto (-39), 3) := by decide +kernel
theorem dX7_shareOf_59 : decode cX7_shareOf 59 = .ok (.iload_n 2, 1) := by decide +kernel
theorem dX7_shareOf_60 : decode cX7_shareOf 60 = .ok (.ireturn, 1) := by decide +kernel
set_option maxHeartbeats 4000000 in
set_option maxRecDepth 100000 in
theorem s_X7_shareOf_23 (l : Launch) (D : va_G) (K : Nat → ClassId) (ad : Nat → Nat) (mm : Option Nat) (N : Nat) (hNN : 132 ≤ N) (v ar : sI) (al : sL) (hI : XI v) (z_1 : Int) (hz_1 : 0 ≤ z_1 ∧ z_1 ≤ 2) : Met l yX7_shareOf (wM yX7_shareOf cX7_shareOf 5 (some .int)) (rmD 1) (va_Pc [.ref (ad 23), .int (iI (z_1))] (wPre D K ad (xG ad K mm) N v ar al)) (vp_Si (fun r => ∃ z : Int, (-2147483648 ≤ z ∧ z ≤ 2147483647) ∧ r = iI z)) 0 0 (fun _ => False) := by
  refine s_metP (by decide) (Nat.le_of_ble_eq_true rfl) ?_
  intro p e s m below meth c ls args Q hE hB hl kr
  have hE : CallFix p m c cX7_shareOf 5 s args tbG "TaleCourt$Telling" := hE
  obtain ⟨hP, hK, hN⟩ := hB
  have hl : lv_has ls 5 [(0, .ref (ad 23)), (1, .int (iI (z_1)))] := hl
  refine lv_iconst (v := iI (0)) hE.1 hE.2.1 dX7_shareOf_0 (by decide) ?_
  refine lv_istore_n (lv' := [(2, .int (iI (0))), (0, .ref (ad 23)), (1, .int (iI (z_1)))]) hE.1 hE.2.1 dX7_shareOf_1 rfl hl (by decide) rfl (fun ls hl => ?_)
  refine lv_iconst (v := iI (1)) hE.1 hE.2.1 dX7_shareOf_2 (by decide) ?_
  refine lv_aload_n hE.1 hE.2.1 dX7_shareOf_3 rfl (lv_at hl 1 rfl) ?_
  refine x_get (x := .ref (ad 3)) hE hK hP 23 (Nat.lt_of_lt_of_le (by decide) hNN) (xG_7 rfl) rfl hin7 6 (by decide) mw_315 rfl dX7_shareOf_4 ?_
  obtain ⟨z1, hz1, ez1⟩ := XI_get hI 3 0 0 3 (by decide)
  refine x_get (x := .int (v 3 0)) hE hK hP 3 (Nat.lt_of_lt_of_le (by decide) hNN) (xG_1 rfl) rfl hin1 0 (by decide) mw_179 rfl dX7_shareOf_7 ?_
  refine x_top (y := iI (z1)) ez1 ?_
  refine va_mmax (rest := []) hE.1 hE.2.1 (hE.2.2.1.trans hl.1.symm) hE.2.2.2.1 (hE.2.2.2.2 _ mw_892) (hE.2.2.2.2 _ mw_893) (hE.2.2.2.2 _ mw_129) (hE.2.2.2.2 _ mw_894) (Nat.le_of_ble_eq_true rfl) (Nat.le_of_ble_eq_true rfl) (Nat.zero_le _) (Nat.zero_le _) dX7_shareOf_10 ?_
  obtain ⟨z2, hz2, ez2⟩ := iI_max (a := 1) (b := z1) (by omega) (by omega)
  refine x_top ez2 ?_
  refine lv_istore_n (lv' := [(3, .int (iI (z2))), (2, .int (iI (0))), (0, .ref (ad 23)), (1, .int (iI (z_1)))]) hE.1 hE.2.1 dX7_shareOf_13 rfl hl (by decide) rfl (fun ls hl => ?_)
  refine lv_iload_n hE.1 hE.2.1 dX7_shareOf_14 rfl (lv_at hl 3 rfl) ?_
  refine lv_istore (lv' := [(4, .int (iI (z_1))), (3, .int (iI (z2))), (2, .int (iI (0))), (0, .ref (ad 23)), (1, .int (iI (z_1)))]) hE.1 hE.2.1 dX7_shareOf_15 hl (by decide) rfl (fun ls hl => ?_)
  have loop3 : ∀ (k3 : Nat) (y3_4 : Int) (y3_2 : Int) (ls : Array Slot), (18 - y3_4).toNat = k3 → (0 ≤ y3_4 ∧ y3_4 ≤ 20) → (-2147483648 ≤ y3_2 ∧ y3_2 ≤ 2147483647) → lv_has ls 5 [(4, .int (iI (y3_4))), (3, .int (iI (z2))), (2, .int (iI (y3_2))), (0, .ref (ad 23)), (1, .int (iI (z_1)))] → W p l e (rmD 1) s m args below meth c s.heap [] 0 0 Q (F0 m 17 ls []) := by
    intro k3
    induction k3 using Nat.strongRecOn with
    | _ k3 ih3 =>
      intro y3_4 y3_2 ls hk3 hb_y3_4 hb_y3_2 hl
      refine lv_iload hE.1 hE.2.1 dX7_shareOf_17 (lv_at hl 0 rfl) ?_
      refine lv_aload_n hE.1 hE.2.1 dX7_shareOf_19 rfl (lv_at hl 3 rfl) ?_
      obtain ⟨z4, hz4, ez4⟩ := XI_get hI 23 2 0 18 (by decide)
      refine x_get (x := .int (v 23 2)) hE hK hP 23 (Nat.lt_of_lt_of_le (by decide) hNN) (xG_7 rfl) rfl hin7 2 (by decide) mw_301 rfl dX7_shareOf_20 ?_
      refine x_top (y := iI (z4)) ez4 ?_
      refine s_icmp_ge (a := y3_4) (b := z4) (tgt := 59) hE.1 hE.2.1 (by omega) (by omega) dX7_shareOf_23 (by decide) (fun c5 => ?_) (fun c5 => ?_)
      · skip
        refine lv_iload_n hE.1 hE.2.1 dX7_shareOf_59 rfl (lv_at hl 2 rfl) ?_
        exact kr _ _ _ rfl ⟨y3_2, by omega, rfl⟩ dX7_shareOf_60
      · skip
        refine lv_iload hE.1 hE.2.1 dX7_shareOf_26 (lv_at hl 0 rfl) ?_
        refine lv_bipush (v := iI (18)) hE.1 hE.2.1 dX7_shareOf_28 (by decide) ?_
        refine s_icmp_ge (a := y3_4) (b := 18) (tgt := 59) hE.1 hE.2.1 (by omega) (by omega) dX7_shareOf_30 (by decide) (fun c6 => False.elim (by omega)) (fun _ => ?_)
        refine lv_iload_n hE.1 hE.2.1 dX7_shareOf_33 rfl (lv_at hl 2 rfl) ?_
        refine lv_aload_n hE.1 hE.2.1 dX7_shareOf_34 rfl (lv_at hl 3 rfl) ?_
        refine x_get (x := .ref (ad 3)) hE hK hP 23 (Nat.lt_of_lt_of_le (by decide) hNN) (xG_7 rfl) rfl hin7 6 (by decide) mw_315 rfl dX7_shareOf_35 ?_
        refine lv_aload_n hE.1 hE.2.1 dX7_shareOf_38 rfl (lv_at hl 3 rfl) ?_
        refine x_get (x := .ref (ad 24)) hE hK hP 23 (Nat.lt_of_lt_of_le (by decide) hNN) (xG_7 rfl) rfl hin7 0 (by decide) mw_295 rfl dX7_shareOf_39 ?_
        refine lv_iload hE.1 hE.2.1 dX7_shareOf_42 (lv_at hl 0 rfl) ?_
        refine x_iald (j := iI (y3_4)) hE hK hP 24 (Nat.lt_of_lt_of_le (by decide) hNN) (xG_10 rfl) (iI_in (n := 18) (by omega)) dX7_shareOf_44 ?_
        obtain ⟨z8, hz8, ez8⟩ := iI_of (ar 24 (iI (y3_4)).toNatClampNeg)
        refine x_top ez8 ?_
        refine x_vp (nn := 1) (As := [.int (iI (z8))]) (rest := [.int (iI (y3_2))]) hE (s_X1_value_3 l D K ad mm N hNN v ar al hI  (z8) (by omega)) wPre_blind (wPre_now hK hN hP) (x_recv hK hP 3 (Nat.lt_of_lt_of_le (by decide) hNN) (xG_1 rfl) rfl) rfl mw_775 mw_776 mw_777 mw_116 mw_778 (by decide +kernel) ⟨by decide, by decide⟩ hl.1 rfl (Nat.le_of_ble_eq_true rfl) ⟨Nat.zero_le _, Nat.zero_le _⟩ dX7_shareOf_45 (fun r9 hr9 => ?_)
        obtain ⟨z9, hz9, rfl⟩ := hr9
        refine lv_iadd hE.1 hE.2.1 dX7_shareOf_48 ?_
        obtain ⟨z10, hz10, ez10⟩ := iI_of (iI (y3_2) + iI (z9))
        refine x_top ez10 ?_
        refine lv_istore_n (lv' := [(2, .int (iI (z10))), (4, .int (iI (y3_4))), (3, .int (iI (z2))), (0, .ref (ad 23)), (1, .int (iI (z_1)))]) hE.1 hE.2.1 dX7_shareOf_49 rfl hl (by decide) rfl (fun ls hl => ?_)
        refine lv_iload hE.1 hE.2.1 dX7_shareOf_50 (lv_at hl 1 rfl) ?_
        refine lv_iload_n hE.1 hE.2.1 dX7_shareOf_52 rfl (lv_at hl 2 rfl) ?_
        refine lv_iadd hE.1 hE.2.1 dX7_shareOf_53 ?_
        refine x_top (y := iI (y3_4 + z2)) ((iI_add (y3_4) (z2)).trans (congrArg iI (by omega))) ?_
        refine lv_istore (lv' := [(4, .int (iI (y3_4 + z2))), (2, .int (iI (z10))), (3, .int (iI (z2))), (0, .ref (ad 23)), (1, .int (iI (z_1)))]) hE.1 hE.2.1 dX7_shareOf_54 hl (by decide) rfl (fun ls hl => ?_)
        refine lv_goto (tgt := 17) hE.1 hE.2.1 dX7_shareOf_56 (by decide) ?_
        exact ih3 _ (by omega) (y3_4 + z2) (z10) _ rfl (by omega) (by omega) (lv_sub hl [0, 2, 1, 3, 4] rfl)
  exact loop3 _ (z_1) (0) _ rfl (by omega) (by omega) hl

theorem dX8_share_0 : decode cX8_share 0 = .ok (.aload_n 0, 1) := by decide +kernel
theorem dX8_share_1 : decode cX8_share 1 = .ok (.getfield 19, 3) := by decide +kernel
theorem dX8_share_4 : decode cX8_share 4 = .ok (.iload_n 1, 1) := by decide +kernel
theorem dX8_share_5 : decode cX8_share 5 = .ok (.invokevirtual 195, 3) := by decide +kernel
theorem dX8_share_8 : decode cX8_share 8 = .ok (.ifCond .eq 14, 3) := by decide +kernel
theorem dX8_share_11 : decode cX8_share 11 = .ok (.aload_n 0, 1) := by decide +kernel
theorem dX8_share_12 : decode cX8_share 12 = .ok (.getfield 31, 3) := by decide +kernel
theorem dX8_share_15 : decode cX8_share 15 = .ok (.iload_n 1, 1) := by decide +kernel
theorem dX8_share_16 : decode cX8_share 16 = .ok (.invokevirtual 198, 3) := by decide +kernel
theorem dX8_share_19 : decode cX8_share 19 = .ok (.goto 5, 3) := by decide +kernel
theorem dX8_share_22 : decode cX8_share 22 = .ok (.bipush (-2), 2) := by decide +kernel
theorem dX8_share_24 : decode cX8_share 24 = .ok (.ireturn, 1) := by decide +kernel
set_option maxHeartbeats 4000000 in
set_option maxRecDepth 100000 in
theorem s_X8_share_0 (l : Launch) (D : va_G) (K : Nat → ClassId) (ad : Nat → Nat) (mm : Option Nat) (N : Nat) (hNN : 132 ≤ N) (v ar : sI) (al : sL) (hI : XI v) (z_1 : Int) (hz_1 : -2147483648 ≤ z_1 ∧ z_1 ≤ 2147483647) : Met l yX8_share (wM yX8_share cX8_share 2 (some .int)) (rmD 2) (va_Pc [.ref (ad 0), .int (iI (z_1))] (wPre D K ad (xG ad K mm) N v ar al)) (vp_Si (fun r => ∃ z : Int, (-2147483648 ≤ z ∧ z ≤ 2147483647) ∧ r = iI z)) 0 0 (fun _ => False) := by
  refine s_metP (by decide) (Nat.le_of_ble_eq_true rfl) ?_
  intro p e s m below meth c ls args Q hE hB hl kr
  have hE : CallFix p m c cX8_share 2 s args tbG "TaleCourt" := hE
  obtain ⟨hP, hK, hN⟩ := hB
  have hl : lv_has ls 2 [(0, .ref (ad 0)), (1, .int (iI (z_1)))] := hl
  refine lv_aload_n hE.1 hE.2.1 dX8_share_0 rfl (lv_at hl 0 rfl) ?_
  refine x_get (x := .ref (ad 3)) hE hK hP 0 (Nat.lt_of_lt_of_le (by decide) hNN) (xG_8 rfl) rfl hin8 1 (by decide) mw_481 rfl dX8_share_1 ?_
  refine lv_iload_n hE.1 hE.2.1 dX8_share_4 rfl (lv_at hl 1 rfl) ?_
  refine x_vp (nn := 1) (As := [.int (iI (z_1))]) (rest := []) hE (s_X1_hasTeller_3 l D K ad mm N hNN v ar al hI  (z_1) (by omega)) wPre_blind (wPre_now hK hN hP) (x_recv hK hP 3 (Nat.lt_of_lt_of_le (by decide) hNN) (xG_1 rfl) rfl) rfl mw_884 mw_885 mw_886 mw_116 mw_887 (by decide +kernel) ⟨by decide, by decide⟩ hl.1 rfl (Nat.le_of_ble_eq_true rfl) ⟨Nat.zero_le _, Nat.zero_le _⟩ dX8_share_5 (fun r1 hr1 => ?_)
  obtain ⟨z1, hz1, rfl⟩ := hr1
  refine s_if_eq (a := z1) (tgt := 22) hE.1 hE.2.1 (by omega) dX8_share_8 (by decide) (fun c2 => ?_) (fun c2 => ?_)
  · skip
    refine lv_bipush (v := iI (-2)) hE.1 hE.2.1 dX8_share_22 (by decide) ?_
    exact kr _ _ _ rfl ⟨-2, by omega, rfl⟩ dX8_share_24
  · skip
    refine lv_aload_n hE.1 hE.2.1 dX8_share_11 rfl (lv_at hl 0 rfl) ?_
    refine x_get (x := .ref (ad 23)) hE hK hP 0 (Nat.lt_of_lt_of_le (by decide) hNN) (xG_8 rfl) rfl hin8 3 (by decide) mw_483 rfl dX8_share_12 ?_
    refine lv_iload_n hE.1 hE.2.1 dX8_share_15 rfl (lv_at hl 1 rfl) ?_
    refine x_vp (nn := 1) (As := [.int (iI (z_1))]) (rest := []) hE (s_X7_shareOf_23 l D K ad mm N hNN v ar al hI  (z_1) (by omega)) wPre_blind (wPre_now hK hN hP) (x_recv hK hP 23 (Nat.lt_of_lt_of_le (by decide) hNN) (xG_7 rfl) rfl) rfl mw_888 mw_889 mw_890 mw_117 mw_891 (by decide +kernel) ⟨by decide, by decide⟩ hl.1 rfl (Nat.le_of_ble_eq_true rfl) ⟨Nat.zero_le _, Nat.zero_le _⟩ dX8_share_16 (fun r3 hr3 => ?_)
    obtain ⟨z3, hz3, rfl⟩ := hr3
    refine lv_goto (tgt := 24) hE.1 hE.2.1 dX8_share_19 (by decide) ?_
    exact kr _ _ _ rfl ⟨z3, by omega, rfl⟩ dX8_share_24

theorem dX8_left_0 : decode cX8_left 0 = .ok (.aload_n 0, 1) := by decide +kernel
theorem dX8_left_1 : decode cX8_left 1 = .ok (.getfield 19, 3) := by decide +kernel
theorem dX8_left_4 : decode cX8_left 4 = .ok (.iload_n 1, 1) := by decide +kernel
theorem dX8_left_5 : decode cX8_left 5 = .ok (.invokevirtual 195, 3) := by decide +kernel
theorem dX8_left_8 : decode cX8_left 8 = .ok (.ifCond .eq 14, 3) := by decide +kernel
theorem dX8_left_11 : decode cX8_left 11 = .ok (.aload_n 0, 1) := by decide +kernel
theorem dX8_left_12 : decode cX8_left 12 = .ok (.getfield 31, 3) := by decide +kernel
theorem dX8_left_15 : decode cX8_left 15 = .ok (.iload_n 1, 1) := by decide +kernel
theorem dX8_left_16 : decode cX8_left 16 = .ok (.invokevirtual 201, 3) := by decide +kernel
theorem dX8_left_19 : decode cX8_left 19 = .ok (.goto 5, 3) := by decide +kernel
theorem dX8_left_22 : decode cX8_left 22 = .ok (.bipush (-2), 2) := by decide +kernel
theorem dX8_left_24 : decode cX8_left 24 = .ok (.ireturn, 1) := by decide +kernel
set_option maxHeartbeats 4000000 in
set_option maxRecDepth 100000 in
theorem s_X8_left_0 (l : Launch) (D : va_G) (K : Nat → ClassId) (ad : Nat → Nat) (mm : Option Nat) (N : Nat) (hNN : 132 ≤ N) (v ar : sI) (al : sL) (hI : XI v) (z_1 : Int) (hz_1 : -2147483648 ≤ z_1 ∧ z_1 ≤ 2147483647) : Met l yX8_left (wM yX8_left cX8_left 2 (some .int)) (rmD 1) (va_Pc [.ref (ad 0), .int (iI (z_1))] (wPre D K ad (xG ad K mm) N v ar al)) (vp_Si (fun r => ∃ z : Int, (-2147483648 ≤ z ∧ z ≤ 2147483647) ∧ r = iI z)) 0 0 (fun _ => False) := by
  refine s_metP (by decide) (Nat.le_of_ble_eq_true rfl) ?_
  intro p e s m below meth c ls args Q hE hB hl kr
  have hE : CallFix p m c cX8_left 2 s args tbG "TaleCourt" := hE
  obtain ⟨hP, hK, hN⟩ := hB
  have hl : lv_has ls 2 [(0, .ref (ad 0)), (1, .int (iI (z_1)))] := hl
  refine lv_aload_n hE.1 hE.2.1 dX8_left_0 rfl (lv_at hl 0 rfl) ?_
  refine x_get (x := .ref (ad 3)) hE hK hP 0 (Nat.lt_of_lt_of_le (by decide) hNN) (xG_8 rfl) rfl hin8 1 (by decide) mw_481 rfl dX8_left_1 ?_
  refine lv_iload_n hE.1 hE.2.1 dX8_left_4 rfl (lv_at hl 1 rfl) ?_
  refine x_vp (nn := 1) (As := [.int (iI (z_1))]) (rest := []) hE (s_X1_hasTeller_3 l D K ad mm N hNN v ar al hI  (z_1) (by omega)) wPre_blind (wPre_now hK hN hP) (x_recv hK hP 3 (Nat.lt_of_lt_of_le (by decide) hNN) (xG_1 rfl) rfl) rfl mw_884 mw_885 mw_886 mw_116 mw_887 (by decide +kernel) ⟨by decide, by decide⟩ hl.1 rfl (Nat.le_of_ble_eq_true rfl) ⟨Nat.zero_le _, Nat.zero_le _⟩ dX8_left_5 (fun r1 hr1 => ?_)
  obtain ⟨z1, hz1, rfl⟩ := hr1
  refine s_if_eq (a := z1) (tgt := 22) hE.1 hE.2.1 (by omega) dX8_left_8 (by decide) (fun c2 => ?_) (fun c2 => ?_)
  · skip
    refine lv_bipush (v := iI (-2)) hE.1 hE.2.1 dX8_left_22 (by decide) ?_
    exact kr _ _ _ rfl ⟨-2, by omega, rfl⟩ dX8_left_24
  · skip
    refine lv_aload_n hE.1 hE.2.1 dX8_left_11 rfl (lv_at hl 0 rfl) ?_
    refine x_get (x := .ref (ad 23)) hE hK hP 0 (Nat.lt_of_lt_of_le (by decide) hNN) (xG_8 rfl) rfl hin8 3 (by decide) mw_483 rfl dX8_left_12 ?_
    refine lv_iload_n hE.1 hE.2.1 dX8_left_15 rfl (lv_at hl 1 rfl) ?_
    refine x_vp (nn := 1) (As := [.int (iI (z_1))]) (rest := []) hE (s_X7_silencesLeft_23 l D K ad mm N hNN v ar al hI  (z_1) (by omega)) wPre_blind (wPre_now hK hN hP) (x_recv hK hP 23 (Nat.lt_of_lt_of_le (by decide) hNN) (xG_7 rfl) rfl) rfl mw_899 mw_801 mw_802 mw_117 mw_803 (by decide +kernel) ⟨by decide, by decide⟩ hl.1 rfl (Nat.le_of_ble_eq_true rfl) ⟨Nat.zero_le _, Nat.zero_le _⟩ dX8_left_16 (fun r3 hr3 => ?_)
    obtain ⟨z3, hz3, rfl⟩ := hr3
    refine lv_goto (tgt := 24) hE.1 hE.2.1 dX8_left_19 (by decide) ?_
    exact kr _ _ _ rfl ⟨z3, by omega, rfl⟩ dX8_left_24
