theorem dX9_goesAll_0 : decode cX9_goesAll 0 = .ok (.aload_n 0, 1) := by decide +kernel
theorem dX9_goesAll_1 : decode cX9_goesAll 1 = .ok (.invokevirtual 246, 3) := by decide +kernel
theorem dX9_goesAll_4 : decode cX9_goesAll 4 = .ok (.aload_n 0, 1) := by decide +kernel
theorem dX9_goesAll_5 : decode cX9_goesAll 5 = .ok (.iload_n 1, 1) := by decide +kernel
theorem dX9_goesAll_6 : decode cX9_goesAll 6 = .ok (.putfield 337, 3) := by decide +kernel
theorem dX9_goesAll_9 : decode cX9_goesAll 9 = .ok (.aload_n 0, 1) := by decide +kernel
theorem dX9_goesAll_10 : decode cX9_goesAll 10 = .ok (.iload_n 2, 1) := by decide +kernel
theorem dX9_goesAll_11 : decode cX9_goesAll 11 = .ok (.putfield 340, 3) := by decide +kernel
theorem dX9_goesAll_14 : decode cX9_goesAll 14 = .ok (.aload_n 0, 1) := by decide +kernel
theorem dX9_goesAll_15 : decode cX9_goesAll 15 = .ok (.iload_n 3, 1) := by decide +kernel
theorem dX9_goesAll_16 : decode cX9_goesAll 16 = .ok (.putfield 331, 3) := by decide +kernel
theorem dX9_goesAll_19 : decode cX9_goesAll 19 = .ok (.aload_n 0, 1) := by decide +kernel
theorem dX9_goesAll_20 : decode cX9_goesAll 20 = .ok (.aload_n 0, 1) := by decide +kernel
theorem dX9_goesAll_21 : decode cX9_goesAll 21 = .ok (.getfield 265, 3) := by decide +kernel
theorem dX9_goesAll_24 : decode cX9_goesAll 24 = .ok (.putfield 316, 3) := by decide +kernel
theorem dX9_goesAll_27 : decode cX9_goesAll 27 = .ok (.aload_n 0, 1) := by decide +kernel
theorem dX9_goesAll_28 : decode cX9_goesAll 28 = .ok (.iconst 0, 1) := by decide +kernel
theorem dX9_goesAll_29 : decode cX9_goesAll 29 = .ok (.putfield 346, 3) := by decide +kernel
theorem dX9_goesAll_32 : decode cX9_goesAll 32 = .ok (.aload_n 0, 1) := by decide +kernel
theorem dX9_goesAll_33 : decode cX9_goesAll 33 = .ok (.iconst (-1), 1) := by decide +kernel
theorem dX9_goesAll_34 : decode cX9_goesAll 34 = .ok (.putfield 343, 3) := by decide +kernel
theorem dX9_goesAll_37 : decode cX9_goesAll 37 = .ok (.iconst 0, 1) := by decide +kernel
theorem dX9_goesAll_38 : decode cX9_goesAll 38 = .ok (.istore 4, 2) := by decide +kernel
theorem dX9_goesAll_40 : decode cX9_goesAll 40 = .ok (.iload 4, 2) := by decide +kernel
theorem dX9_goesAll_42 : decode cX9_goesAll 42 = .ok (.bipush 10, 2) := by decide +kernel
theorem dX9_goesAll_44 : decode cX9_goesAll 44 = .ok (.if_icmp .ge 17, 3) := by decide +kernel
theorem dX9_goesAll_47 : decode cX9_goesAll 47 = .ok (.aload_n 0, 1) := by decide +kernel
theorem dX9_goesAll_48 : decode cX9_goesAll 48 = .ok (.getfield 62, 3) := by decide +kernel
theorem dX9_goesAll_51 : decode cX9_goesAll 51 = .ok (.iload 4, 2) := by decide +kernel
theorem dX9_goesAll_53 : decode cX9_goesAll 53 = .ok (.iconst 0, 1) := by decide +kernel
theorem dX9_goesAll_54 : decode cX9_goesAll 54 = .ok (.iastore, 1) := by decide +kernel
theorem dX9_goesAll_55 : decode cX9_goesAll 55 = .ok (.iinc 4 1, 3) := by decide +kernel
theorem dX9_goesAll_58 : decode cX9_goesAll 58 = .ok (.goto (-18), 3) := by decide +kernel
theorem dX9_goesAll_61 : decode cX9_goesAll 61 = .ok (.iconst 0, 1) := by decide +kernel
theorem dX9_goesAll_62 : decode cX9_goesAll 62 = .ok (.istore 4, 2) := by decide +kernel
theorem dX9_goesAll_64 : decode cX9_goesAll 64 = .ok (.iload 4, 2) := by decide +kernel
theorem dX9_goesAll_66 : decode cX9_goesAll 66 = .ok (.bipush 9, 2) := by decide +kernel
theorem dX9_goesAll_68 : decode cX9_goesAll 68 = .ok (.if_icmp .ge 17, 3) := by decide +kernel
theorem dX9_goesAll_71 : decode cX9_goesAll 71 = .ok (.aload_n 0, 1) := by decide +kernel
theorem dX9_goesAll_72 : decode cX9_goesAll 72 = .ok (.getfield 65, 3) := by decide +kernel
theorem dX9_goesAll_75 : decode cX9_goesAll 75 = .ok (.iload 4, 2) := by decide +kernel
theorem dX9_goesAll_77 : decode cX9_goesAll 77 = .ok (.iconst 0, 1) := by decide +kernel
theorem dX9_goesAll_78 : decode cX9_goesAll 78 = .ok (.iastore, 1) := by decide +kernel
theorem dX9_goesAll_79 : decode cX9_goesAll 79 = .ok (.iinc 4 1, 3) := by decide +kernel
theorem dX9_goesAll_82 : decode cX9_goesAll 82 = .ok (.goto (-18), 3) := by decide +kernel
theorem dX9_goesAll_85 : decode cX9_goesAll 85 = .ok (.aload_n 0, 1) := by decide +kernel
theorem dX9_goesAll_86 : decode cX9_goesAll 86 = .ok (.iconst 0, 1) := by decide +kernel
theorem dX9_goesAll_87 : decode cX9_goesAll 87 = .ok (.putfield 319, 3) := by decide +kernel
theorem dX9_goesAll_90 : decode cX9_goesAll 90 = .ok (.aload_n 0, 1) := by decide +kernel
theorem dX9_goesAll_91 : decode cX9_goesAll 91 = .ok (.sipush 511, 3) := by decide +kernel
theorem dX9_goesAll_94 : decode cX9_goesAll 94 = .ok (.putfield 322, 3) := by decide +kernel
theorem dX9_goesAll_97 : decode cX9_goesAll 97 = .ok (.aload_n 0, 1) := by decide +kernel
theorem dX9_goesAll_98 : decode cX9_goesAll 98 = .ok (.iconst 0, 1) := by decide +kernel
theorem dX9_goesAll_99 : decode cX9_goesAll 99 = .ok (.putfield 325, 3) := by decide +kernel
theorem dX9_goesAll_102 : decode cX9_goesAll 102 = .ok (.aload_n 0, 1) := by decide +kernel
theorem dX9_goesAll_103 : decode cX9_goesAll 103 = .ok (.iconst 0, 1) := by decide +kernel
theorem dX9_goesAll_104 : decode cX9_goesAll 104 = .ok (.putfield 328, 3) := by decide +kernel
theorem dX9_goesAll_107 : decode cX9_goesAll 107 = .ok (.aload_n 0, 1) := by decide +kernel
theorem dX9_goesAll_108 : decode cX9_goesAll 108 = .ok (.invokevirtual 355, 3) := by decide +kernel
theorem dX9_goesAll_111 : decode cX9_goesAll 111 = .ok (.return_, 1) := by decide +kernel
set_option maxHeartbeats 4000000 in
set_option maxRecDepth 100000 in
theorem s_X9_goesAll (l : Launch) (D : va_G) (K : Nat → ClassId) (ad : Nat → Nat) (v ar : sI) (al : sL) (hI : YI v ar) (w_1 : Int) (hw_1 : 1 ≤ w_1 ∧ w_1 ≤ 3) (ew_1 : ar 7 0 = iI w_1) (z_1 : Int) (hz_1 : -2147483648 ≤ z_1 ∧ z_1 ≤ 2147483647) (z_2 : Int) (hz_2 : -2147483648 ≤ z_2 ∧ z_2 ≤ 2147483647) (z_3 : Int) (hz_3 : -1 ≤ z_3 ∧ z_3 ≤ 3) (hft : FTv z_3 (ar 2) (al 3)) : Met l yX9_goesAll (wM yX9_goesAll cX9_goesAll 5 none) (rmD 14) (va_Pc [.ref (ad 0), .int (iI (z_1)), .int (iI (z_2)), .int (iI (z_3))] (wPre D K ad (yG ad K) 21 v ar al)) (va_Qv (fun u : sT => YI u.1 u.2.1 ∧ (∀ i j : Nat, (i, j) ∉ ([(0, 24), (0, 25), (0, 26), (0, 27), (0, 29), (0, 30), (0, 31), (0, 32), (0, 33), (0, 37), (0, 38), (0, 39), (0, 40), (0, 41)] : List (Nat × Nat)) → u.1 i j = v i j) ∧ (∀ i : Nat, i ∉ ([12, 13, 14, 15, 16, 17] : List Nat) → u.2.1 i = ar i) ∧ (∀ i : Nat, i ∉ ([] : List Nat) → u.2.2 i = al i)) (wB D ad (yG ad K) 21) (inW ad 21)) 0 0 (inW ad 21) := by
  refine s_metV (by decide) (Nat.le_of_ble_eq_true rfl) ?_
  intro p e s m below meth c ls args Q hE hB hl kr
  have hE : CallFix p m c cX9_goesAll 5 s args tbG "TaleCourtModel" := hE
  obtain ⟨hP, hK, hN⟩ := hB
  have hS : va_S (inW ad 21) s.heap s.heap [] := va_S.rf
  have hl : lv_has ls 5 [(0, .ref (ad 0)), (1, .int (iI (z_1))), (2, .int (iI (z_2))), (3, .int (iI (z_3)))] := hl
  obtain ⟨z1, hz1, ez1⟩ := iI_of (ar 6 0)
  obtain ⟨z2, hz2, ez2⟩ := YI_h2 hI 2 (by decide)
  obtain ⟨z3, hz3, ez3⟩ := YI_h5 hI 5 (by decide)
  have ht0 := YI_t0 hI ez1 (by omega) ez2 (by omega) ez3 (by omega) ew_1 (by omega)
  refine lv_aload_n hE.1 hE.2.1 dX9_goesAll_0 rfl (lv_at hl 0 rfl) ?_
  refine x_vv (nn := 0) (As := []) (rest := []) hE hK hN hP hS (s_X9_lays_e l D K ad v ar al hI (z3) (by omega) ez3 (w_1) (by omega) ew_1 ) (x_recv hK hP 0 (by decide) (yG_9 rfl) rfl) rfl mw_1638 mw_1640 mw_69 mw_123 mw_1641 (by decide +kernel) ⟨by decide, by decide⟩ hl.1 rfl (Nat.le_of_ble_eq_true rfl) ⟨Nat.zero_le _, Nat.zero_le _⟩ dX9_goesAll_1 (fun v4 ar4 al4 H locs hq4 hP hS => ?_)
  obtain ⟨hI, hq4, hqa4, hql4, hp4, x4_1, x4_2, x4_3, hx4, ex4_1, ex4_2, ex4_3⟩ := hq4
  have hI : YI v4 ar4 := hI
  have hp4 : LY (ar 10) (w_1) (z3) (v4 0 25).toInt (ar4 12) (ar4 14) := hp4
  have hly4 := LY_n hp4 ex4_2 (by omega)
  refine lv_aload_n hE.1 hE.2.1 dX9_goesAll_4 rfl (lv_at hl 0 rfl) ?_
  refine lv_iload_n hE.1 hE.2.1 dX9_goesAll_5 rfl (lv_at hl 1 rfl) ?_
  refine x_put (x := iI (z_1)) hE hK hN hP hS 0 (by decide) (yG_9 rfl) rfl hin9 tyX9 tyX9_ok nmX9 29 (by decide) mw_1363 rfl rfl rfl (Nat.le_of_ble_eq_true rfl) (yG_9 rfl) dX9_goesAll_6 (fun v5 H locs hv5 hP hS => ?_)
  have hI := YI_putN hI hv5 (by decide)
  refine lv_aload_n hE.1 hE.2.1 dX9_goesAll_9 rfl (lv_at hl 0 rfl) ?_
  refine lv_iload_n hE.1 hE.2.1 dX9_goesAll_10 rfl (lv_at hl 2 rfl) ?_
  refine x_put (x := iI (z_2)) hE hK hN hP hS 0 (by decide) (yG_9 rfl) rfl hin9 tyX9 tyX9_ok nmX9 30 (by decide) mw_1364 rfl rfl rfl (Nat.le_of_ble_eq_true rfl) (yG_9 rfl) dX9_goesAll_11 (fun v6 H locs hv6 hP hS => ?_)
  have hI := YI_putN hI hv6 (by decide)
  refine lv_aload_n hE.1 hE.2.1 dX9_goesAll_14 rfl (lv_at hl 0 rfl) ?_
  refine lv_iload_n hE.1 hE.2.1 dX9_goesAll_15 rfl (lv_at hl 3 rfl) ?_
  refine x_put (x := iI (z_3)) hE hK hN hP hS 0 (by decide) (yG_9 rfl) rfl hin9 tyX9 tyX9_ok nmX9 41 (by decide) mw_1375 rfl rfl rfl (Nat.le_of_ble_eq_true rfl) (yG_9 rfl) dX9_goesAll_16 (fun v7 H locs hv7 hP hS => ?_)
  have hI := YI_putB (z := z_3) hI hv7 (-1) 3 (by omega) (by decide) (by omega)
  refine lv_aload_n hE.1 hE.2.1 dX9_goesAll_19 rfl (lv_at hl 0 rfl) ?_
  refine lv_aload_n hE.1 hE.2.1 dX9_goesAll_20 rfl (lv_at hl 0 rfl) ?_
  refine x_get (x := .int (v7 0 24)) hE hK hP 0 (by decide) (yG_9 rfl) rfl hin9 24 (by decide) mw_1358 rfl dX9_goesAll_21 ?_
  refine x_top (y := iI (x4_1)) ((up_oth hv7 (by decide)).trans ((up_oth hv6 (by decide)).trans ((up_oth hv5 (by decide)).trans ex4_1))) ?_
  refine x_put (x := iI (x4_1)) hE hK hN hP hS 0 (by decide) (yG_9 rfl) rfl hin9 tyX9 tyX9_ok nmX9 31 (by decide) mw_1365 rfl rfl rfl (Nat.le_of_ble_eq_true rfl) (yG_9 rfl) dX9_goesAll_24 (fun v8 H locs hv8 hP hS => ?_)
  have hI := YI_putB (z := x4_1) hI hv8 0 18 (by omega) (by decide) (by omega)
  refine lv_aload_n hE.1 hE.2.1 dX9_goesAll_27 rfl (lv_at hl 0 rfl) ?_
  refine lv_iconst (v := iI (0)) hE.1 hE.2.1 dX9_goesAll_28 (by decide) ?_
  refine x_put (x := iI (0)) hE hK hN hP hS 0 (by decide) (yG_9 rfl) rfl hin9 tyX9 tyX9_ok nmX9 32 (by decide) mw_1366 rfl rfl rfl (Nat.le_of_ble_eq_true rfl) (yG_9 rfl) dX9_goesAll_29 (fun v9 H locs hv9 hP hS => ?_)
  have hI := YI_putN hI hv9 (by decide)
  refine lv_aload_n hE.1 hE.2.1 dX9_goesAll_32 rfl (lv_at hl 0 rfl) ?_
  refine lv_iconst (v := iI (-1)) hE.1 hE.2.1 dX9_goesAll_33 (by decide) ?_
  refine x_put (x := iI (-1)) hE hK hN hP hS 0 (by decide) (yG_9 rfl) rfl hin9 tyX9 tyX9_ok nmX9 33 (by decide) mw_1367 rfl rfl rfl (Nat.le_of_ble_eq_true rfl) (yG_9 rfl) dX9_goesAll_34 (fun v10 H locs hv10 hP hS => ?_)
  have hI := YI_putB (z := -1) hI hv10 (-1) 9 (by omega) (by decide) (by omega)
  refine lv_iconst (v := iI (0)) hE.1 hE.2.1 dX9_goesAll_37 (by decide) ?_
  refine lv_istore (lv' := [(4, .int (iI (0))), (0, .ref (ad 0)), (1, .int (iI (z_1))), (2, .int (iI (z_2))), (3, .int (iI (z_3)))]) hE.1 hE.2.1 dX9_goesAll_38 hl (by decide) rfl (fun ls hl => ?_)
  have loop11 : ∀ (k11 : Nat) (y11_4 : Int) (vl11 arl11 : sI) (all11 : sL) (H : Heap) (locs : List Loc) (ls : Array Slot), (10 - y11_4).toNat = k11 → (0 ≤ y11_4 ∧ y11_4 ≤ 10) → YI vl11 arl11 → (∀ i j : Nat, (i, j) ∉ ([] : List (Nat × Nat)) → vl11 i j = v10 i j) → (∀ i : Nat, i ∉ ([16] : List Nat) → arl11 i = ar4 i) → (∀ i : Nat, i ∉ ([] : List Nat) → all11 i = al4 i) → va_P D xcl (wW ad (yG ad K) 21 vl11 arl11 all11) H → va_S (inW ad 21) s.heap H locs → lv_has ls 5 [(4, .int (iI (y11_4))), (0, .ref (ad 0)), (1, .int (iI (z_1))), (2, .int (iI (z_2))), (3, .int (iI (z_3)))] → W p l e (rmD 14) s m args below meth c H locs 0 0 Q (F0 m 40 ls []) := by
    intro k11
    induction k11 using Nat.strongRecOn with
    | _ k11 ih11 =>
      intro y11_4  vl11 arl11 all11 H locs ls hk11 hb_y11_4 hI hfr11 hfa11 hfl11 hP hS hl
      refine lv_iload hE.1 hE.2.1 dX9_goesAll_40 (lv_at hl 0 rfl) ?_
      refine lv_bipush (v := iI (10)) hE.1 hE.2.1 dX9_goesAll_42 (by decide) ?_
      refine s_icmp_ge (a := y11_4) (b := 10) (tgt := 61) hE.1 hE.2.1 (by omega) (by omega) dX9_goesAll_44 (by decide) (fun c12 => ?_) (fun c12 => ?_)
      · skip
        refine lv_iconst (v := iI (0)) hE.1 hE.2.1 dX9_goesAll_61 (by decide) ?_
        refine lv_istore (lv' := [(4, .int (iI (0))), (0, .ref (ad 0)), (1, .int (iI (z_1))), (2, .int (iI (z_2))), (3, .int (iI (z_3)))]) hE.1 hE.2.1 dX9_goesAll_62 hl (by decide) rfl (fun ls hl => ?_)
        have loop13 : ∀ (k13 : Nat) (y13_4 : Int) (vl13 arl13 : sI) (all13 : sL) (H : Heap) (locs : List Loc) (ls : Array Slot), (9 - y13_4).toNat = k13 → (0 ≤ y13_4 ∧ y13_4 ≤ 9) → YI vl13 arl13 → (∀ i j : Nat, (i, j) ∉ ([] : List (Nat × Nat)) → vl13 i j = vl11 i j) → (∀ i : Nat, i ∉ ([17] : List Nat) → arl13 i = arl11 i) → (∀ i : Nat, i ∉ ([] : List Nat) → all13 i = all11 i) → va_P D xcl (wW ad (yG ad K) 21 vl13 arl13 all13) H → va_S (inW ad 21) s.heap H locs → lv_has ls 5 [(4, .int (iI (y13_4))), (0, .ref (ad 0)), (1, .int (iI (z_1))), (2, .int (iI (z_2))), (3, .int (iI (z_3)))] → W p l e (rmD 14) s m args below meth c H locs 0 0 Q (F0 m 64 ls []) := by
          intro k13
          induction k13 using Nat.strongRecOn with
          | _ k13 ih13 =>
            intro y13_4  vl13 arl13 all13 H locs ls hk13 hb_y13_4 hI hfr13 hfa13 hfl13 hP hS hl
            refine lv_iload hE.1 hE.2.1 dX9_goesAll_64 (lv_at hl 0 rfl) ?_
            refine lv_bipush (v := iI (9)) hE.1 hE.2.1 dX9_goesAll_66 (by decide) ?_
            refine s_icmp_ge (a := y13_4) (b := 9) (tgt := 85) hE.1 hE.2.1 (by omega) (by omega) dX9_goesAll_68 (by decide) (fun c14 => ?_) (fun c14 => ?_)
            · skip
              refine lv_aload_n hE.1 hE.2.1 dX9_goesAll_85 rfl (lv_at hl 1 rfl) ?_
              refine lv_iconst (v := iI (0)) hE.1 hE.2.1 dX9_goesAll_86 (by decide) ?_
              refine x_put (x := iI (0)) hE hK hN hP hS 0 (by decide) (yG_9 rfl) rfl hin9 tyX9 tyX9_ok nmX9 37 (by decide) mw_1371 rfl rfl rfl (Nat.le_of_ble_eq_true rfl) (yG_9 rfl) dX9_goesAll_87 (fun v15 H locs hv15 hP hS => ?_)
              have hI := YI_putN hI hv15 (by decide)
              refine lv_aload_n hE.1 hE.2.1 dX9_goesAll_90 rfl (lv_at hl 1 rfl) ?_
              refine lv_sipush (v := iI (511)) hE.1 hE.2.1 dX9_goesAll_91 (by decide) ?_
              refine x_put (x := iI (511)) hE hK hN hP hS 0 (by decide) (yG_9 rfl) rfl hin9 tyX9 tyX9_ok nmX9 38 (by decide) mw_1372 rfl rfl rfl (Nat.le_of_ble_eq_true rfl) (yG_9 rfl) dX9_goesAll_94 (fun v16 H locs hv16 hP hS => ?_)
              have hI := YI_putN hI hv16 (by decide)
              refine lv_aload_n hE.1 hE.2.1 dX9_goesAll_97 rfl (lv_at hl 1 rfl) ?_
              refine lv_iconst (v := iI (0)) hE.1 hE.2.1 dX9_goesAll_98 (by decide) ?_
              refine x_put (x := iI (0)) hE hK hN hP hS 0 (by decide) (yG_9 rfl) rfl hin9 tyX9 tyX9_ok nmX9 39 (by decide) mw_1373 rfl rfl rfl (Nat.le_of_ble_eq_true rfl) (yG_9 rfl) dX9_goesAll_99 (fun v17 H locs hv17 hP hS => ?_)
              have hI := YI_putN hI hv17 (by decide)
              refine lv_aload_n hE.1 hE.2.1 dX9_goesAll_102 rfl (lv_at hl 1 rfl) ?_
              refine lv_iconst (v := iI (0)) hE.1 hE.2.1 dX9_goesAll_103 (by decide) ?_
              refine x_put (x := iI (0)) hE hK hN hP hS 0 (by decide) (yG_9 rfl) rfl hin9 tyX9 tyX9_ok nmX9 40 (by decide) mw_1374 rfl rfl rfl (Nat.le_of_ble_eq_true rfl) (yG_9 rfl) dX9_goesAll_104 (fun v18 H locs hv18 hP hS => ?_)
              have hI := YI_putN hI hv18 (by decide)
              refine lv_aload_n hE.1 hE.2.1 dX9_goesAll_107 rfl (lv_at hl 1 rfl) ?_
              have hpl19 := pc_le (x4_2)
              refine x_vv (nn := 0) (As := []) (rest := []) hE hK hN hP hS (s_X9_goes l D K ad 9 v18 arl13 all13 hI (x4_1) (by omega) ((up_oth hv18 (by decide)).trans ((up_oth hv17 (by decide)).trans ((up_oth hv16 (by decide)).trans ((up_oth hv15 (by decide)).trans ((hfr13 0 24 (by decide)).trans ((hfr11 0 24 (by decide)).trans ((up_oth hv10 (by decide)).trans ((up_oth hv9 (by decide)).trans ((up_oth hv8 (by decide)).trans ((up_oth hv7 (by decide)).trans ((up_oth hv6 (by decide)).trans ((up_oth hv5 (by decide)).trans ex4_1)))))))))))) (x4_2) (by omega) ((up_oth hv18 (by decide)).trans ((up_oth hv17 (by decide)).trans ((up_oth hv16 (by decide)).trans ((up_oth hv15 (by decide)).trans ((hfr13 0 25 (by decide)).trans ((hfr11 0 25 (by decide)).trans ((up_oth hv10 (by decide)).trans ((up_oth hv9 (by decide)).trans ((up_oth hv8 (by decide)).trans ((up_oth hv7 (by decide)).trans ((up_oth hv6 (by decide)).trans ((up_oth hv5 (by decide)).trans ex4_2)))))))))))) (x4_3) (by omega) ((up_oth hv18 (by decide)).trans ((up_oth hv17 (by decide)).trans ((up_oth hv16 (by decide)).trans ((up_oth hv15 (by decide)).trans ((hfr13 0 26 (by decide)).trans ((hfr11 0 26 (by decide)).trans ((up_oth hv10 (by decide)).trans ((up_oth hv9 (by decide)).trans ((up_oth hv8 (by decide)).trans ((up_oth hv7 (by decide)).trans ((up_oth hv6 (by decide)).trans ((up_oth hv5 (by decide)).trans ex4_3)))))))))))) (x4_1) (by omega) ((up_oth hv18 (by decide)).trans ((up_oth hv17 (by decide)).trans ((up_oth hv16 (by decide)).trans ((up_oth hv15 (by decide)).trans ((hfr13 0 31 (by decide)).trans ((hfr11 0 31 (by decide)).trans ((up_oth hv10 (by decide)).trans ((up_oth hv9 (by decide)).trans (up_eq hv8))))))))) (z_3) (by omega) ((up_oth hv18 (by decide)).trans ((up_oth hv17 (by decide)).trans ((up_oth hv16 (by decide)).trans ((up_oth hv15 (by decide)).trans ((hfr13 0 41 (by decide)).trans ((hfr11 0 41 (by decide)).trans ((up_oth hv10 (by decide)).trans ((up_oth hv9 (by decide)).trans ((up_oth hv8 (by decide)).trans (up_eq hv7)))))))))) (w_1) (by omega) ((congrFun (hfa13 7 (by decide)) 0).trans ((congrFun (hfa11 7 (by decide)) 0).trans ((congrFun (hqa4 7 (by decide)) 0).trans ew_1)))  (by omega) (FTv_tr hft ((hfa13 2 (by decide)).trans ((hfa11 2 (by decide)).trans (hqa4 2 (by decide)))) ((hfl13 3 (by decide)).trans ((hfl11 3 (by decide)).trans (hql4 3 (by decide)))) (by omega)) (by omega)) (x_recv hK hP 0 (by decide) (yG_9 rfl) rfl) rfl mw_1802 mw_1804 mw_86 mw_123 mw_1805 (by decide +kernel) ⟨by decide, by decide⟩ hl.1 rfl (Nat.le_of_ble_eq_true rfl) ⟨Nat.zero_le _, Nat.zero_le _⟩ dX9_goesAll_108 (fun v20 ar20 al20 H locs hq20 hP hS => ?_)
              obtain ⟨hI, hq20, hqa20, hql20, hp20⟩ := hq20
              have hI : YI v20 ar20 := hI
              have hp20 : NW (x4_1) (arl13 12) (ar20 12) ∧ v20 0 24 = iI (x4_1) ∧ v20 0 25 = iI (x4_2) := hp20
              exact kr v20 ar20 al20 _ _ _ _ ⟨hI, fun i j h => ((hq20 i j (fun q => h (mem_sub (by decide) q))).trans ((up_oth hv18 (fun q => h (by rcases q with ⟨rfl, rfl⟩; decide))).trans ((up_oth hv17 (fun q => h (by rcases q with ⟨rfl, rfl⟩; decide))).trans ((up_oth hv16 (fun q => h (by rcases q with ⟨rfl, rfl⟩; decide))).trans ((up_oth hv15 (fun q => h (by rcases q with ⟨rfl, rfl⟩; decide))).trans ((hfr13 i j (fun q => h (mem_sub (by decide) q))).trans ((hfr11 i j (fun q => h (mem_sub (by decide) q))).trans ((up_oth hv10 (fun q => h (by rcases q with ⟨rfl, rfl⟩; decide))).trans ((up_oth hv9 (fun q => h (by rcases q with ⟨rfl, rfl⟩; decide))).trans ((up_oth hv8 (fun q => h (by rcases q with ⟨rfl, rfl⟩; decide))).trans ((up_oth hv7 (fun q => h (by rcases q with ⟨rfl, rfl⟩; decide))).trans ((up_oth hv6 (fun q => h (by rcases q with ⟨rfl, rfl⟩; decide))).trans ((up_oth hv5 (fun q => h (by rcases q with ⟨rfl, rfl⟩; decide))).trans (hq4 i j (fun q => h (mem_sub (by decide) q)))))))))))))))), fun i h => ((hqa20 i (fun q => h (mem_subn (by decide) q))).trans ((hfa13 i (fun q => h (mem_subn (by decide) q))).trans ((hfa11 i (fun q => h (mem_subn (by decide) q))).trans (hqa4 i (fun q => h (mem_subn (by decide) q)))))), fun i h => ((hql20 i (fun q => h (mem_subn (by decide) q))).trans ((hfl13 i (fun q => h (mem_subn (by decide) q))).trans ((hfl11 i (fun q => h (mem_subn (by decide) q))).trans (hql4 i (fun q => h (mem_subn (by decide) q))))))⟩ hP hS dX9_goesAll_111
            · skip
              refine lv_aload_n hE.1 hE.2.1 dX9_goesAll_71 rfl (lv_at hl 1 rfl) ?_
              refine x_get (x := .ref (ad 17)) hE hK hP 0 (by decide) (yG_9 rfl) rfl hin9 36 (by decide) mw_1370 rfl dX9_goesAll_72 ?_
              refine lv_iload hE.1 hE.2.1 dX9_goesAll_75 (lv_at hl 0 rfl) ?_
              refine lv_iconst (v := iI (0)) hE.1 hE.2.1 dX9_goesAll_77 (by decide) ?_
              refine x_iast (j := iI (y13_4)) hE hK hN hP hS 17 (by decide) (fun _ => yG_10 rfl) (iI_in (n := 9) (by omega)) dX9_goesAll_78 (fun ar21 H locs ha21 hP hS => ?_)
              have hI := YI_ast hI ha21 (by decide)
              refine lv_iinc (v := iI (y13_4 + 1)) (lv' := [(4, .int (iI (y13_4 + 1))), (0, .ref (ad 0)), (1, .int (iI (z_1))), (2, .int (iI (z_2))), (3, .int (iI (z_3)))]) hE.1 hE.2.1 dX9_goesAll_79 hl (k := 0) rfl ((iI_add (y13_4) (1)).trans (congrArg iI (by omega))) (by decide) rfl (fun ls hl => ?_)
              refine lv_goto (tgt := 64) hE.1 hE.2.1 dX9_goesAll_82 (by decide) ?_
              exact ih13 _ (by omega) (y13_4 + 1)  vl13 ar21 all13 _ _ _ rfl (by omega)  hI (fun i j h => (hfr13 i j h)) (fun i h => ((upx_ne ha21 i (fun q => h (by rw [q]; decide))).trans (hfa13 i h))) (fun i h => (hfl13 i h)) hP hS (lv_sub hl [0, 1, 2, 3, 4] rfl)
        exact loop13 _ (0)  vl11 arl11 all11 _ _ _ rfl (by omega)  hI (fun _ _ _ => rfl) (fun _ _ => rfl) (fun _ _ => rfl) hP hS hl
      · skip
        refine lv_aload_n hE.1 hE.2.1 dX9_goesAll_47 rfl (lv_at hl 1 rfl) ?_
        refine x_get (x := .ref (ad 16)) hE hK hP 0 (by decide) (yG_9 rfl) rfl hin9 35 (by decide) mw_1369 rfl dX9_goesAll_48 ?_
        refine lv_iload hE.1 hE.2.1 dX9_goesAll_51 (lv_at hl 0 rfl) ?_
        refine lv_iconst (v := iI (0)) hE.1 hE.2.1 dX9_goesAll_53 (by decide) ?_
        refine x_iast (j := iI (y11_4)) hE hK hN hP hS 16 (by decide) (fun _ => yG_10 rfl) (iI_in (n := 10) (by omega)) dX9_goesAll_54 (fun ar22 H locs ha22 hP hS => ?_)
        have hI := YI_ast hI ha22 (by decide)
        refine lv_iinc (v := iI (y11_4 + 1)) (lv' := [(4, .int (iI (y11_4 + 1))), (0, .ref (ad 0)), (1, .int (iI (z_1))), (2, .int (iI (z_2))), (3, .int (iI (z_3)))]) hE.1 hE.2.1 dX9_goesAll_55 hl (k := 0) rfl ((iI_add (y11_4) (1)).trans (congrArg iI (by omega))) (by decide) rfl (fun ls hl => ?_)
        refine lv_goto (tgt := 40) hE.1 hE.2.1 dX9_goesAll_58 (by decide) ?_
        exact ih11 _ (by omega) (y11_4 + 1)  vl11 ar22 all11 _ _ _ rfl (by omega)  hI (fun i j h => (hfr11 i j h)) (fun i h => ((upx_ne ha22 i (fun q => h (by rw [q]; decide))).trans (hfa11 i h))) (fun i h => (hfl11 i h)) hP hS (lv_sub hl [0, 1, 2, 3, 4] rfl)
  exact loop11 _ (0)  v10 ar4 al4 _ _ _ rfl (by omega)  hI (fun _ _ _ => rfl) (fun _ _ => rfl) (fun _ _ => rfl) hP hS hl

theorem dX9_longest_0 : decode cX9_longest 0 = .ok (.aload_n 0, 1) := by decide +kernel
theorem dX9_longest_1 : decode cX9_longest 1 = .ok (.iconst 0, 1) := by decide +kernel
theorem dX9_longest_2 : decode cX9_longest 2 = .ok (.putfield 81, 3) := by decide +kernel
theorem dX9_longest_5 : decode cX9_longest 5 = .ok (.aload_n 0, 1) := by decide +kernel
theorem dX9_longest_6 : decode cX9_longest 6 = .ok (.invokevirtual 301, 3) := by decide +kernel
theorem dX9_longest_9 : decode cX9_longest 9 = .ok (.ifCond .ne 6, 3) := by decide +kernel
theorem dX9_longest_12 : decode cX9_longest 12 = .ok (.bipush (-2), 2) := by decide +kernel
theorem dX9_longest_14 : decode cX9_longest 14 = .ok (.ireturn, 1) := by decide +kernel
theorem dX9_longest_15 : decode cX9_longest 15 = .ok (.aload_n 0, 1) := by decide +kernel
theorem dX9_longest_16 : decode cX9_longest 16 = .ok (.iconst 0, 1) := by decide +kernel
theorem dX9_longest_17 : decode cX9_longest 17 = .ok (.iconst 0, 1) := by decide +kernel
theorem dX9_longest_18 : decode cX9_longest 18 = .ok (.iconst (-1), 1) := by decide +kernel
theorem dX9_longest_19 : decode cX9_longest 19 = .ok (.invokevirtual 361, 3) := by decide +kernel
theorem dX9_longest_22 : decode cX9_longest 22 = .ok (.aload_n 0, 1) := by decide +kernel
theorem dX9_longest_23 : decode cX9_longest 23 = .ok (.getfield 343, 3) := by decide +kernel
theorem dX9_longest_26 : decode cX9_longest 26 = .ok (.ireturn, 1) := by decide +kernel
set_option maxHeartbeats 4000000 in
set_option maxRecDepth 100000 in
theorem s_X9_longest (l : Launch) (D : va_G) (K : Nat → ClassId) (ad : Nat → Nat) (v ar : sI) (al : sL) (hI : YI v ar) : Met l yX9_longest (wM yX9_longest cX9_longest 1 (some .int)) (rmD 15) (va_Pc [.ref (ad 0)] (wPre D K ad (yG ad K) 21 v ar al)) (va_Qi (fun (r : Int32) (u : sT) => (∃ z : Int, (-2147483648 ≤ z ∧ z ≤ 2147483647) ∧ r = iI z) ∧ YI u.1 u.2.1 ∧ (∀ i j : Nat, (i, j) ∉ ([(0, 0), (0, 24), (0, 25), (0, 26), (0, 27), (0, 29), (0, 30), (0, 31), (0, 32), (0, 33), (0, 37), (0, 38), (0, 39), (0, 40), (0, 41)] : List (Nat × Nat)) → u.1 i j = v i j) ∧ (∀ i : Nat, i ∉ ([12, 13, 14, 15, 16, 17] : List Nat) → u.2.1 i = ar i) ∧ (∀ i : Nat, i ∉ ([] : List Nat) → u.2.2 i = al i)) (wB D ad (yG ad K) 21) (inW ad 21)) 0 0 (inW ad 21) := by
  refine s_metI (by decide) (Nat.le_of_ble_eq_true rfl) ?_
  intro p e s m below meth c ls args Q hE hB hl kr
  have hE : CallFix p m c cX9_longest 1 s args tbG "TaleCourtModel" := hE
  obtain ⟨hP, hK, hN⟩ := hB
  have hS : va_S (inW ad 21) s.heap s.heap [] := va_S.rf
  have hl : lv_has ls 1 [(0, .ref (ad 0))] := hl
  obtain ⟨z1, hz1, ez1⟩ := iI_of (ar 6 0)
  obtain ⟨z2, hz2, ez2⟩ := YI_h2 hI 2 (by decide)
  obtain ⟨z3, hz3, ez3⟩ := YI_h5 hI 5 (by decide)
  obtain ⟨z4, hz4, ez4⟩ := YI_h0 hI 0 (by decide)
  have ht0 := YI_t0 hI ez1 (by omega) ez2 (by omega) ez3 (by omega) ez4 (by omega)
  refine lv_aload_n hE.1 hE.2.1 dX9_longest_0 rfl (lv_at hl 0 rfl) ?_
  refine lv_iconst (v := iI (0)) hE.1 hE.2.1 dX9_longest_1 (by decide) ?_
  refine x_put (x := iI (0)) hE hK hN hP hS 0 (by decide) (yG_9 rfl) rfl hin9 tyX9 tyX9_ok nmX9 0 (by decide) mw_1334 rfl rfl rfl (Nat.le_of_ble_eq_true rfl) (yG_9 rfl) dX9_longest_2 (fun v5 H locs hv5 hP hS => ?_)
  have hI := YI_putN hI hv5 (by decide)
  refine lv_aload_n hE.1 hE.2.1 dX9_longest_5 rfl (lv_at hl 0 rfl) ?_
  refine x_vp (nn := 0) (As := []) (rest := []) hE (s_X9_isCourt l D K ad v5 ar al hI (z1) (by omega) ez1 ) wPre_blind (wPre_now hK hN hP) (x_recv hK hP 0 (by decide) (yG_9 rfl) rfl) rfl mw_1718 mw_1720 mw_79 mw_123 mw_1721 (by decide +kernel) ⟨by decide, by decide⟩ hl.1 rfl (Nat.le_of_ble_eq_true rfl) ⟨Nat.zero_le _, Nat.zero_le _⟩ dX9_longest_6 (fun r6 hr6 => ?_)
  obtain ⟨z6, hz6, rfl⟩ := hr6
  refine s_if_ne (a := z6) (tgt := 15) hE.1 hE.2.1 (by omega) dX9_longest_9 (by decide) (fun c7 => ?_) (fun c7 => ?_)
  · skip
    refine lv_aload_n hE.1 hE.2.1 dX9_longest_15 rfl (lv_at hl 0 rfl) ?_
    refine lv_iconst (v := iI (0)) hE.1 hE.2.1 dX9_longest_16 (by decide) ?_
    refine lv_iconst (v := iI (0)) hE.1 hE.2.1 dX9_longest_17 (by decide) ?_
    refine lv_iconst (v := iI (-1)) hE.1 hE.2.1 dX9_longest_18 (by decide) ?_
    refine x_vv (nn := 3) (As := [.int (iI (0)), .int (iI (0)), .int (iI (-1))]) (rest := []) hE hK hN hP hS (s_X9_goesAll l D K ad v5 ar al hI (z4) (by omega) ez4 (0) (by omega) (0) (by omega) (-1) (by omega) (Or.inl rfl)) (x_recv hK hP 0 (by decide) (yG_9 rfl) rfl) rfl mw_1798 mw_1800 mw_85 mw_123 mw_1801 (by decide +kernel) ⟨by decide, by decide⟩ hl.1 rfl (Nat.le_of_ble_eq_true rfl) ⟨Nat.zero_le _, Nat.zero_le _⟩ dX9_longest_19 (fun v8 ar8 al8 H locs hq8 hP hS => ?_)
    obtain ⟨hI, hq8, hqa8, hql8⟩ := hq8
    have hI : YI v8 ar8 := hI
    refine lv_aload_n hE.1 hE.2.1 dX9_longest_22 rfl (lv_at hl 0 rfl) ?_
    obtain ⟨z9, hz9, ez9⟩ := YI_get hI 0 33 (-1) 9 (by decide)
    refine x_get (x := .int (v8 0 33)) hE hK hP 0 (by decide) (yG_9 rfl) rfl hin9 33 (by decide) mw_1367 rfl dX9_longest_23 ?_
    refine x_top (y := iI (z9)) ez9 ?_
    exact kr _ v8 ar8 al8 _ _ _ _ rfl ⟨⟨z9, by omega, rfl⟩, hI, fun i j h => ((hq8 i j (fun q => h (mem_sub (by decide) q))).trans (up_oth hv5 (fun q => h (by rcases q with ⟨rfl, rfl⟩; decide)))), fun i h => (hqa8 i (fun q => h (mem_subn (by decide) q))), fun i h => (hql8 i (fun q => h (mem_subn (by decide) q)))⟩ hP hS dX9_longest_26
  · skip
    refine lv_bipush (v := iI (-2)) hE.1 hE.2.1 dX9_longest_12 (by decide) ?_
    exact kr _ v5 ar al _ _ _ _ rfl ⟨⟨-2, by omega, rfl⟩, hI, fun i j h => (up_oth hv5 (fun q => h (by rcases q with ⟨rfl, rfl⟩; decide))), fun i h => rfl, fun i h => rfl⟩ hP hS dX9_longest_14

theorem dX9_full_0 : decode cX9_full 0 = .ok (.aload_n 0, 1) := by decide +kernel
theorem dX9_full_1 : decode cX9_full 1 = .ok (.iconst 0, 1) := by decide +kernel
theorem dX9_full_2 : decode cX9_full 2 = .ok (.putfield 81, 3) := by decide +kernel
theorem dX9_full_5 : decode cX9_full 5 = .ok (.aload_n 0, 1) := by decide +kernel
theorem dX9_full_6 : decode cX9_full 6 = .ok (.invokevirtual 301, 3) := by decide +kernel
theorem dX9_full_9 : decode cX9_full 9 = .ok (.ifCond .ne 6, 3) := by decide +kernel
theorem dX9_full_12 : decode cX9_full 12 = .ok (.bipush (-2), 2) := by decide +kernel
theorem dX9_full_14 : decode cX9_full 14 = .ok (.ireturn, 1) := by decide +kernel
theorem dX9_full_15 : decode cX9_full 15 = .ok (.aload_n 0, 1) := by decide +kernel
theorem dX9_full_16 : decode cX9_full 16 = .ok (.iconst 1, 1) := by decide +kernel
theorem dX9_full_17 : decode cX9_full 17 = .ok (.iconst 0, 1) := by decide +kernel
theorem dX9_full_18 : decode cX9_full 18 = .ok (.iconst (-1), 1) := by decide +kernel
theorem dX9_full_19 : decode cX9_full 19 = .ok (.invokevirtual 361, 3) := by decide +kernel
theorem dX9_full_22 : decode cX9_full 22 = .ok (.aload_n 0, 1) := by decide +kernel
theorem dX9_full_23 : decode cX9_full 23 = .ok (.getfield 343, 3) := by decide +kernel
theorem dX9_full_26 : decode cX9_full 26 = .ok (.ireturn, 1) := by decide +kernel
set_option maxHeartbeats 4000000 in
set_option maxRecDepth 100000 in
theorem s_X9_full (l : Launch) (D : va_G) (K : Nat → ClassId) (ad : Nat → Nat) (v ar : sI) (al : sL) (hI : YI v ar) : Met l yX9_full (wM yX9_full cX9_full 1 (some .int)) (rmD 15) (va_Pc [.ref (ad 0)] (wPre D K ad (yG ad K) 21 v ar al)) (va_Qi (fun (r : Int32) (u : sT) => (∃ z : Int, (-2147483648 ≤ z ∧ z ≤ 2147483647) ∧ r = iI z) ∧ YI u.1 u.2.1 ∧ (∀ i j : Nat, (i, j) ∉ ([(0, 0), (0, 24), (0, 25), (0, 26), (0, 27), (0, 29), (0, 30), (0, 31), (0, 32), (0, 33), (0, 37), (0, 38), (0, 39), (0, 40), (0, 41)] : List (Nat × Nat)) → u.1 i j = v i j) ∧ (∀ i : Nat, i ∉ ([12, 13, 14, 15, 16, 17] : List Nat) → u.2.1 i = ar i) ∧ (∀ i : Nat, i ∉ ([] : List Nat) → u.2.2 i = al i)) (wB D ad (yG ad K) 21) (inW ad 21)) 0 0 (inW ad 21) := by
  refine s_metI (by decide) (Nat.le_of_ble_eq_true rfl) ?_
  intro p e s m below meth c ls args Q hE hB hl kr
  have hE : CallFix p m c cX9_full 1 s args tbG "TaleCourtModel" := hE
  obtain ⟨hP, hK, hN⟩ := hB
  have hS : va_S (inW ad 21) s.heap s.heap [] := va_S.rf
  have hl : lv_has ls 1 [(0, .ref (ad 0))] := hl
  obtain ⟨z1, hz1, ez1⟩ := iI_of (ar 6 0)
  obtain ⟨z2, hz2, ez2⟩ := YI_h2 hI 2 (by decide)
  obtain ⟨z3, hz3, ez3⟩ := YI_h5 hI 5 (by decide)
  obtain ⟨z4, hz4, ez4⟩ := YI_h0 hI 0 (by decide)
  have ht0 := YI_t0 hI ez1 (by omega) ez2 (by omega) ez3 (by omega) ez4 (by omega)
  refine lv_aload_n hE.1 hE.2.1 dX9_full_0 rfl (lv_at hl 0 rfl) ?_
  refine lv_iconst (v := iI (0)) hE.1 hE.2.1 dX9_full_1 (by decide) ?_
  refine x_put (x := iI (0)) hE hK hN hP hS 0 (by decide) (yG_9 rfl) rfl hin9 tyX9 tyX9_ok nmX9 0 (by decide) mw_1334 rfl rfl rfl (Nat.le_of_ble_eq_true rfl) (yG_9 rfl) dX9_full_2 (fun v5 H locs hv5 hP hS => ?_)
  have hI := YI_putN hI hv5 (by decide)
  refine lv_aload_n hE.1 hE.2.1 dX9_full_5 rfl (lv_at hl 0 rfl) ?_
  refine x_vp (nn := 0) (As := []) (rest := []) hE (s_X9_isCourt l D K ad v5 ar al hI (z1) (by omega) ez1 ) wPre_blind (wPre_now hK hN hP) (x_recv hK hP 0 (by decide) (yG_9 rfl) rfl) rfl mw_1718 mw_1720 mw_79 mw_123 mw_1721 (by decide +kernel) ⟨by decide, by decide⟩ hl.1 rfl (Nat.le_of_ble_eq_true rfl) ⟨Nat.zero_le _, Nat.zero_le _⟩ dX9_full_6 (fun r6 hr6 => ?_)
  obtain ⟨z6, hz6, rfl⟩ := hr6
  refine s_if_ne (a := z6) (tgt := 15) hE.1 hE.2.1 (by omega) dX9_full_9 (by decide) (fun c7 => ?_) (fun c7 => ?_)
  · skip
    refine lv_aload_n hE.1 hE.2.1 dX9_full_15 rfl (lv_at hl 0 rfl) ?_
    refine lv_iconst (v := iI (1)) hE.1 hE.2.1 dX9_full_16 (by decide) ?_
    refine lv_iconst (v := iI (0)) hE.1 hE.2.1 dX9_full_17 (by decide) ?_
    refine lv_iconst (v := iI (-1)) hE.1 hE.2.1 dX9_full_18 (by decide) ?_
    refine x_vv (nn := 3) (As := [.int (iI (1)), .int (iI (0)), .int (iI (-1))]) (rest := []) hE hK hN hP hS (s_X9_goesAll l D K ad v5 ar al hI (z4) (by omega) ez4 (1) (by omega) (0) (by omega) (-1) (by omega) (Or.inl rfl)) (x_recv hK hP 0 (by decide) (yG_9 rfl) rfl) rfl mw_1798 mw_1800 mw_85 mw_123 mw_1801 (by decide +kernel) ⟨by decide, by decide⟩ hl.1 rfl (Nat.le_of_ble_eq_true rfl) ⟨Nat.zero_le _, Nat.zero_le _⟩ dX9_full_19 (fun v8 ar8 al8 H locs hq8 hP hS => ?_)
    obtain ⟨hI, hq8, hqa8, hql8⟩ := hq8
    have hI : YI v8 ar8 := hI
    refine lv_aload_n hE.1 hE.2.1 dX9_full_22 rfl (lv_at hl 0 rfl) ?_
    obtain ⟨z9, hz9, ez9⟩ := YI_get hI 0 33 (-1) 9 (by decide)
    refine x_get (x := .int (v8 0 33)) hE hK hP 0 (by decide) (yG_9 rfl) rfl hin9 33 (by decide) mw_1367 rfl dX9_full_23 ?_
    refine x_top (y := iI (z9)) ez9 ?_
    exact kr _ v8 ar8 al8 _ _ _ _ rfl ⟨⟨z9, by omega, rfl⟩, hI, fun i j h => ((hq8 i j (fun q => h (mem_sub (by decide) q))).trans (up_oth hv5 (fun q => h (by rcases q with ⟨rfl, rfl⟩; decide)))), fun i h => (hqa8 i (fun q => h (mem_subn (by decide) q))), fun i h => (hql8 i (fun q => h (mem_subn (by decide) q)))⟩ hP hS dX9_full_26
  · skip
    refine lv_bipush (v := iI (-2)) hE.1 hE.2.1 dX9_full_12 (by decide) ?_
    exact kr _ v5 ar al _ _ _ _ rfl ⟨⟨-2, by omega, rfl⟩, hI, fun i j h => (up_oth hv5 (fun q => h (by rcases q with ⟨rfl, rfl⟩; decide))), fun i h => rfl, fun i h => rfl⟩ hP hS dX9_full_14

theorem dX9_bestAt_0 : decode cX9_bestAt 0 = .ok (.aload_n 0, 1) := by decide +kernel
theorem dX9_bestAt_1 : decode cX9_bestAt 1 = .ok (.getfield 343, 3) := by decide +kernel
theorem dX9_bestAt_4 : decode cX9_bestAt 4 = .ok (.iconst (-1), 1) := by decide +kernel
theorem dX9_bestAt_5 : decode cX9_bestAt 5 = .ok (.if_icmp .eq 28, 3) := by decide +kernel
theorem dX9_bestAt_8 : decode cX9_bestAt 8 = .ok (.iload_n 1, 1) := by decide +kernel
theorem dX9_bestAt_9 : decode cX9_bestAt 9 = .ok (.i2l, 1) := by decide +kernel
theorem dX9_bestAt_10 : decode cX9_bestAt 10 = .ok (.lconst 0, 1) := by decide +kernel
theorem dX9_bestAt_11 : decode cX9_bestAt 11 = .ok (.aload_n 0, 1) := by decide +kernel
theorem dX9_bestAt_12 : decode cX9_bestAt 12 = .ok (.getfield 343, 3) := by decide +kernel
theorem dX9_bestAt_15 : decode cX9_bestAt 15 = .ok (.iconst 1, 1) := by decide +kernel
theorem dX9_bestAt_16 : decode cX9_bestAt 16 = .ok (.isub, 1) := by decide +kernel
theorem dX9_bestAt_17 : decode cX9_bestAt 17 = .ok (.i2l, 1) := by decide +kernel
theorem dX9_bestAt_18 : decode cX9_bestAt 18 = .ok (.invokestatic 86, 3) := by decide +kernel
theorem dX9_bestAt_21 : decode cX9_bestAt 21 = .ok (.ifCond .eq 12, 3) := by decide +kernel
theorem dX9_bestAt_24 : decode cX9_bestAt 24 = .ok (.aload_n 0, 1) := by decide +kernel
theorem dX9_bestAt_25 : decode cX9_bestAt 25 = .ok (.getfield 59, 3) := by decide +kernel
theorem dX9_bestAt_28 : decode cX9_bestAt 28 = .ok (.iload_n 1, 1) := by decide +kernel
theorem dX9_bestAt_29 : decode cX9_bestAt 29 = .ok (.iaload, 1) := by decide +kernel
theorem dX9_bestAt_30 : decode cX9_bestAt 30 = .ok (.goto 4, 3) := by decide +kernel
theorem dX9_bestAt_33 : decode cX9_bestAt 33 = .ok (.iconst (-1), 1) := by decide +kernel
theorem dX9_bestAt_34 : decode cX9_bestAt 34 = .ok (.ireturn, 1) := by decide +kernel
set_option maxHeartbeats 4000000 in
set_option maxRecDepth 100000 in
theorem s_X9_bestAt (l : Launch) (D : va_G) (K : Nat → ClassId) (ad : Nat → Nat) (v ar : sI) (al : sL) (hI : YI v ar) (z_1 : Int) (hz_1 : -2147483648 ≤ z_1 ∧ z_1 ≤ 2147483647) : Met l yX9_bestAt (wM yX9_bestAt cX9_bestAt 2 (some .int)) (rmD 1) (va_Pc [.ref (ad 0), .int (iI (z_1))] (wPre D K ad (yG ad K) 21 v ar al)) (vp_Si (fun r => ∃ z : Int, (-2147483648 ≤ z ∧ z ≤ 2147483647) ∧ r = iI z)) 0 0 (fun _ => False) := by
  refine s_metP (by decide) (Nat.le_of_ble_eq_true rfl) ?_
  intro p e s m below meth c ls args Q hE hB hl kr
  have hE : CallFix p m c cX9_bestAt 2 s args tbG "TaleCourtModel" := hE
  obtain ⟨hP, hK, hN⟩ := hB
  have hl : lv_has ls 2 [(0, .ref (ad 0)), (1, .int (iI (z_1)))] := hl
  refine lv_aload_n hE.1 hE.2.1 dX9_bestAt_0 rfl (lv_at hl 0 rfl) ?_
  obtain ⟨z1, hz1, ez1⟩ := YI_get hI 0 33 (-1) 9 (by decide)
  refine x_get (x := .int (v 0 33)) hE hK hP 0 (by decide) (yG_9 rfl) rfl hin9 33 (by decide) mw_1367 rfl dX9_bestAt_1 ?_
  refine x_top (y := iI (z1)) ez1 ?_
  refine lv_iconst (v := iI (-1)) hE.1 hE.2.1 dX9_bestAt_4 (by decide) ?_
  refine s_icmp_eq (a := z1) (b := -1) (tgt := 33) hE.1 hE.2.1 (by omega) (by omega) dX9_bestAt_5 (by decide) (fun c2 => ?_) (fun c2 => ?_)
  · skip
    refine lv_iconst (v := iI (-1)) hE.1 hE.2.1 dX9_bestAt_33 (by decide) ?_
    exact kr _ _ _ rfl ⟨-1, by omega, rfl⟩ dX9_bestAt_34
  · skip
    refine lv_iload_n hE.1 hE.2.1 dX9_bestAt_8 rfl (lv_at hl 1 rfl) ?_
    refine lv_i2l (v := lI (z_1)) hE.1 hE.2.1 dX9_bestAt_9 (iI_i2l (by omega)) ?_
    refine lv_lconst (v := lI (0)) hE.1 hE.2.1 dX9_bestAt_10 (by decide) ?_
    refine lv_aload_n hE.1 hE.2.1 dX9_bestAt_11 rfl (lv_at hl 0 rfl) ?_
    refine x_get (x := .int (v 0 33)) hE hK hP 0 (by decide) (yG_9 rfl) rfl hin9 33 (by decide) mw_1367 rfl dX9_bestAt_12 ?_
    refine x_top (y := iI (z1)) ez1 ?_
    refine lv_iconst (v := iI (1)) hE.1 hE.2.1 dX9_bestAt_15 (by decide) ?_
    refine lv_isub hE.1 hE.2.1 dX9_bestAt_16 ?_
    refine x_top (y := iI (z1 - 1)) ((iI_sub (z1) (1)).trans (congrArg iI (by omega))) ?_
    refine lv_i2l (v := lI (z1 - 1)) hE.1 hE.2.1 dX9_bestAt_17 (iI_i2l (by omega)) ?_
    refine x_sp (nn := 3) (As := [.long (lI (z_1)), .long (lI (0)), .long (lI (z1 - 1))]) (rest := []) hE (s_X9_in l (z_1) (by omega) (0) (by omega) (z1 - 1) (by omega)) tt_blind (fun _ _ _ => trivial) rfl mw_1494 mw_1495 mw_123 mw_1496 (by decide +kernel) ⟨by decide, by decide⟩ hl.1 rfl (Nat.le_of_ble_eq_true rfl) ⟨Nat.zero_le _, Nat.zero_le _⟩ dX9_bestAt_18 (fun r3 hr3 => ?_)
    obtain ⟨z3, hz3, rfl⟩ := hr3
    refine s_if_eq (a := z3) (tgt := 33) hE.1 hE.2.1 (by omega) dX9_bestAt_21 (by decide) (fun c4 => ?_) (fun c4 => ?_)
    · skip
      refine lv_iconst (v := iI (-1)) hE.1 hE.2.1 dX9_bestAt_33 (by decide) ?_
      exact kr _ _ _ rfl ⟨-1, by omega, rfl⟩ dX9_bestAt_34
    · skip
      refine lv_aload_n hE.1 hE.2.1 dX9_bestAt_24 rfl (lv_at hl 0 rfl) ?_
      refine x_get (x := .ref (ad 15)) hE hK hP 0 (by decide) (yG_9 rfl) rfl hin9 34 (by decide) mw_1368 rfl dX9_bestAt_25 ?_
      refine lv_iload_n hE.1 hE.2.1 dX9_bestAt_28 rfl (lv_at hl 1 rfl) ?_
      refine x_iald (j := iI (z_1)) hE hK hP 15 (by decide) (yG_10 rfl) (iI_in (n := 9) (by omega)) dX9_bestAt_29 ?_
      obtain ⟨z6, hz6, ez6⟩ := iI_of (ar 15 (iI (z_1)).toNatClampNeg)
      refine x_top ez6 ?_
      refine lv_goto (tgt := 34) hE.1 hE.2.1 dX9_bestAt_30 (by decide) ?_
      exact kr _ _ _ rfl ⟨z6, by omega, rfl⟩ dX9_bestAt_34

theorem dX9_line__0 : decode cX9_line_ 0 = .ok (.aload_n 0, 1) := by decide +kernel
theorem dX9_line__1 : decode cX9_line_ 1 = .ok (.iconst 0, 1) := by decide +kernel
theorem dX9_line__2 : decode cX9_line_ 2 = .ok (.putfield 81, 3) := by decide +kernel
theorem dX9_line__5 : decode cX9_line_ 5 = .ok (.aload_n 0, 1) := by decide +kernel
theorem dX9_line__6 : decode cX9_line_ 6 = .ok (.invokevirtual 301, 3) := by decide +kernel
theorem dX9_line__9 : decode cX9_line_ 9 = .ok (.ifCond .ne 6, 3) := by decide +kernel
theorem dX9_line__12 : decode cX9_line_ 12 = .ok (.bipush (-2), 2) := by decide +kernel
theorem dX9_line__14 : decode cX9_line_ 14 = .ok (.ireturn, 1) := by decide +kernel
theorem dX9_line__15 : decode cX9_line_ 15 = .ok (.aload_n 0, 1) := by decide +kernel
theorem dX9_line__16 : decode cX9_line_ 16 = .ok (.iconst 0, 1) := by decide +kernel
theorem dX9_line__17 : decode cX9_line_ 17 = .ok (.iconst 0, 1) := by decide +kernel
theorem dX9_line__18 : decode cX9_line_ 18 = .ok (.iconst (-1), 1) := by decide +kernel
theorem dX9_line__19 : decode cX9_line_ 19 = .ok (.invokevirtual 361, 3) := by decide +kernel
theorem dX9_line__22 : decode cX9_line_ 22 = .ok (.aload_n 0, 1) := by decide +kernel
theorem dX9_line__23 : decode cX9_line_ 23 = .ok (.iload_n 1, 1) := by decide +kernel
theorem dX9_line__24 : decode cX9_line_ 24 = .ok (.invokevirtual 365, 3) := by decide +kernel
theorem dX9_line__27 : decode cX9_line_ 27 = .ok (.ireturn, 1) := by decide +kernel
set_option maxHeartbeats 4000000 in
set_option maxRecDepth 100000 in
theorem s_X9_line_ (l : Launch) (D : va_G) (K : Nat → ClassId) (ad : Nat → Nat) (v ar : sI) (al : sL) (hI : YI v ar) (z_1 : Int) (hz_1 : -2147483648 ≤ z_1 ∧ z_1 ≤ 2147483647) : Met l yX9_line_ (wM yX9_line_ cX9_line_ 2 (some .int)) (rmD 15) (va_Pc [.ref (ad 0), .int (iI (z_1))] (wPre D K ad (yG ad K) 21 v ar al)) (va_Qi (fun (r : Int32) (u : sT) => (∃ z : Int, (-2147483648 ≤ z ∧ z ≤ 2147483647) ∧ r = iI z) ∧ YI u.1 u.2.1 ∧ (∀ i j : Nat, (i, j) ∉ ([(0, 0), (0, 24), (0, 25), (0, 26), (0, 27), (0, 29), (0, 30), (0, 31), (0, 32), (0, 33), (0, 37), (0, 38), (0, 39), (0, 40), (0, 41)] : List (Nat × Nat)) → u.1 i j = v i j) ∧ (∀ i : Nat, i ∉ ([12, 13, 14, 15, 16, 17] : List Nat) → u.2.1 i = ar i) ∧ (∀ i : Nat, i ∉ ([] : List Nat) → u.2.2 i = al i)) (wB D ad (yG ad K) 21) (inW ad 21)) 0 0 (inW ad 21) := by
  refine s_metI (by decide) (Nat.le_of_ble_eq_true rfl) ?_
  intro p e s m below meth c ls args Q hE hB hl kr
  have hE : CallFix p m c cX9_line_ 2 s args tbG "TaleCourtModel" := hE
  obtain ⟨hP, hK, hN⟩ := hB
  have hS : va_S (inW ad 21) s.heap s.heap [] := va_S.rf
  have hl : lv_has ls 2 [(0, .ref (ad 0)), (1, .int (iI (z_1)))] := hl
  obtain ⟨z1, hz1, ez1⟩ := iI_of (ar 6 0)
  obtain ⟨z2, hz2, ez2⟩ := YI_h2 hI 2 (by decide)
  obtain ⟨z3, hz3, ez3⟩ := YI_h5 hI 5 (by decide)
  obtain ⟨z4, hz4, ez4⟩ := YI_h0 hI 0 (by decide)
  have ht0 := YI_t0 hI ez1 (by omega) ez2 (by omega) ez3 (by omega) ez4 (by omega)
  refine lv_aload_n hE.1 hE.2.1 dX9_line__0 rfl (lv_at hl 0 rfl) ?_
  refine lv_iconst (v := iI (0)) hE.1 hE.2.1 dX9_line__1 (by decide) ?_
  refine x_put (x := iI (0)) hE hK hN hP hS 0 (by decide) (yG_9 rfl) rfl hin9 tyX9 tyX9_ok nmX9 0 (by decide) mw_1334 rfl rfl rfl (Nat.le_of_ble_eq_true rfl) (yG_9 rfl) dX9_line__2 (fun v5 H locs hv5 hP hS => ?_)
  have hI := YI_putN hI hv5 (by decide)
  refine lv_aload_n hE.1 hE.2.1 dX9_line__5 rfl (lv_at hl 0 rfl) ?_
  refine x_vp (nn := 0) (As := []) (rest := []) hE (s_X9_isCourt l D K ad v5 ar al hI (z1) (by omega) ez1 ) wPre_blind (wPre_now hK hN hP) (x_recv hK hP 0 (by decide) (yG_9 rfl) rfl) rfl mw_1718 mw_1720 mw_79 mw_123 mw_1721 (by decide +kernel) ⟨by decide, by decide⟩ hl.1 rfl (Nat.le_of_ble_eq_true rfl) ⟨Nat.zero_le _, Nat.zero_le _⟩ dX9_line__6 (fun r6 hr6 => ?_)
  obtain ⟨z6, hz6, rfl⟩ := hr6
  refine s_if_ne (a := z6) (tgt := 15) hE.1 hE.2.1 (by omega) dX9_line__9 (by decide) (fun c7 => ?_) (fun c7 => ?_)
  · skip
    refine lv_aload_n hE.1 hE.2.1 dX9_line__15 rfl (lv_at hl 0 rfl) ?_
    refine lv_iconst (v := iI (0)) hE.1 hE.2.1 dX9_line__16 (by decide) ?_
    refine lv_iconst (v := iI (0)) hE.1 hE.2.1 dX9_line__17 (by decide) ?_
    refine lv_iconst (v := iI (-1)) hE.1 hE.2.1 dX9_line__18 (by decide) ?_
    refine x_vv (nn := 3) (As := [.int (iI (0)), .int (iI (0)), .int (iI (-1))]) (rest := []) hE hK hN hP hS (s_X9_goesAll l D K ad v5 ar al hI (z4) (by omega) ez4 (0) (by omega) (0) (by omega) (-1) (by omega) (Or.inl rfl)) (x_recv hK hP 0 (by decide) (yG_9 rfl) rfl) rfl mw_1798 mw_1800 mw_85 mw_123 mw_1801 (by decide +kernel) ⟨by decide, by decide⟩ hl.1 rfl (Nat.le_of_ble_eq_true rfl) ⟨Nat.zero_le _, Nat.zero_le _⟩ dX9_line__19 (fun v8 ar8 al8 H locs hq8 hP hS => ?_)
    obtain ⟨hI, hq8, hqa8, hql8⟩ := hq8
    have hI : YI v8 ar8 := hI
    refine lv_aload_n hE.1 hE.2.1 dX9_line__22 rfl (lv_at hl 0 rfl) ?_
    refine lv_iload_n hE.1 hE.2.1 dX9_line__23 rfl (lv_at hl 1 rfl) ?_
    refine x_vp (nn := 1) (As := [.int (iI (z_1))]) (rest := []) hE (s_X9_bestAt l D K ad v8 ar8 al8 hI  (z_1) (by omega)) wPre_blind (wPre_now hK hN hP) (x_recv hK hP 0 (by decide) (yG_9 rfl) rfl) rfl mw_1834 mw_1836 mw_92 mw_123 mw_1837 (by decide +kernel) ⟨by decide, by decide⟩ hl.1 rfl (Nat.le_of_ble_eq_true rfl) ⟨Nat.zero_le _, Nat.zero_le _⟩ dX9_line__24 (fun r9 hr9 => ?_)
    obtain ⟨z9, hz9, rfl⟩ := hr9
    exact kr _ v8 ar8 al8 _ _ _ _ rfl ⟨⟨z9, by omega, rfl⟩, hI, fun i j h => ((hq8 i j (fun q => h (mem_sub (by decide) q))).trans (up_oth hv5 (fun q => h (by rcases q with ⟨rfl, rfl⟩; decide)))), fun i h => (hqa8 i (fun q => h (mem_subn (by decide) q))), fun i h => (hql8 i (fun q => h (mem_subn (by decide) q)))⟩ hP hS dX9_line__27
  · skip
    refine lv_bipush (v := iI (-2)) hE.1 hE.2.1 dX9_line__12 (by decide) ?_
    exact kr _ v5 ar al _ _ _ _ rfl ⟨⟨-2, by omega, rfl⟩, hI, fun i j h => (up_oth hv5 (fun q => h (by rcases q with ⟨rfl, rfl⟩; decide))), fun i h => rfl, fun i h => rfl⟩ hP hS dX9_line__14

theorem dX9_best_0 : decode cX9_best 0 = .ok (.aload_n 0, 1) := by decide +kernel
theorem dX9_best_1 : decode cX9_best 1 = .ok (.iconst 0, 1) := by decide +kernel
theorem dX9_best_2 : decode cX9_best 2 = .ok (.putfield 81, 3) := by decide +kernel
theorem dX9_best_5 : decode cX9_best 5 = .ok (.aload_n 0, 1) := by decide +kernel
theorem dX9_best_6 : decode cX9_best 6 = .ok (.invokevirtual 301, 3) := by decide +kernel
theorem dX9_best_9 : decode cX9_best 9 = .ok (.ifCond .ne 6, 3) := by decide +kernel
theorem dX9_best_12 : decode cX9_best 12 = .ok (.bipush (-2), 2) := by decide +kernel
theorem dX9_best_14 : decode cX9_best 14 = .ok (.ireturn, 1) := by decide +kernel
theorem dX9_best_15 : decode cX9_best 15 = .ok (.aload_n 0, 1) := by decide +kernel
theorem dX9_best_16 : decode cX9_best 16 = .ok (.iconst 2, 1) := by decide +kernel
theorem dX9_best_17 : decode cX9_best 17 = .ok (.iconst 0, 1) := by decide +kernel
theorem dX9_best_18 : decode cX9_best 18 = .ok (.iconst (-1), 1) := by decide +kernel
theorem dX9_best_19 : decode cX9_best 19 = .ok (.invokevirtual 361, 3) := by decide +kernel
theorem dX9_best_22 : decode cX9_best 22 = .ok (.aload_n 0, 1) := by decide +kernel
theorem dX9_best_23 : decode cX9_best 23 = .ok (.getfield 343, 3) := by decide +kernel
theorem dX9_best_26 : decode cX9_best 26 = .ok (.iconst (-1), 1) := by decide +kernel
theorem dX9_best_27 : decode cX9_best 27 = .ok (.if_icmp .ne 7, 3) := by decide +kernel
theorem dX9_best_30 : decode cX9_best 30 = .ok (.iconst (-1), 1) := by decide +kernel
theorem dX9_best_31 : decode cX9_best 31 = .ok (.goto 7, 3) := by decide +kernel
theorem dX9_best_34 : decode cX9_best 34 = .ok (.aload_n 0, 1) := by decide +kernel
theorem dX9_best_35 : decode cX9_best 35 = .ok (.getfield 346, 3) := by decide +kernel
theorem dX9_best_38 : decode cX9_best 38 = .ok (.ireturn, 1) := by decide +kernel
set_option maxHeartbeats 4000000 in
set_option maxRecDepth 100000 in
theorem s_X9_best (l : Launch) (D : va_G) (K : Nat → ClassId) (ad : Nat → Nat) (v ar : sI) (al : sL) (hI : YI v ar) : Met l yX9_best (wM yX9_best cX9_best 1 (some .int)) (rmD 15) (va_Pc [.ref (ad 0)] (wPre D K ad (yG ad K) 21 v ar al)) (va_Qi (fun (r : Int32) (u : sT) => (∃ z : Int, (-2147483648 ≤ z ∧ z ≤ 2147483647) ∧ r = iI z) ∧ YI u.1 u.2.1 ∧ (∀ i j : Nat, (i, j) ∉ ([(0, 0), (0, 24), (0, 25), (0, 26), (0, 27), (0, 29), (0, 30), (0, 31), (0, 32), (0, 33), (0, 37), (0, 38), (0, 39), (0, 40), (0, 41)] : List (Nat × Nat)) → u.1 i j = v i j) ∧ (∀ i : Nat, i ∉ ([12, 13, 14, 15, 16, 17] : List Nat) → u.2.1 i = ar i) ∧ (∀ i : Nat, i ∉ ([] : List Nat) → u.2.2 i = al i)) (wB D ad (yG ad K) 21) (inW ad 21)) 0 0 (inW ad 21) := by
  refine s_metI (by decide) (Nat.le_of_ble_eq_true rfl) ?_
  intro p e s m below meth c ls args Q hE hB hl kr
  have hE : CallFix p m c cX9_best 1 s args tbG "TaleCourtModel" := hE
  obtain ⟨hP, hK, hN⟩ := hB
  have hS : va_S (inW ad 21) s.heap s.heap [] := va_S.rf
  have hl : lv_has ls 1 [(0, .ref (ad 0))] := hl
  obtain ⟨z1, hz1, ez1⟩ := iI_of (ar 6 0)
  obtain ⟨z2, hz2, ez2⟩ := YI_h2 hI 2 (by decide)
  obtain ⟨z3, hz3, ez3⟩ := YI_h5 hI 5 (by decide)
  obtain ⟨z4, hz4, ez4⟩ := YI_h0 hI 0 (by decide)
  have ht0 := YI_t0 hI ez1 (by omega) ez2 (by omega) ez3 (by omega) ez4 (by omega)
  refine lv_aload_n hE.1 hE.2.1 dX9_best_0 rfl (lv_at hl 0 rfl) ?_
  refine lv_iconst (v := iI (0)) hE.1 hE.2.1 dX9_best_1 (by decide) ?_
  refine x_put (x := iI (0)) hE hK hN hP hS 0 (by decide) (yG_9 rfl) rfl hin9 tyX9 tyX9_ok nmX9 0 (by decide) mw_1334 rfl rfl rfl (Nat.le_of_ble_eq_true rfl) (yG_9 rfl) dX9_best_2 (fun v5 H locs hv5 hP hS => ?_)
  have hI := YI_putN hI hv5 (by decide)
  refine lv_aload_n hE.1 hE.2.1 dX9_best_5 rfl (lv_at hl 0 rfl) ?_
  refine x_vp (nn := 0) (As := []) (rest := []) hE (s_X9_isCourt l D K ad v5 ar al hI (z1) (by omega) ez1 ) wPre_blind (wPre_now hK hN hP) (x_recv hK hP 0 (by decide) (yG_9 rfl) rfl) rfl mw_1718 mw_1720 mw_79 mw_123 mw_1721 (by decide +kernel) ⟨by decide, by decide⟩ hl.1 rfl (Nat.le_of_ble_eq_true rfl) ⟨Nat.zero_le _, Nat.zero_le _⟩ dX9_best_6 (fun r6 hr6 => ?_)
  obtain ⟨z6, hz6, rfl⟩ := hr6
  refine s_if_ne (a := z6) (tgt := 15) hE.1 hE.2.1 (by omega) dX9_best_9 (by decide) (fun c7 => ?_) (fun c7 => ?_)
  · skip
    refine lv_aload_n hE.1 hE.2.1 dX9_best_15 rfl (lv_at hl 0 rfl) ?_
    refine lv_iconst (v := iI (2)) hE.1 hE.2.1 dX9_best_16 (by decide) ?_
    refine lv_iconst (v := iI (0)) hE.1 hE.2.1 dX9_best_17 (by decide) ?_
    refine lv_iconst (v := iI (-1)) hE.1 hE.2.1 dX9_best_18 (by decide) ?_
    refine x_vv (nn := 3) (As := [.int (iI (2)), .int (iI (0)), .int (iI (-1))]) (rest := []) hE hK hN hP hS (s_X9_goesAll l D K ad v5 ar al hI (z4) (by omega) ez4 (2) (by omega) (0) (by omega) (-1) (by omega) (Or.inl rfl)) (x_recv hK hP 0 (by decide) (yG_9 rfl) rfl) rfl mw_1798 mw_1800 mw_85 mw_123 mw_1801 (by decide +kernel) ⟨by decide, by decide⟩ hl.1 rfl (Nat.le_of_ble_eq_true rfl) ⟨Nat.zero_le _, Nat.zero_le _⟩ dX9_best_19 (fun v8 ar8 al8 H locs hq8 hP hS => ?_)
    obtain ⟨hI, hq8, hqa8, hql8⟩ := hq8
    have hI : YI v8 ar8 := hI
    refine lv_aload_n hE.1 hE.2.1 dX9_best_22 rfl (lv_at hl 0 rfl) ?_
    obtain ⟨z9, hz9, ez9⟩ := YI_get hI 0 33 (-1) 9 (by decide)
    refine x_get (x := .int (v8 0 33)) hE hK hP 0 (by decide) (yG_9 rfl) rfl hin9 33 (by decide) mw_1367 rfl dX9_best_23 ?_
    refine x_top (y := iI (z9)) ez9 ?_
    refine lv_iconst (v := iI (-1)) hE.1 hE.2.1 dX9_best_26 (by decide) ?_
    refine s_icmp_ne (a := z9) (b := -1) (tgt := 34) hE.1 hE.2.1 (by omega) (by omega) dX9_best_27 (by decide) (fun c10 => ?_) (fun c10 => ?_)
    · skip
      refine lv_aload_n hE.1 hE.2.1 dX9_best_34 rfl (lv_at hl 0 rfl) ?_
      obtain ⟨z11, hz11, ez11⟩ := iI_of (v8 0 32)
      refine x_get (x := .int (v8 0 32)) hE hK hP 0 (by decide) (yG_9 rfl) rfl hin9 32 (by decide) mw_1366 rfl dX9_best_35 ?_
      refine x_top (y := iI (z11)) ez11 ?_
      exact kr _ v8 ar8 al8 _ _ _ _ rfl ⟨⟨z11, by omega, rfl⟩, hI, fun i j h => ((hq8 i j (fun q => h (mem_sub (by decide) q))).trans (up_oth hv5 (fun q => h (by rcases q with ⟨rfl, rfl⟩; decide)))), fun i h => (hqa8 i (fun q => h (mem_subn (by decide) q))), fun i h => (hql8 i (fun q => h (mem_subn (by decide) q)))⟩ hP hS dX9_best_38
    · skip
      refine lv_iconst (v := iI (-1)) hE.1 hE.2.1 dX9_best_30 (by decide) ?_
      refine lv_goto (tgt := 38) hE.1 hE.2.1 dX9_best_31 (by decide) ?_
      exact kr _ v8 ar8 al8 _ _ _ _ rfl ⟨⟨-1, by omega, rfl⟩, hI, fun i j h => ((hq8 i j (fun q => h (mem_sub (by decide) q))).trans (up_oth hv5 (fun q => h (by rcases q with ⟨rfl, rfl⟩; decide)))), fun i h => (hqa8 i (fun q => h (mem_subn (by decide) q))), fun i h => (hql8 i (fun q => h (mem_subn (by decide) q)))⟩ hP hS dX9_best_38
  · skip
    refine lv_bipush (v := iI (-2)) hE.1 hE.2.1 dX9_best_12 (by decide) ?_
    exact kr _ v5 ar al _ _ _ _ rfl ⟨⟨-2, by omega, rfl⟩, hI, fun i j h => (up_oth hv5 (fun q => h (by rcases q with ⟨rfl, rfl⟩; decide))), fun i h => rfl, fun i h => rfl⟩ hP hS dX9_best_14

theorem dX9_tale_0 : decode cX9_tale 0 = .ok (.aload_n 0, 1) := by decide +kernel
theorem dX9_tale_1 : decode cX9_tale 1 = .ok (.iconst 0, 1) := by decide +kernel
theorem dX9_tale_2 : decode cX9_tale 2 = .ok (.putfield 81, 3) := by decide +kernel
theorem dX9_tale_5 : decode cX9_tale 5 = .ok (.aload_n 0, 1) := by decide +kernel
theorem dX9_tale_6 : decode cX9_tale 6 = .ok (.invokevirtual 301, 3) := by decide +kernel
theorem dX9_tale_9 : decode cX9_tale 9 = .ok (.ifCond .ne 6, 3) := by decide +kernel
theorem dX9_tale_12 : decode cX9_tale 12 = .ok (.bipush (-2), 2) := by decide +kernel
theorem dX9_tale_14 : decode cX9_tale 14 = .ok (.ireturn, 1) := by decide +kernel
theorem dX9_tale_15 : decode cX9_tale 15 = .ok (.aload_n 0, 1) := by decide +kernel
theorem dX9_tale_16 : decode cX9_tale 16 = .ok (.iconst 2, 1) := by decide +kernel
theorem dX9_tale_17 : decode cX9_tale 17 = .ok (.iconst 0, 1) := by decide +kernel
theorem dX9_tale_18 : decode cX9_tale 18 = .ok (.iconst (-1), 1) := by decide +kernel
theorem dX9_tale_19 : decode cX9_tale 19 = .ok (.invokevirtual 361, 3) := by decide +kernel
theorem dX9_tale_22 : decode cX9_tale 22 = .ok (.aload_n 0, 1) := by decide +kernel
theorem dX9_tale_23 : decode cX9_tale 23 = .ok (.iload_n 1, 1) := by decide +kernel
theorem dX9_tale_24 : decode cX9_tale 24 = .ok (.invokevirtual 365, 3) := by decide +kernel
theorem dX9_tale_27 : decode cX9_tale 27 = .ok (.ireturn, 1) := by decide +kernel
set_option maxHeartbeats 4000000 in
set_option maxRecDepth 100000 in
theorem s_X9_tale (l : Launch) (D : va_G) (K : Nat → ClassId) (ad : Nat → Nat) (v ar : sI) (al : sL) (hI : YI v ar) (z_1 : Int) (hz_1 : -2147483648 ≤ z_1 ∧ z_1 ≤ 2147483647) : Met l yX9_tale (wM yX9_tale cX9_tale 2 (some .int)) (rmD 15) (va_Pc [.ref (ad 0), .int (iI (z_1))] (wPre D K ad (yG ad K) 21 v ar al)) (va_Qi (fun (r : Int32) (u : sT) => (∃ z : Int, (-2147483648 ≤ z ∧ z ≤ 2147483647) ∧ r = iI z) ∧ YI u.1 u.2.1 ∧ (∀ i j : Nat, (i, j) ∉ ([(0, 0), (0, 24), (0, 25), (0, 26), (0, 27), (0, 29), (0, 30), (0, 31), (0, 32), (0, 33), (0, 37), (0, 38), (0, 39), (0, 40), (0, 41)] : List (Nat × Nat)) → u.1 i j = v i j) ∧ (∀ i : Nat, i ∉ ([12, 13, 14, 15, 16, 17] : List Nat) → u.2.1 i = ar i) ∧ (∀ i : Nat, i ∉ ([] : List Nat) → u.2.2 i = al i)) (wB D ad (yG ad K) 21) (inW ad 21)) 0 0 (inW ad 21) := by
  refine s_metI (by decide) (Nat.le_of_ble_eq_true rfl) ?_
  intro p e s m below meth c ls args Q hE hB hl kr
  have hE : CallFix p m c cX9_tale 2 s args tbG "TaleCourtModel" := hE
  obtain ⟨hP, hK, hN⟩ := hB
  have hS : va_S (inW ad 21) s.heap s.heap [] := va_S.rf
  have hl : lv_has ls 2 [(0, .ref (ad 0)), (1, .int (iI (z_1)))] := hl
  obtain ⟨z1, hz1, ez1⟩ := iI_of (ar 6 0)
  obtain ⟨z2, hz2, ez2⟩ := YI_h2 hI 2 (by decide)
  obtain ⟨z3, hz3, ez3⟩ := YI_h5 hI 5 (by decide)
  obtain ⟨z4, hz4, ez4⟩ := YI_h0 hI 0 (by decide)
  have ht0 := YI_t0 hI ez1 (by omega) ez2 (by omega) ez3 (by omega) ez4 (by omega)
  refine lv_aload_n hE.1 hE.2.1 dX9_tale_0 rfl (lv_at hl 0 rfl) ?_
  refine lv_iconst (v := iI (0)) hE.1 hE.2.1 dX9_tale_1 (by decide) ?_
  refine x_put (x := iI (0)) hE hK hN hP hS 0 (by decide) (yG_9 rfl) rfl hin9 tyX9 tyX9_ok nmX9 0 (by decide) mw_1334 rfl rfl rfl (Nat.le_of_ble_eq_true rfl) (yG_9 rfl) dX9_tale_2 (fun v5 H locs hv5 hP hS => ?_)
  have hI := YI_putN hI hv5 (by decide)
  refine lv_aload_n hE.1 hE.2.1 dX9_tale_5 rfl (lv_at hl 0 rfl) ?_
  refine x_vp (nn := 0) (As := []) (rest := []) hE (s_X9_isCourt l D K ad v5 ar al hI (z1) (by omega) ez1 ) wPre_blind (wPre_now hK hN hP) (x_recv hK hP 0 (by decide) (yG_9 rfl) rfl) rfl mw_1718 mw_1720 mw_79 mw_123 mw_1721 (by decide +kernel) ⟨by decide, by decide⟩ hl.1 rfl (Nat.le_of_ble_eq_true rfl) ⟨Nat.zero_le _, Nat.zero_le _⟩ dX9_tale_6 (fun r6 hr6 => ?_)
  obtain ⟨z6, hz6, rfl⟩ := hr6
  refine s_if_ne (a := z6) (tgt := 15) hE.1 hE.2.1 (by omega) dX9_tale_9 (by decide) (fun c7 => ?_) (fun c7 => ?_)
  · skip
    refine lv_aload_n hE.1 hE.2.1 dX9_tale_15 rfl (lv_at hl 0 rfl) ?_
    refine lv_iconst (v := iI (2)) hE.1 hE.2.1 dX9_tale_16 (by decide) ?_
    refine lv_iconst (v := iI (0)) hE.1 hE.2.1 dX9_tale_17 (by decide) ?_
    refine lv_iconst (v := iI (-1)) hE.1 hE.2.1 dX9_tale_18 (by decide) ?_
    refine x_vv (nn := 3) (As := [.int (iI (2)), .int (iI (0)), .int (iI (-1))]) (rest := []) hE hK hN hP hS (s_X9_goesAll l D K ad v5 ar al hI (z4) (by omega) ez4 (2) (by omega) (0) (by omega) (-1) (by omega) (Or.inl rfl)) (x_recv hK hP 0 (by decide) (yG_9 rfl) rfl) rfl mw_1798 mw_1800 mw_85 mw_123 mw_1801 (by decide +kernel) ⟨by decide, by decide⟩ hl.1 rfl (Nat.le_of_ble_eq_true rfl) ⟨Nat.zero_le _, Nat.zero_le _⟩ dX9_tale_19 (fun v8 ar8 al8 H locs hq8 hP hS => ?_)
    obtain ⟨hI, hq8, hqa8, hql8⟩ := hq8
    have hI : YI v8 ar8 := hI
    refine lv_aload_n hE.1 hE.2.1 dX9_tale_22 rfl (lv_at hl 0 rfl) ?_
    refine lv_iload_n hE.1 hE.2.1 dX9_tale_23 rfl (lv_at hl 1 rfl) ?_
    refine x_vp (nn := 1) (As := [.int (iI (z_1))]) (rest := []) hE (s_X9_bestAt l D K ad v8 ar8 al8 hI  (z_1) (by omega)) wPre_blind (wPre_now hK hN hP) (x_recv hK hP 0 (by decide) (yG_9 rfl) rfl) rfl mw_1834 mw_1836 mw_92 mw_123 mw_1837 (by decide +kernel) ⟨by decide, by decide⟩ hl.1 rfl (Nat.le_of_ble_eq_true rfl) ⟨Nat.zero_le _, Nat.zero_le _⟩ dX9_tale_24 (fun r9 hr9 => ?_)
    obtain ⟨z9, hz9, rfl⟩ := hr9
    exact kr _ v8 ar8 al8 _ _ _ _ rfl ⟨⟨z9, by omega, rfl⟩, hI, fun i j h => ((hq8 i j (fun q => h (mem_sub (by decide) q))).trans (up_oth hv5 (fun q => h (by rcases q with ⟨rfl, rfl⟩; decide)))), fun i h => (hqa8 i (fun q => h (mem_subn (by decide) q))), fun i h => (hql8 i (fun q => h (mem_subn (by decide) q)))⟩ hP hS dX9_tale_27
  · skip
    refine lv_bipush (v := iI (-2)) hE.1 hE.2.1 dX9_tale_12 (by decide) ?_
    exact kr _ v5 ar al _ _ _ _ rfl ⟨⟨-2, by omega, rfl⟩, hI, fun i j h => (up_oth hv5 (fun q => h (by rcases q with ⟨rfl, rfl⟩; decide))), fun i h => rfl, fun i h => rfl⟩ hP hS dX9_tale_14

theorem dX9_roof_0 : decode cX9_roof 0 = .ok (.aload_n 0, 1) := by decide +kernel
theorem dX9_roof_1 : decode cX9_roof 1 = .ok (.iconst 0, 1) := by decide +kernel
theorem dX9_roof_2 : decode cX9_roof 2 = .ok (.putfield 81, 3) := by decide +kernel
theorem dX9_roof_5 : decode cX9_roof 5 = .ok (.aload_n 0, 1) := by decide +kernel
theorem dX9_roof_6 : decode cX9_roof 6 = .ok (.invokevirtual 301, 3) := by decide +kernel
theorem dX9_roof_9 : decode cX9_roof 9 = .ok (.ifCond .eq 7, 3) := by decide +kernel
theorem dX9_roof_12 : decode cX9_roof 12 = .ok (.iload_n 1, 1) := by decide +kernel
theorem dX9_roof_13 : decode cX9_roof 13 = .ok (.ifCond .ge 6, 3) := by decide +kernel
theorem dX9_roof_16 : decode cX9_roof 16 = .ok (.bipush (-2), 2) := by decide +kernel
theorem dX9_roof_18 : decode cX9_roof 18 = .ok (.ireturn, 1) := by decide +kernel
theorem dX9_roof_19 : decode cX9_roof 19 = .ok (.aload_n 0, 1) := by decide +kernel
theorem dX9_roof_20 : decode cX9_roof 20 = .ok (.iconst 3, 1) := by decide +kernel
theorem dX9_roof_21 : decode cX9_roof 21 = .ok (.iload_n 1, 1) := by decide +kernel
theorem dX9_roof_22 : decode cX9_roof 22 = .ok (.iconst (-1), 1) := by decide +kernel
theorem dX9_roof_23 : decode cX9_roof 23 = .ok (.invokevirtual 361, 3) := by decide +kernel
theorem dX9_roof_26 : decode cX9_roof 26 = .ok (.aload_n 0, 1) := by decide +kernel
theorem dX9_roof_27 : decode cX9_roof 27 = .ok (.getfield 343, 3) := by decide +kernel
theorem dX9_roof_30 : decode cX9_roof 30 = .ok (.ireturn, 1) := by decide +kernel
set_option maxHeartbeats 4000000 in
set_option maxRecDepth 100000 in
theorem s_X9_roof (l : Launch) (D : va_G) (K : Nat → ClassId) (ad : Nat → Nat) (v ar : sI) (al : sL) (hI : YI v ar) (z_1 : Int) (hz_1 : -2147483648 ≤ z_1 ∧ z_1 ≤ 2147483647) : Met l yX9_roof (wM yX9_roof cX9_roof 2 (some .int)) (rmD 15) (va_Pc [.ref (ad 0), .int (iI (z_1))] (wPre D K ad (yG ad K) 21 v ar al)) (va_Qi (fun (r : Int32) (u : sT) => (∃ z : Int, (-2147483648 ≤ z ∧ z ≤ 2147483647) ∧ r = iI z) ∧ YI u.1 u.2.1 ∧ (∀ i j : Nat, (i, j) ∉ ([(0, 0), (0, 24), (0, 25), (0, 26), (0, 27), (0, 29), (0, 30), (0, 31), (0, 32), (0, 33), (0, 37), (0, 38), (0, 39), (0, 40), (0, 41)] : List (Nat × Nat)) → u.1 i j = v i j) ∧ (∀ i : Nat, i ∉ ([12, 13, 14, 15, 16, 17] : List Nat) → u.2.1 i = ar i) ∧ (∀ i : Nat, i ∉ ([] : List Nat) → u.2.2 i = al i)) (wB D ad (yG ad K) 21) (inW ad 21)) 0 0 (inW ad 21) := by
  refine s_metI (by decide) (Nat.le_of_ble_eq_true rfl) ?_
  intro p e s m below meth c ls args Q hE hB hl kr
  have hE : CallFix p m c cX9_roof 2 s args tbG "TaleCourtModel" := hE
  obtain ⟨hP, hK, hN⟩ := hB
  have hS : va_S (inW ad 21) s.heap s.heap [] := va_S.rf
  have hl : lv_has ls 2 [(0, .ref (ad 0)), (1, .int (iI (z_1)))] := hl
  obtain ⟨z1, hz1, ez1⟩ := iI_of (ar 6 0)
  obtain ⟨z2, hz2, ez2⟩ := YI_h2 hI 2 (by decide)
  obtain ⟨z3, hz3, ez3⟩ := YI_h5 hI 5 (by decide)
  obtain ⟨z4, hz4, ez4⟩ := YI_h0 hI 0 (by decide)
  have ht0 := YI_t0 hI ez1 (by omega) ez2 (by omega) ez3 (by omega) ez4 (by omega)
  refine lv_aload_n hE.1 hE.2.1 dX9_roof_0 rfl (lv_at hl 0 rfl) ?_
  refine lv_iconst (v := iI (0)) hE.1 hE.2.1 dX9_roof_1 (by decide) ?_
  refine x_put (x := iI (0)) hE hK hN hP hS 0 (by decide) (yG_9 rfl) rfl hin9 tyX9 tyX9_ok nmX9 0 (by decide) mw_1334 rfl rfl rfl (Nat.le_of_ble_eq_true rfl) (yG_9 rfl) dX9_roof_2 (fun v5 H locs hv5 hP hS => ?_)
  have hI := YI_putN hI hv5 (by decide)
  refine lv_aload_n hE.1 hE.2.1 dX9_roof_5 rfl (lv_at hl 0 rfl) ?_
  refine x_vp (nn := 0) (As := []) (rest := []) hE (s_X9_isCourt l D K ad v5 ar al hI (z1) (by omega) ez1 ) wPre_blind (wPre_now hK hN hP) (x_recv hK hP 0 (by decide) (yG_9 rfl) rfl) rfl mw_1718 mw_1720 mw_79 mw_123 mw_1721 (by decide +kernel) ⟨by decide, by decide⟩ hl.1 rfl (Nat.le_of_ble_eq_true rfl) ⟨Nat.zero_le _, Nat.zero_le _⟩ dX9_roof_6 (fun r6 hr6 => ?_)
  obtain ⟨z6, hz6, rfl⟩ := hr6
  refine s_if_eq (a := z6) (tgt := 16) hE.1 hE.2.1 (by omega) dX9_roof_9 (by decide) (fun c7 => ?_) (fun c7 => ?_)
  · skip
    refine lv_bipush (v := iI (-2)) hE.1 hE.2.1 dX9_roof_16 (by decide) ?_
    exact kr _ v5 ar al _ _ _ _ rfl ⟨⟨-2, by omega, rfl⟩, hI, fun i j h => (up_oth hv5 (fun q => h (by rcases q with ⟨rfl, rfl⟩; decide))), fun i h => rfl, fun i h => rfl⟩ hP hS dX9_roof_18
  · skip
    refine lv_iload_n hE.1 hE.2.1 dX9_roof_12 rfl (lv_at hl 1 rfl) ?_
    refine s_if_ge (a := z_1) (tgt := 19) hE.1 hE.2.1 (by omega) dX9_roof_13 (by decide) (fun c8 => ?_) (fun c8 => ?_)
    · skip
      refine lv_aload_n hE.1 hE.2.1 dX9_roof_19 rfl (lv_at hl 0 rfl) ?_
      refine lv_iconst (v := iI (3)) hE.1 hE.2.1 dX9_roof_20 (by decide) ?_
      refine lv_iload_n hE.1 hE.2.1 dX9_roof_21 rfl (lv_at hl 1 rfl) ?_
      refine lv_iconst (v := iI (-1)) hE.1 hE.2.1 dX9_roof_22 (by decide) ?_
      refine x_vv (nn := 3) (As := [.int (iI (3)), .int (iI (z_1)), .int (iI (-1))]) (rest := []) hE hK hN hP hS (s_X9_goesAll l D K ad v5 ar al hI (z4) (by omega) ez4 (3) (by omega) (z_1) (by omega) (-1) (by omega) (Or.inl rfl)) (x_recv hK hP 0 (by decide) (yG_9 rfl) rfl) rfl mw_1798 mw_1800 mw_85 mw_123 mw_1801 (by decide +kernel) ⟨by decide, by decide⟩ hl.1 rfl (Nat.le_of_ble_eq_true rfl) ⟨Nat.zero_le _, Nat.zero_le _⟩ dX9_roof_23 (fun v9 ar9 al9 H locs hq9 hP hS => ?_)
      obtain ⟨hI, hq9, hqa9, hql9⟩ := hq9
      have hI : YI v9 ar9 := hI
      refine lv_aload_n hE.1 hE.2.1 dX9_roof_26 rfl (lv_at hl 0 rfl) ?_
      obtain ⟨z10, hz10, ez10⟩ := YI_get hI 0 33 (-1) 9 (by decide)
      refine x_get (x := .int (v9 0 33)) hE hK hP 0 (by decide) (yG_9 rfl) rfl hin9 33 (by decide) mw_1367 rfl dX9_roof_27 ?_
      refine x_top (y := iI (z10)) ez10 ?_
      exact kr _ v9 ar9 al9 _ _ _ _ rfl ⟨⟨z10, by omega, rfl⟩, hI, fun i j h => ((hq9 i j (fun q => h (mem_sub (by decide) q))).trans (up_oth hv5 (fun q => h (by rcases q with ⟨rfl, rfl⟩; decide)))), fun i h => (hqa9 i (fun q => h (mem_subn (by decide) q))), fun i h => (hql9 i (fun q => h (mem_subn (by decide) q)))⟩ hP hS dX9_roof_30
    · skip
      refine lv_bipush (v := iI (-2)) hE.1 hE.2.1 dX9_roof_16 (by decide) ?_
      exact kr _ v5 ar al _ _ _ _ rfl ⟨⟨-2, by omega, rfl⟩, hI, fun i j h => (up_oth hv5 (fun q => h (by rcases q with ⟨rfl, rfl⟩; decide))), fun i h => rfl, fun i h => rfl⟩ hP hS dX9_roof_18

theorem dX9_beam_0 : decode cX9_beam 0 = .ok (.aload_n 0, 1) := by decide +kernel
theorem dX9_beam_1 : decode cX9_beam 1 = .ok (.iconst 0, 1) := by decide +kernel
theorem dX9_beam_2 : decode cX9_beam 2 = .ok (.putfield 81, 3) := by decide +kernel
theorem dX9_beam_5 : decode cX9_beam 5 = .ok (.aload_n 0, 1) := by decide +kernel
theorem dX9_beam_6 : decode cX9_beam 6 = .ok (.invokevirtual 301, 3) := by decide +kernel
theorem dX9_beam_9 : decode cX9_beam 9 = .ok (.ifCond .eq 7, 3) := by decide +kernel
theorem dX9_beam_12 : decode cX9_beam 12 = .ok (.iload_n 1, 1) := by decide +kernel
theorem dX9_beam_13 : decode cX9_beam 13 = .ok (.ifCond .ge 6, 3) := by decide +kernel
theorem dX9_beam_16 : decode cX9_beam 16 = .ok (.bipush (-2), 2) := by decide +kernel
theorem dX9_beam_18 : decode cX9_beam 18 = .ok (.ireturn, 1) := by decide +kernel
theorem dX9_beam_19 : decode cX9_beam 19 = .ok (.aload_n 0, 1) := by decide +kernel
theorem dX9_beam_20 : decode cX9_beam 20 = .ok (.iconst 3, 1) := by decide +kernel
theorem dX9_beam_21 : decode cX9_beam 21 = .ok (.iload_n 1, 1) := by decide +kernel
theorem dX9_beam_22 : decode cX9_beam 22 = .ok (.iconst (-1), 1) := by decide +kernel
theorem dX9_beam_23 : decode cX9_beam 23 = .ok (.invokevirtual 361, 3) := by decide +kernel
theorem dX9_beam_26 : decode cX9_beam 26 = .ok (.aload_n 0, 1) := by decide +kernel
theorem dX9_beam_27 : decode cX9_beam 27 = .ok (.iload_n 2, 1) := by decide +kernel
theorem dX9_beam_28 : decode cX9_beam 28 = .ok (.invokevirtual 365, 3) := by decide +kernel
theorem dX9_beam_31 : decode cX9_beam 31 = .ok (.ireturn, 1) := by decide +kernel
set_option maxHeartbeats 4000000 in
set_option maxRecDepth 100000 in
theorem s_X9_beam (l : Launch) (D : va_G) (K : Nat → ClassId) (ad : Nat → Nat) (v ar : sI) (al : sL) (hI : YI v ar) (z_1 : Int) (hz_1 : -2147483648 ≤ z_1 ∧ z_1 ≤ 2147483647) (z_2 : Int) (hz_2 : -2147483648 ≤ z_2 ∧ z_2 ≤ 2147483647) : Met l yX9_beam (wM yX9_beam cX9_beam 3 (some .int)) (rmD 15) (va_Pc [.ref (ad 0), .int (iI (z_1)), .int (iI (z_2))] (wPre D K ad (yG ad K) 21 v ar al)) (va_Qi (fun (r : Int32) (u : sT) => (∃ z : Int, (-2147483648 ≤ z ∧ z ≤ 2147483647) ∧ r = iI z) ∧ YI u.1 u.2.1 ∧ (∀ i j : Nat, (i, j) ∉ ([(0, 0), (0, 24), (0, 25), (0, 26), (0, 27), (0, 29), (0, 30), (0, 31), (0, 32), (0, 33), (0, 37), (0, 38), (0, 39), (0, 40), (0, 41)] : List (Nat × Nat)) → u.1 i j = v i j) ∧ (∀ i : Nat, i ∉ ([12, 13, 14, 15, 16, 17] : List Nat) → u.2.1 i = ar i) ∧ (∀ i : Nat, i ∉ ([] : List Nat) → u.2.2 i = al i)) (wB D ad (yG ad K) 21) (inW ad 21)) 0 0 (inW ad 21) := by
  refine s_metI (by decide) (Nat.le_of_ble_eq_true rfl) ?_
  intro p e s m below meth c ls args Q hE hB hl kr
  have hE : CallFix p m c cX9_beam 3 s args tbG "TaleCourtModel" := hE
  obtain ⟨hP, hK, hN⟩ := hB
  have hS : va_S (inW ad 21) s.heap s.heap [] := va_S.rf
  have hl : lv_has ls 3 [(0, .ref (ad 0)), (1, .int (iI (z_1))), (2, .int (iI (z_2)))] := hl
  obtain ⟨z1, hz1, ez1⟩ := iI_of (ar 6 0)
  obtain ⟨z2, hz2, ez2⟩ := YI_h2 hI 2 (by decide)
  obtain ⟨z3, hz3, ez3⟩ := YI_h5 hI 5 (by decide)
  obtain ⟨z4, hz4, ez4⟩ := YI_h0 hI 0 (by decide)
  have ht0 := YI_t0 hI ez1 (by omega) ez2 (by omega) ez3 (by omega) ez4 (by omega)
  refine lv_aload_n hE.1 hE.2.1 dX9_beam_0 rfl (lv_at hl 0 rfl) ?_
  refine lv_iconst (v := iI (0)) hE.1 hE.2.1 dX9_beam_1 (by decide) ?_
  refine x_put (x := iI (0)) hE hK hN hP hS 0 (by decide) (yG_9 rfl) rfl hin9 tyX9 tyX9_ok nmX9 0 (by decide) mw_1334 rfl rfl rfl (Nat.le_of_ble_eq_true rfl) (yG_9 rfl) dX9_beam_2 (fun v5 H locs hv5 hP hS => ?_)
  have hI := YI_putN hI hv5 (by decide)
  refine lv_aload_n hE.1 hE.2.1 dX9_beam_5 rfl (lv_at hl 0 rfl) ?_
  refine x_vp (nn := 0) (As := []) (rest := []) hE (s_X9_isCourt l D K ad v5 ar al hI (z1) (by omega) ez1 ) wPre_blind (wPre_now hK hN hP) (x_recv hK hP 0 (by decide) (yG_9 rfl) rfl) rfl mw_1718 mw_1720 mw_79 mw_123 mw_1721 (by decide +kernel) ⟨by decide, by decide⟩ hl.1 rfl (Nat.le_of_ble_eq_true rfl) ⟨Nat.zero_le _, Nat.zero_le _⟩ dX9_beam_6 (fun r6 hr6 => ?_)
  obtain ⟨z6, hz6, rfl⟩ := hr6
  refine s_if_eq (a := z6) (tgt := 16) hE.1 hE.2.1 (by omega) dX9_beam_9 (by decide) (fun c7 => ?_) (fun c7 => ?_)
  · skip
    refine lv_bipush (v := iI (-2)) hE.1 hE.2.1 dX9_beam_16 (by decide) ?_
    exact kr _ v5 ar al _ _ _ _ rfl ⟨⟨-2, by omega, rfl⟩, hI, fun i j h => (up_oth hv5 (fun q => h (by rcases q with ⟨rfl, rfl⟩; decide))), fun i h => rfl, fun i h => rfl⟩ hP hS dX9_beam_18
  · skip
    refine lv_iload_n hE.1 hE.2.1 dX9_beam_12 rfl (lv_at hl 1 rfl) ?_
    refine s_if_ge (a := z_1) (tgt := 19) hE.1 hE.2.1 (by omega) dX9_beam_13 (by decide) (fun c8 => ?_) (fun c8 => ?_)
    · skip
      refine lv_aload_n hE.1 hE.2.1 dX9_beam_19 rfl (lv_at hl 0 rfl) ?_
      refine lv_iconst (v := iI (3)) hE.1 hE.2.1 dX9_beam_20 (by decide) ?_
      refine lv_iload_n hE.1 hE.2.1 dX9_beam_21 rfl (lv_at hl 1 rfl) ?_
      refine lv_iconst (v := iI (-1)) hE.1 hE.2.1 dX9_beam_22 (by decide) ?_
      refine x_vv (nn := 3) (As := [.int (iI (3)), .int (iI (z_1)), .int (iI (-1))]) (rest := []) hE hK hN hP hS (s_X9_goesAll l D K ad v5 ar al hI (z4) (by omega) ez4 (3) (by omega) (z_1) (by omega) (-1) (by omega) (Or.inl rfl)) (x_recv hK hP 0 (by decide) (yG_9 rfl) rfl) rfl mw_1798 mw_1800 mw_85 mw_123 mw_1801 (by decide +kernel) ⟨by decide, by decide⟩ hl.1 rfl (Nat.le_of_ble_eq_true rfl) ⟨Nat.zero_le _, Nat.zero_le _⟩ dX9_beam_23 (fun v9 ar9 al9 H locs hq9 hP hS => ?_)
      obtain ⟨hI, hq9, hqa9, hql9⟩ := hq9
      have hI : YI v9 ar9 := hI
      refine lv_aload_n hE.1 hE.2.1 dX9_beam_26 rfl (lv_at hl 0 rfl) ?_
      refine lv_iload_n hE.1 hE.2.1 dX9_beam_27 rfl (lv_at hl 2 rfl) ?_
      refine x_vp (nn := 1) (As := [.int (iI (z_2))]) (rest := []) hE (s_X9_bestAt l D K ad v9 ar9 al9 hI  (z_2) (by omega)) wPre_blind (wPre_now hK hN hP) (x_recv hK hP 0 (by decide) (yG_9 rfl) rfl) rfl mw_1834 mw_1836 mw_92 mw_123 mw_1837 (by decide +kernel) ⟨by decide, by decide⟩ hl.1 rfl (Nat.le_of_ble_eq_true rfl) ⟨Nat.zero_le _, Nat.zero_le _⟩ dX9_beam_28 (fun r10 hr10 => ?_)
      obtain ⟨z10, hz10, rfl⟩ := hr10
      exact kr _ v9 ar9 al9 _ _ _ _ rfl ⟨⟨z10, by omega, rfl⟩, hI, fun i j h => ((hq9 i j (fun q => h (mem_sub (by decide) q))).trans (up_oth hv5 (fun q => h (by rcases q with ⟨rfl, rfl⟩; decide)))), fun i h => (hqa9 i (fun q => h (mem_subn (by decide) q))), fun i h => (hql9 i (fun q => h (mem_subn (by decide) q)))⟩ hP hS dX9_beam_31
    · skip
      refine lv_bipush (v := iI (-2)) hE.1 hE.2.1 dX9_beam_16 (by decide) ?_
      exact kr _ v5 ar al _ _ _ _ rfl ⟨⟨-2, by omega, rfl⟩, hI, fun i j h => (up_oth hv5 (fun q => h (by rcases q with ⟨rfl, rfl⟩; decide))), fun i h => rfl, fun i h => rfl⟩ hP hS dX9_beam_18

theorem dX9_rows_0 : decode cX9_rows 0 = .ok (.aload_n 0, 1) := by decide +kernel
theorem dX9_rows_1 : decode cX9_rows 1 = .ok (.iconst 0, 1) := by decide +kernel
theorem dX9_rows_2 : decode cX9_rows 2 = .ok (.putfield 81, 3) := by decide +kernel
theorem dX9_rows_5 : decode cX9_rows 5 = .ok (.aload_n 0, 1) := by decide +kernel
theorem dX9_rows_6 : decode cX9_rows 6 = .ok (.invokevirtual 301, 3) := by decide +kernel
theorem dX9_rows_9 : decode cX9_rows 9 = .ok (.ifCond .eq 15, 3) := by decide +kernel
theorem dX9_rows_12 : decode cX9_rows 12 = .ok (.iload_n 1, 1) := by decide +kernel
theorem dX9_rows_13 : decode cX9_rows 13 = .ok (.i2l, 1) := by decide +kernel
theorem dX9_rows_14 : decode cX9_rows 14 = .ok (.lconst 0, 1) := by decide +kernel
theorem dX9_rows_15 : decode cX9_rows 15 = .ok (.ldc2_w 368, 3) := by decide +kernel
theorem dX9_rows_18 : decode cX9_rows 18 = .ok (.invokestatic 86, 3) := by decide +kernel
theorem dX9_rows_21 : decode cX9_rows 21 = .ok (.ifCond .ne 6, 3) := by decide +kernel
theorem dX9_rows_24 : decode cX9_rows 24 = .ok (.bipush (-2), 2) := by decide +kernel
theorem dX9_rows_26 : decode cX9_rows 26 = .ok (.ireturn, 1) := by decide +kernel
theorem dX9_rows_27 : decode cX9_rows 27 = .ok (.aload_n 0, 1) := by decide +kernel
theorem dX9_rows_28 : decode cX9_rows 28 = .ok (.iconst 0, 1) := by decide +kernel
theorem dX9_rows_29 : decode cX9_rows 29 = .ok (.iconst 0, 1) := by decide +kernel
theorem dX9_rows_30 : decode cX9_rows 30 = .ok (.iconst (-1), 1) := by decide +kernel
theorem dX9_rows_31 : decode cX9_rows 31 = .ok (.invokevirtual 361, 3) := by decide +kernel
theorem dX9_rows_34 : decode cX9_rows 34 = .ok (.aload_n 0, 1) := by decide +kernel
theorem dX9_rows_35 : decode cX9_rows 35 = .ok (.getfield 62, 3) := by decide +kernel
theorem dX9_rows_38 : decode cX9_rows 38 = .ok (.iload_n 1, 1) := by decide +kernel
theorem dX9_rows_39 : decode cX9_rows 39 = .ok (.iaload, 1) := by decide +kernel
theorem dX9_rows_40 : decode cX9_rows 40 = .ok (.ireturn, 1) := by decide +kernel
set_option maxHeartbeats 4000000 in
set_option maxRecDepth 100000 in
theorem s_X9_rows (l : Launch) (D : va_G) (K : Nat → ClassId) (ad : Nat → Nat) (v ar : sI) (al : sL) (hI : YI v ar) (z_1 : Int) (hz_1 : -2147483648 ≤ z_1 ∧ z_1 ≤ 2147483647) : Met l yX9_rows (wM yX9_rows cX9_rows 2 (some .int)) (rmD 15) (va_Pc [.ref (ad 0), .int (iI (z_1))] (wPre D K ad (yG ad K) 21 v ar al)) (va_Qi (fun (r : Int32) (u : sT) => (∃ z : Int, (-2147483648 ≤ z ∧ z ≤ 2147483647) ∧ r = iI z) ∧ YI u.1 u.2.1 ∧ (∀ i j : Nat, (i, j) ∉ ([(0, 0), (0, 24), (0, 25), (0, 26), (0, 27), (0, 29), (0, 30), (0, 31), (0, 32), (0, 33), (0, 37), (0, 38), (0, 39), (0, 40), (0, 41)] : List (Nat × Nat)) → u.1 i j = v i j) ∧ (∀ i : Nat, i ∉ ([12, 13, 14, 15, 16, 17] : List Nat) → u.2.1 i = ar i) ∧ (∀ i : Nat, i ∉ ([] : List Nat) → u.2.2 i = al i)) (wB D ad (yG ad K) 21) (inW ad 21)) 0 0 (inW ad 21) := by
  refine s_metI (by decide) (Nat.le_of_ble_eq_true rfl) ?_
  intro p e s m below meth c ls args Q hE hB hl kr
  have hE : CallFix p m c cX9_rows 2 s args tbG "TaleCourtModel" := hE
  obtain ⟨hP, hK, hN⟩ := hB
  have hS : va_S (inW ad 21) s.heap s.heap [] := va_S.rf
  have hl : lv_has ls 2 [(0, .ref (ad 0)), (1, .int (iI (z_1)))] := hl
  obtain ⟨z1, hz1, ez1⟩ := iI_of (ar 6 0)
  obtain ⟨z2, hz2, ez2⟩ := YI_h2 hI 2 (by decide)
  obtain ⟨z3, hz3, ez3⟩ := YI_h5 hI 5 (by decide)
  obtain ⟨z4, hz4, ez4⟩ := YI_h0 hI 0 (by decide)
  have ht0 := YI_t0 hI ez1 (by omega) ez2 (by omega) ez3 (by omega) ez4 (by omega)
  refine lv_aload_n hE.1 hE.2.1 dX9_rows_0 rfl (lv_at hl 0 rfl) ?_
  refine lv_iconst (v := iI (0)) hE.1 hE.2.1 dX9_rows_1 (by decide) ?_
  refine x_put (x := iI (0)) hE hK hN hP hS 0 (by decide) (yG_9 rfl) rfl hin9 tyX9 tyX9_ok nmX9 0 (by decide) mw_1334 rfl rfl rfl (Nat.le_of_ble_eq_true rfl) (yG_9 rfl) dX9_rows_2 (fun v5 H locs hv5 hP hS => ?_)
  have hI := YI_putN hI hv5 (by decide)
  refine lv_aload_n hE.1 hE.2.1 dX9_rows_5 rfl (lv_at hl 0 rfl) ?_
  refine x_vp (nn := 0) (As := []) (rest := []) hE (s_X9_isCourt l D K ad v5 ar al hI (z1) (by omega) ez1 ) wPre_blind (wPre_now hK hN hP) (x_recv hK hP 0 (by decide) (yG_9 rfl) rfl) rfl mw_1718 mw_1720 mw_79 mw_123 mw_1721 (by decide +kernel) ⟨by decide, by decide⟩ hl.1 rfl (Nat.le_of_ble_eq_true rfl) ⟨Nat.zero_le _, Nat.zero_le _⟩ dX9_rows_6 (fun r6 hr6 => ?_)
  obtain ⟨z6, hz6, rfl⟩ := hr6
  refine s_if_eq (a := z6) (tgt := 24) hE.1 hE.2.1 (by omega) dX9_rows_9 (by decide) (fun c7 => ?_) (fun c7 => ?_)
  · skip
    refine lv_bipush (v := iI (-2)) hE.1 hE.2.1 dX9_rows_24 (by decide) ?_
    exact kr _ v5 ar al _ _ _ _ rfl ⟨⟨-2, by omega, rfl⟩, hI, fun i j h => (up_oth hv5 (fun q => h (by rcases q with ⟨rfl, rfl⟩; decide))), fun i h => rfl, fun i h => rfl⟩ hP hS dX9_rows_26
  · skip
    refine lv_iload_n hE.1 hE.2.1 dX9_rows_12 rfl (lv_at hl 1 rfl) ?_
    refine lv_i2l (v := lI (z_1)) hE.1 hE.2.1 dX9_rows_13 (iI_i2l (by omega)) ?_
    refine lv_lconst (v := lI (0)) hE.1 hE.2.1 dX9_rows_14 (by decide) ?_
    refine lv_ldc2 (v := 9) hE.1 hE.2.1 hE.2.2.2.1 (hE.2.2.2.2 _ mw_1858) dX9_rows_15 ?_
    refine x_topl (y := lI (9)) (by decide) ?_
    refine x_sp (nn := 3) (As := [.long (lI (z_1)), .long (lI (0)), .long (lI (9))]) (rest := []) hE (s_X9_in l (z_1) (by omega) (0) (by omega) (9) (by omega)) tt_blind (fun _ _ _ => trivial) rfl mw_1494 mw_1495 mw_123 mw_1496 (by decide +kernel) ⟨by decide, by decide⟩ hl.1 rfl (Nat.le_of_ble_eq_true rfl) ⟨Nat.zero_le _, Nat.zero_le _⟩ dX9_rows_18 (fun r8 hr8 => ?_)
    obtain ⟨z8, hz8, rfl⟩ := hr8
    refine s_if_ne (a := z8) (tgt := 27) hE.1 hE.2.1 (by omega) dX9_rows_21 (by decide) (fun c9 => ?_) (fun c9 => ?_)
    · skip
      refine lv_aload_n hE.1 hE.2.1 dX9_rows_27 rfl (lv_at hl 0 rfl) ?_
      refine lv_iconst (v := iI (0)) hE.1 hE.2.1 dX9_rows_28 (by decide) ?_
      refine lv_iconst (v := iI (0)) hE.1 hE.2.1 dX9_rows_29 (by decide) ?_
      refine lv_iconst (v := iI (-1)) hE.1 hE.2.1 dX9_rows_30 (by decide) ?_
      refine x_vv (nn := 3) (As := [.int (iI (0)), .int (iI (0)), .int (iI (-1))]) (rest := []) hE hK hN hP hS (s_X9_goesAll l D K ad v5 ar al hI (z4) (by omega) ez4 (0) (by omega) (0) (by omega) (-1) (by omega) (Or.inl rfl)) (x_recv hK hP 0 (by decide) (yG_9 rfl) rfl) rfl mw_1798 mw_1800 mw_85 mw_123 mw_1801 (by decide +kernel) ⟨by decide, by decide⟩ hl.1 rfl (Nat.le_of_ble_eq_true rfl) ⟨Nat.zero_le _, Nat.zero_le _⟩ dX9_rows_31 (fun v10 ar10 al10 H locs hq10 hP hS => ?_)
      obtain ⟨hI, hq10, hqa10, hql10⟩ := hq10
      have hI : YI v10 ar10 := hI
      refine lv_aload_n hE.1 hE.2.1 dX9_rows_34 rfl (lv_at hl 0 rfl) ?_
      refine x_get (x := .ref (ad 16)) hE hK hP 0 (by decide) (yG_9 rfl) rfl hin9 35 (by decide) mw_1369 rfl dX9_rows_35 ?_
      refine lv_iload_n hE.1 hE.2.1 dX9_rows_38 rfl (lv_at hl 1 rfl) ?_
      refine x_iald (j := iI (z_1)) hE hK hP 16 (by decide) (yG_10 rfl) (iI_in (n := 10) (by omega)) dX9_rows_39 ?_
      obtain ⟨z12, hz12, ez12⟩ := iI_of (ar10 16 (iI (z_1)).toNatClampNeg)
      refine x_top ez12 ?_
      exact kr _ v10 ar10 al10 _ _ _ _ rfl ⟨⟨z12, by omega, rfl⟩, hI, fun i j h => ((hq10 i j (fun q => h (mem_sub (by decide) q))).trans (up_oth hv5 (fun q => h (by rcases q with ⟨rfl, rfl⟩; decide)))), fun i h => (hqa10 i (fun q => h (mem_subn (by decide) q))), fun i h => (hql10 i (fun q => h (mem_subn (by decide) q)))⟩ hP hS dX9_rows_40
    · skip
      refine lv_bipush (v := iI (-2)) hE.1 hE.2.1 dX9_rows_24 (by decide) ?_
      exact kr _ v5 ar al _ _ _ _ rfl ⟨⟨-2, by omega, rfl⟩, hI, fun i j h => (up_oth hv5 (fun q => h (by rcases q with ⟨rfl, rfl⟩; decide))), fun i h => rfl, fun i h => rfl⟩ hP hS dX9_rows_26

theorem dX9_wholesNow_0 : decode cX9_wholesNow 0 = .ok (.aload_n 0, 1) := by decide +kernel
theorem dX9_wholesNow_1 : decode cX9_wholesNow 1 = .ok (.iconst 0, 1) := by decide +kernel
theorem dX9_wholesNow_2 : decode cX9_wholesNow 2 = .ok (.iconst 0, 1) := by decide +kernel
theorem dX9_wholesNow_3 : decode cX9_wholesNow 3 = .ok (.iconst (-1), 1) := by decide +kernel
theorem dX9_wholesNow_4 : decode cX9_wholesNow 4 = .ok (.invokevirtual 361, 3) := by decide +kernel
theorem dX9_wholesNow_7 : decode cX9_wholesNow 7 = .ok (.aload_n 0, 1) := by decide +kernel
theorem dX9_wholesNow_8 : decode cX9_wholesNow 8 = .ok (.getfield 319, 3) := by decide +kernel
theorem dX9_wholesNow_11 : decode cX9_wholesNow 11 = .ok (.ireturn, 1) := by decide +kernel
set_option maxHeartbeats 4000000 in
set_option maxRecDepth 100000 in
theorem s_X9_wholesNow (l : Launch) (D : va_G) (K : Nat → ClassId) (ad : Nat → Nat) (v ar : sI) (al : sL) (hI : YI v ar) (w_1 : Int) (hw_1 : 1 ≤ w_1 ∧ w_1 ≤ 3) (ew_1 : ar 7 0 = iI w_1) : Met l yX9_wholesNow (wM yX9_wholesNow cX9_wholesNow 1 (some .int)) (rmD 15) (va_Pc [.ref (ad 0)] (wPre D K ad (yG ad K) 21 v ar al)) (va_Qi (fun (r : Int32) (u : sT) => (∃ z : Int, (-2147483648 ≤ z ∧ z ≤ 2147483647) ∧ r = iI z) ∧ YI u.1 u.2.1 ∧ (∀ i j : Nat, (i, j) ∉ ([(0, 24), (0, 25), (0, 26), (0, 27), (0, 29), (0, 30), (0, 31), (0, 32), (0, 33), (0, 37), (0, 38), (0, 39), (0, 40), (0, 41)] : List (Nat × Nat)) → u.1 i j = v i j) ∧ (∀ i : Nat, i ∉ ([12, 13, 14, 15, 16, 17] : List Nat) → u.2.1 i = ar i) ∧ (∀ i : Nat, i ∉ ([] : List Nat) → u.2.2 i = al i)) (wB D ad (yG ad K) 21) (inW ad 21)) 0 0 (inW ad 21) := by
  refine s_metI (by decide) (Nat.le_of_ble_eq_true rfl) ?_
  intro p e s m below meth c ls args Q hE hB hl kr
  have hE : CallFix p m c cX9_wholesNow 1 s args tbG "TaleCourtModel" := hE
  obtain ⟨hP, hK, hN⟩ := hB
  have hS : va_S (inW ad 21) s.heap s.heap [] := va_S.rf
  have hl : lv_has ls 1 [(0, .ref (ad 0))] := hl
  refine lv_aload_n hE.1 hE.2.1 dX9_wholesNow_0 rfl (lv_at hl 0 rfl) ?_
  refine lv_iconst (v := iI (0)) hE.1 hE.2.1 dX9_wholesNow_1 (by decide) ?_
  refine lv_iconst (v := iI (0)) hE.1 hE.2.1 dX9_wholesNow_2 (by decide) ?_
  refine lv_iconst (v := iI (-1)) hE.1 hE.2.1 dX9_wholesNow_3 (by decide) ?_
  refine x_vv (nn := 3) (As := [.int (iI (0)), .int (iI (0)), .int (iI (-1))]) (rest := []) hE hK hN hP hS (s_X9_goesAll l D K ad v ar al hI (w_1) (by omega) ew_1 (0) (by omega) (0) (by omega) (-1) (by omega) (Or.inl rfl)) (x_recv hK hP 0 (by decide) (yG_9 rfl) rfl) rfl mw_1798 mw_1800 mw_85 mw_123 mw_1801 (by decide +kernel) ⟨by decide, by decide⟩ hl.1 rfl (Nat.le_of_ble_eq_true rfl) ⟨Nat.zero_le _, Nat.zero_le _⟩ dX9_wholesNow_4 (fun v1 ar1 al1 H locs hq1 hP hS => ?_)
  obtain ⟨hI, hq1, hqa1, hql1⟩ := hq1
  have hI : YI v1 ar1 := hI
  refine lv_aload_n hE.1 hE.2.1 dX9_wholesNow_7 rfl (lv_at hl 0 rfl) ?_
  obtain ⟨z2, hz2, ez2⟩ := iI_of (v1 0 37)
  refine x_get (x := .int (v1 0 37)) hE hK hP 0 (by decide) (yG_9 rfl) rfl hin9 37 (by decide) mw_1371 rfl dX9_wholesNow_8 ?_
  refine x_top (y := iI (z2)) ez2 ?_
  exact kr _ v1 ar1 al1 _ _ _ _ rfl ⟨⟨z2, by omega, rfl⟩, hI, fun i j h => (hq1 i j (fun q => h (mem_sub (by decide) q))), fun i h => (hqa1 i (fun q => h (mem_subn (by decide) q))), fun i h => (hql1 i (fun q => h (mem_subn (by decide) q)))⟩ hP hS dX9_wholesNow_11

theorem dX9_wholes_0 : decode cX9_wholes 0 = .ok (.aload_n 0, 1) := by decide +kernel
theorem dX9_wholes_1 : decode cX9_wholes 1 = .ok (.iconst 0, 1) := by decide +kernel
theorem dX9_wholes_2 : decode cX9_wholes 2 = .ok (.putfield 81, 3) := by decide +kernel
theorem dX9_wholes_5 : decode cX9_wholes 5 = .ok (.aload_n 0, 1) := by decide +kernel
theorem dX9_wholes_6 : decode cX9_wholes 6 = .ok (.invokevirtual 301, 3) := by decide +kernel
theorem dX9_wholes_9 : decode cX9_wholes 9 = .ok (.ifCond .eq 10, 3) := by decide +kernel
theorem dX9_wholes_12 : decode cX9_wholes 12 = .ok (.aload_n 0, 1) := by decide +kernel
theorem dX9_wholes_13 : decode cX9_wholes 13 = .ok (.invokevirtual 370, 3) := by decide +kernel
theorem dX9_wholes_16 : decode cX9_wholes 16 = .ok (.goto 5, 3) := by decide +kernel
theorem dX9_wholes_19 : decode cX9_wholes 19 = .ok (.bipush (-2), 2) := by decide +kernel
theorem dX9_wholes_21 : decode cX9_wholes 21 = .ok (.ireturn, 1) := by decide +kernel
set_option maxHeartbeats 4000000 in
set_option maxRecDepth 100000 in
theorem s_X9_wholes (l : Launch) (D : va_G) (K : Nat → ClassId) (ad : Nat → Nat) (v ar : sI) (al : sL) (hI : YI v ar) : Met l yX9_wholes (wM yX9_wholes cX9_wholes 1 (some .int)) (rmD 16) (va_Pc [.ref (ad 0)] (wPre D K ad (yG ad K) 21 v ar al)) (va_Qi (fun (r : Int32) (u : sT) => (∃ z : Int, (-2147483648 ≤ z ∧ z ≤ 2147483647) ∧ r = iI z) ∧ YI u.1 u.2.1 ∧ (∀ i j : Nat, (i, j) ∉ ([(0, 0), (0, 24), (0, 25), (0, 26), (0, 27), (0, 29), (0, 30), (0, 31), (0, 32), (0, 33), (0, 37), (0, 38), (0, 39), (0, 40), (0, 41)] : List (Nat × Nat)) → u.1 i j = v i j) ∧ (∀ i : Nat, i ∉ ([12, 13, 14, 15, 16, 17] : List Nat) → u.2.1 i = ar i) ∧ (∀ i : Nat, i ∉ ([] : List Nat) → u.2.2 i = al i)) (wB D ad (yG ad K) 21) (inW ad 21)) 0 0 (inW ad 21) := by
  refine s_metI (by decide) (Nat.le_of_ble_eq_true rfl) ?_
  intro p e s m below meth c ls args Q hE hB hl kr
  have hE : CallFix p m c cX9_wholes 1 s args tbG "TaleCourtModel" := hE
  obtain ⟨hP, hK, hN⟩ := hB
  have hS : va_S (inW ad 21) s.heap s.heap [] := va_S.rf
  have hl : lv_has ls 1 [(0, .ref (ad 0))] := hl
  obtain ⟨z1, hz1, ez1⟩ := iI_of (ar 6 0)
  obtain ⟨z2, hz2, ez2⟩ := YI_h2 hI 2 (by decide)
  obtain ⟨z3, hz3, ez3⟩ := YI_h5 hI 5 (by decide)
  obtain ⟨z4, hz4, ez4⟩ := YI_h0 hI 0 (by decide)
  have ht0 := YI_t0 hI ez1 (by omega) ez2 (by omega) ez3 (by omega) ez4 (by omega)
  refine lv_aload_n hE.1 hE.2.1 dX9_wholes_0 rfl (lv_at hl 0 rfl) ?_
  refine lv_iconst (v := iI (0)) hE.1 hE.2.1 dX9_wholes_1 (by decide) ?_
  refine x_put (x := iI (0)) hE hK hN hP hS 0 (by decide) (yG_9 rfl) rfl hin9 tyX9 tyX9_ok nmX9 0 (by decide) mw_1334 rfl rfl rfl (Nat.le_of_ble_eq_true rfl) (yG_9 rfl) dX9_wholes_2 (fun v5 H locs hv5 hP hS => ?_)
  have hI := YI_putN hI hv5 (by decide)
  refine lv_aload_n hE.1 hE.2.1 dX9_wholes_5 rfl (lv_at hl 0 rfl) ?_
  refine x_vp (nn := 0) (As := []) (rest := []) hE (s_X9_isCourt l D K ad v5 ar al hI (z1) (by omega) ez1 ) wPre_blind (wPre_now hK hN hP) (x_recv hK hP 0 (by decide) (yG_9 rfl) rfl) rfl mw_1718 mw_1720 mw_79 mw_123 mw_1721 (by decide +kernel) ⟨by decide, by decide⟩ hl.1 rfl (Nat.le_of_ble_eq_true rfl) ⟨Nat.zero_le _, Nat.zero_le _⟩ dX9_wholes_6 (fun r6 hr6 => ?_)
  obtain ⟨z6, hz6, rfl⟩ := hr6
  refine s_if_eq (a := z6) (tgt := 19) hE.1 hE.2.1 (by omega) dX9_wholes_9 (by decide) (fun c7 => ?_) (fun c7 => ?_)
  · skip
    refine lv_bipush (v := iI (-2)) hE.1 hE.2.1 dX9_wholes_19 (by decide) ?_
    exact kr _ v5 ar al _ _ _ _ rfl ⟨⟨-2, by omega, rfl⟩, hI, fun i j h => (up_oth hv5 (fun q => h (by rcases q with ⟨rfl, rfl⟩; decide))), fun i h => rfl, fun i h => rfl⟩ hP hS dX9_wholes_21
  · skip
    refine lv_aload_n hE.1 hE.2.1 dX9_wholes_12 rfl (lv_at hl 0 rfl) ?_
    refine x_vi (nn := 0) (As := []) (rest := []) hE hK hN hP hS (s_X9_wholesNow l D K ad v5 ar al hI (z4) (by omega) ez4 ) (x_recv hK hP 0 (by decide) (yG_9 rfl) rfl) rfl mw_1863 mw_1865 mw_93 mw_123 mw_1866 (by decide +kernel) ⟨by decide, by decide⟩ hl.1 rfl (Nat.le_of_ble_eq_true rfl) ⟨Nat.zero_le _, Nat.zero_le _⟩ dX9_wholes_13 (fun r8 v8 ar8 al8 H locs hq8 hP hS => ?_)
    obtain ⟨⟨z8, hz8, rfl⟩, hI, hq8, hqa8, hql8⟩ := hq8
    have hI : YI v8 ar8 := hI
    refine lv_goto (tgt := 21) hE.1 hE.2.1 dX9_wholes_16 (by decide) ?_
    exact kr _ v8 ar8 al8 _ _ _ _ rfl ⟨⟨z8, by omega, rfl⟩, hI, fun i j h => ((hq8 i j (fun q => h (mem_sub (by decide) q))).trans (up_oth hv5 (fun q => h (by rcases q with ⟨rfl, rfl⟩; decide)))), fun i h => (hqa8 i (fun q => h (mem_subn (by decide) q))), fun i h => (hql8 i (fun q => h (mem_subn (by decide) q)))⟩ hP hS dX9_wholes_21

theorem dX9_ends__0 : decode cX9_ends_ 0 = .ok (.aload_n 0, 1) := by decide +kernel
theorem dX9_ends__1 : decode cX9_ends_ 1 = .ok (.iconst 0, 1) := by decide +kernel
theorem dX9_ends__2 : decode cX9_ends_ 2 = .ok (.putfield 81, 3) := by decide +kernel
theorem dX9_ends__5 : decode cX9_ends_ 5 = .ok (.aload_n 0, 1) := by decide +kernel
theorem dX9_ends__6 : decode cX9_ends_ 6 = .ok (.iload_n 1, 1) := by decide +kernel
theorem dX9_ends__7 : decode cX9_ends_ 7 = .ok (.i2l, 1) := by decide +kernel
theorem dX9_ends__8 : decode cX9_ends_ 8 = .ok (.invokevirtual 253, 3) := by decide +kernel
theorem dX9_ends__11 : decode cX9_ends_ 11 = .ok (.ifCond .ne 6, 3) := by decide +kernel
theorem dX9_ends__14 : decode cX9_ends_ 14 = .ok (.bipush (-2), 2) := by decide +kernel
theorem dX9_ends__16 : decode cX9_ends_ 16 = .ok (.ireturn, 1) := by decide +kernel
theorem dX9_ends__17 : decode cX9_ends_ 17 = .ok (.aload_n 0, 1) := by decide +kernel
theorem dX9_ends__18 : decode cX9_ends_ 18 = .ok (.iconst 0, 1) := by decide +kernel
theorem dX9_ends__19 : decode cX9_ends_ 19 = .ok (.iconst 0, 1) := by decide +kernel
theorem dX9_ends__20 : decode cX9_ends_ 20 = .ok (.iconst (-1), 1) := by decide +kernel
theorem dX9_ends__21 : decode cX9_ends_ 21 = .ok (.invokevirtual 361, 3) := by decide +kernel
theorem dX9_ends__24 : decode cX9_ends_ 24 = .ok (.aload_n 0, 1) := by decide +kernel
theorem dX9_ends__25 : decode cX9_ends_ 25 = .ok (.getfield 65, 3) := by decide +kernel
theorem dX9_ends__28 : decode cX9_ends_ 28 = .ok (.iload_n 1, 1) := by decide +kernel
theorem dX9_ends__29 : decode cX9_ends_ 29 = .ok (.iaload, 1) := by decide +kernel
theorem dX9_ends__30 : decode cX9_ends_ 30 = .ok (.ireturn, 1) := by decide +kernel
set_option maxHeartbeats 4000000 in
set_option maxRecDepth 100000 in
theorem s_X9_ends_ (l : Launch) (D : va_G) (K : Nat → ClassId) (ad : Nat → Nat) (v ar : sI) (al : sL) (hI : YI v ar) (z_1 : Int) (hz_1 : -2147483648 ≤ z_1 ∧ z_1 ≤ 2147483647) : Met l yX9_ends_ (wM yX9_ends_ cX9_ends_ 2 (some .int)) (rmD 15) (va_Pc [.ref (ad 0), .int (iI (z_1))] (wPre D K ad (yG ad K) 21 v ar al)) (va_Qi (fun (r : Int32) (u : sT) => (∃ z : Int, (-2147483648 ≤ z ∧ z ≤ 2147483647) ∧ r = iI z) ∧ YI u.1 u.2.1 ∧ (∀ i j : Nat, (i, j) ∉ ([(0, 0), (0, 24), (0, 25), (0, 26), (0, 27), (0, 29), (0, 30), (0, 31), (0, 32), (0, 33), (0, 37), (0, 38), (0, 39), (0, 40), (0, 41)] : List (Nat × Nat)) → u.1 i j = v i j) ∧ (∀ i : Nat, i ∉ ([12, 13, 14, 15, 16, 17] : List Nat) → u.2.1 i = ar i) ∧ (∀ i : Nat, i ∉ ([] : List Nat) → u.2.2 i = al i)) (wB D ad (yG ad K) 21) (inW ad 21)) 0 0 (inW ad 21) := by
  refine s_metI (by decide) (Nat.le_of_ble_eq_true rfl) ?_
  intro p e s m below meth c ls args Q hE hB hl kr
  have hE : CallFix p m c cX9_ends_ 2 s args tbG "TaleCourtModel" := hE
  obtain ⟨hP, hK, hN⟩ := hB
  have hS : va_S (inW ad 21) s.heap s.heap [] := va_S.rf
  have hl : lv_has ls 2 [(0, .ref (ad 0)), (1, .int (iI (z_1)))] := hl
  obtain ⟨z1, hz1, ez1⟩ := iI_of (ar 6 0)
  obtain ⟨z2, hz2, ez2⟩ := YI_h2 hI 2 (by decide)
  obtain ⟨z3, hz3, ez3⟩ := YI_h5 hI 5 (by decide)
  obtain ⟨z4, hz4, ez4⟩ := YI_h0 hI 0 (by decide)
  have ht0 := YI_t0 hI ez1 (by omega) ez2 (by omega) ez3 (by omega) ez4 (by omega)
  refine lv_aload_n hE.1 hE.2.1 dX9_ends__0 rfl (lv_at hl 0 rfl) ?_
  refine lv_iconst (v := iI (0)) hE.1 hE.2.1 dX9_ends__1 (by decide) ?_
  refine x_put (x := iI (0)) hE hK hN hP hS 0 (by decide) (yG_9 rfl) rfl hin9 tyX9 tyX9_ok nmX9 0 (by decide) mw_1334 rfl rfl rfl (Nat.le_of_ble_eq_true rfl) (yG_9 rfl) dX9_ends__2 (fun v5 H locs hv5 hP hS => ?_)
  have hI := YI_putN hI hv5 (by decide)
  refine lv_aload_n hE.1 hE.2.1 dX9_ends__5 rfl (lv_at hl 0 rfl) ?_
  refine lv_iload_n hE.1 hE.2.1 dX9_ends__6 rfl (lv_at hl 1 rfl) ?_
  refine lv_i2l (v := lI (z_1)) hE.1 hE.2.1 dX9_ends__7 (iI_i2l (by omega)) ?_
  refine x_vp (nn := 1) (As := [.long (lI (z_1))]) (rest := []) hE (s_X9_isMotif l D K ad v5 ar al hI (z2) (by omega) ez2 (z_1) (by omega)) wPre_blind (wPre_now hK hN hP) (x_recv hK hP 0 (by decide) (yG_9 rfl) rfl) rfl mw_1662 mw_1664 mw_74 mw_123 mw_1665 (by decide +kernel) ⟨by decide, by decide⟩ hl.1 rfl (Nat.le_of_ble_eq_true rfl) ⟨Nat.zero_le _, Nat.zero_le _⟩ dX9_ends__8 (fun r6 hr6 => ?_)
  obtain ⟨z6, hz6, rfl⟩ := hr6
  refine s_if_ne (a := z6) (tgt := 17) hE.1 hE.2.1 (by omega) dX9_ends__11 (by decide) (fun c7 => ?_) (fun c7 => ?_)
  · skip
    refine lv_aload_n hE.1 hE.2.1 dX9_ends__17 rfl (lv_at hl 0 rfl) ?_
    refine lv_iconst (v := iI (0)) hE.1 hE.2.1 dX9_ends__18 (by decide) ?_
    refine lv_iconst (v := iI (0)) hE.1 hE.2.1 dX9_ends__19 (by decide) ?_
    refine lv_iconst (v := iI (-1)) hE.1 hE.2.1 dX9_ends__20 (by decide) ?_
    refine x_vv (nn := 3) (As := [.int (iI (0)), .int (iI (0)), .int (iI (-1))]) (rest := []) hE hK hN hP hS (s_X9_goesAll l D K ad v5 ar al hI (z4) (by omega) ez4 (0) (by omega) (0) (by omega) (-1) (by omega) (Or.inl rfl)) (x_recv hK hP 0 (by decide) (yG_9 rfl) rfl) rfl mw_1798 mw_1800 mw_85 mw_123 mw_1801 (by decide +kernel) ⟨by decide, by decide⟩ hl.1 rfl (Nat.le_of_ble_eq_true rfl) ⟨Nat.zero_le _, Nat.zero_le _⟩ dX9_ends__21 (fun v8 ar8 al8 H locs hq8 hP hS => ?_)
    obtain ⟨hI, hq8, hqa8, hql8⟩ := hq8
    have hI : YI v8 ar8 := hI
    refine lv_aload_n hE.1 hE.2.1 dX9_ends__24 rfl (lv_at hl 0 rfl) ?_
    refine x_get (x := .ref (ad 17)) hE hK hP 0 (by decide) (yG_9 rfl) rfl hin9 36 (by decide) mw_1370 rfl dX9_ends__25 ?_
    refine lv_iload_n hE.1 hE.2.1 dX9_ends__28 rfl (lv_at hl 1 rfl) ?_
    refine x_iald (j := iI (z_1)) hE hK hP 17 (by decide) (yG_10 rfl) (iI_in (n := 9) (by omega)) dX9_ends__29 ?_
    obtain ⟨z10, hz10, ez10⟩ := iI_of (ar8 17 (iI (z_1)).toNatClampNeg)
    refine x_top ez10 ?_
    exact kr _ v8 ar8 al8 _ _ _ _ rfl ⟨⟨z10, by omega, rfl⟩, hI, fun i j h => ((hq8 i j (fun q => h (mem_sub (by decide) q))).trans (up_oth hv5 (fun q => h (by rcases q with ⟨rfl, rfl⟩; decide)))), fun i h => (hqa8 i (fun q => h (mem_subn (by decide) q))), fun i h => (hql8 i (fun q => h (mem_subn (by decide) q)))⟩ hP hS dX9_ends__30
  · skip
    refine lv_bipush (v := iI (-2)) hE.1 hE.2.1 dX9_ends__14 (by decide) ?_
    exact kr _ v5 ar al _ _ _ _ rfl ⟨⟨-2, by omega, rfl⟩, hI, fun i j h => (up_oth hv5 (fun q => h (by rcases q with ⟨rfl, rfl⟩; decide))), fun i h => rfl, fun i h => rfl⟩ hP hS dX9_ends__16

theorem dX9_always_0 : decode cX9_always 0 = .ok (.aload_n 0, 1) := by decide +kernel
theorem dX9_always_1 : decode cX9_always 1 = .ok (.iconst 0, 1) := by decide +kernel
theorem dX9_always_2 : decode cX9_always 2 = .ok (.putfield 81, 3) := by decide +kernel
theorem dX9_always_5 : decode cX9_always 5 = .ok (.aload_n 0, 1) := by decide +kernel
theorem dX9_always_6 : decode cX9_always 6 = .ok (.invokevirtual 301, 3) := by decide +kernel
theorem dX9_always_9 : decode cX9_always 9 = .ok (.ifCond .eq 13, 3) := by decide +kernel
theorem dX9_always_12 : decode cX9_always 12 = .ok (.iload_n 1, 1) := by decide +kernel
theorem dX9_always_13 : decode cX9_always 13 = .ok (.i2l, 1) := by decide +kernel
theorem dX9_always_14 : decode cX9_always 14 = .ok (.lconst 0, 1) := by decide +kernel
theorem dX9_always_15 : decode cX9_always 15 = .ok (.lconst 1, 1) := by decide +kernel
theorem dX9_always_16 : decode cX9_always 16 = .ok (.invokestatic 86, 3) := by decide +kernel
theorem dX9_always_19 : decode cX9_always 19 = .ok (.ifCond .ne 6, 3) := by decide +kernel
theorem dX9_always_22 : decode cX9_always 22 = .ok (.bipush (-2), 2) := by decide +kernel
theorem dX9_always_24 : decode cX9_always 24 = .ok (.ireturn, 1) := by decide +kernel
theorem dX9_always_25 : decode cX9_always 25 = .ok (.aload_n 0, 1) := by decide +kernel
theorem dX9_always_26 : decode cX9_always 26 = .ok (.iconst 0, 1) := by decide +kernel
theorem dX9_always_27 : decode cX9_always 27 = .ok (.iconst 0, 1) := by decide +kernel
theorem dX9_always_28 : decode cX9_always 28 = .ok (.iconst (-1), 1) := by decide +kernel
theorem dX9_always_29 : decode cX9_always 29 = .ok (.invokevirtual 361, 3) := by decide +kernel
theorem dX9_always_32 : decode cX9_always 32 = .ok (.aload_n 0, 1) := by decide +kernel
theorem dX9_always_33 : decode cX9_always 33 = .ok (.getfield 319, 3) := by decide +kernel
theorem dX9_always_36 : decode cX9_always 36 = .ok (.ifCond .ne 7, 3) := by decide +kernel
theorem dX9_always_39 : decode cX9_always 39 = .ok (.iconst 0, 1) := by decide +kernel
theorem dX9_always_40 : decode cX9_always 40 = .ok (.goto 18, 3) := by decide +kernel
theorem dX9_always_43 : decode cX9_always 43 = .ok (.iload_n 1, 1) := by decide +kernel
theorem dX9_always_44 : decode cX9_always 44 = .ok (.ifCond .ne 10, 3) := by decide +kernel
theorem dX9_always_47 : decode cX9_always 47 = .ok (.aload_n 0, 1) := by decide +kernel
theorem dX9_always_48 : decode cX9_always 48 = .ok (.getfield 322, 3) := by decide +kernel
theorem dX9_always_51 : decode cX9_always 51 = .ok (.goto 7, 3) := by decide +kernel
theorem dX9_always_54 : decode cX9_always 54 = .ok (.aload_n 0, 1) := by decide +kernel
theorem dX9_always_55 : decode cX9_always 55 = .ok (.getfield 325, 3) := by decide +kernel
theorem dX9_always_58 : decode cX9_always 58 = .ok (.ireturn, 1) := by decide +kernel
set_option maxHeartbeats 4000000 in
set_option maxRecDepth 100000 in
theorem s_X9_always (l : Launch) (D : va_G) (K : Nat → ClassId) (ad : Nat → Nat) (v ar : sI) (al : sL) (hI : YI v ar) (z_1 : Int) (hz_1 : -2147483648 ≤ z_1 ∧ z_1 ≤ 2147483647) : Met l yX9_always (wM yX9_always cX9_always 2 (some .int)) (rmD 15) (va_Pc [.ref (ad 0), .int (iI (z_1))] (wPre D K ad (yG ad K) 21 v ar al)) (va_Qi (fun (r : Int32) (u : sT) => (∃ z : Int, (-2147483648 ≤ z ∧ z ≤ 2147483647) ∧ r = iI z) ∧ YI u.1 u.2.1 ∧ (∀ i j : Nat, (i, j) ∉ ([(0, 0), (0, 24), (0, 25), (0, 26), (0, 27), (0, 29), (0, 30), (0, 31), (0, 32), (0, 33), (0, 37), (0, 38), (0, 39), (0, 40), (0, 41)] : List (Nat × Nat)) → u.1 i j = v i j) ∧ (∀ i : Nat, i ∉ ([12, 13, 14, 15, 16, 17] : List Nat) → u.2.1 i = ar i) ∧ (∀ i : Nat, i ∉ ([] : List Nat) → u.2.2 i = al i)) (wB D ad (yG ad K) 21) (inW ad 21)) 0 0 (inW ad 21) := by
  refine s_metI (by decide) (Nat.le_of_ble_eq_true rfl) ?_
  intro p e s m below meth c ls args Q hE hB hl kr
  have hE : CallFix p m c cX9_always 2 s args tbG "TaleCourtModel" := hE
  obtain ⟨hP, hK, hN⟩ := hB
  have hS : va_S (inW ad 21) s.heap s.heap [] := va_S.rf
  have hl : lv_has ls 2 [(0, .ref (ad 0)), (1, .int (iI (z_1)))] := hl
  obtain ⟨z1, hz1, ez1⟩ := iI_of (ar 6 0)
  obtain ⟨z2, hz2, ez2⟩ := YI_h2 hI 2 (by decide)
  obtain ⟨z3, hz3, ez3⟩ := YI_h5 hI 5 (by decide)
  obtain ⟨z4, hz4, ez4⟩ := YI_h0 hI 0 (by decide)
  have ht0 := YI_t0 hI ez1 (by omega) ez2 (by omega) ez3 (by omega) ez4 (by omega)
  refine lv_aload_n hE.1 hE.2.1 dX9_always_0 rfl (lv_at hl 0 rfl) ?_
  refine lv_iconst (v := iI (0)) hE.1 hE.2.1 dX9_always_1 (by decide) ?_
  refine x_put (x := iI (0)) hE hK hN hP hS 0 (by decide) (yG_9 rfl) rfl hin9 tyX9 tyX9_ok nmX9 0 (by decide) mw_1334 rfl rfl rfl (Nat.le_of_ble_eq_true rfl) (yG_9 rfl) dX9_always_2 (fun v5 H locs hv5 hP hS => ?_)
  have hI := YI_putN hI hv5 (by decide)
  refine lv_aload_n hE.1 hE.2.1 dX9_always_5 rfl (lv_at hl 0 rfl) ?_
  refine x_vp (nn := 0) (As := []) (rest := []) hE (s_X9_isCourt l D K ad v5 ar al hI (z1) (by omega) ez1 ) wPre_blind (wPre_now hK hN hP) (x_recv hK hP 0 (by decide) (yG_9 rfl) rfl) rfl mw_1718 mw_1720 mw_79 mw_123 mw_1721 (by decide +kernel) ⟨by decide, by decide⟩ hl.1 rfl (Nat.le_of_ble_eq_true rfl) ⟨Nat.zero_le _, Nat.zero_le _⟩ dX9_always_6 (fun r6 hr6 => ?_)
  obtain ⟨z6, hz6, rfl⟩ := hr6
  refine s_if_eq (a := z6) (tgt := 22) hE.1 hE.2.1 (by omega) dX9_always_9 (by decide) (fun c7 => ?_) (fun c7 => ?_)
  · skip
    refine lv_bipush (v := iI (-2)) hE.1 hE.2.1 dX9_always_22 (by decide) ?_
    exact kr _ v5 ar al _ _ _ _ rfl ⟨⟨-2, by omega, rfl⟩, hI, fun i j h => (up_oth hv5 (fun q => h (by rcases q with ⟨rfl, rfl⟩; decide))), fun i h => rfl, fun i h => rfl⟩ hP hS dX9_always_24
  · skip
    refine lv_iload_n hE.1 hE.2.1 dX9_always_12 rfl (lv_at hl 1 rfl) ?_
    refine lv_i2l (v := lI (z_1)) hE.1 hE.2.1 dX9_always_13 (iI_i2l (by omega)) ?_
    refine lv_lconst (v := lI (0)) hE.1 hE.2.1 dX9_always_14 (by decide) ?_
    refine lv_lconst (v := lI (1)) hE.1 hE.2.1 dX9_always_15 (by decide) ?_
    refine x_sp (nn := 3) (As := [.long (lI (z_1)), .long (lI (0)), .long (lI (1))]) (rest := []) hE (s_X9_in l (z_1) (by omega) (0) (by omega) (1) (by omega)) tt_blind (fun _ _ _ => trivial) rfl mw_1494 mw_1495 mw_123 mw_1496 (by decide +kernel) ⟨by decide, by decide⟩ hl.1 rfl (Nat.le_of_ble_eq_true rfl) ⟨Nat.zero_le _, Nat.zero_le _⟩ dX9_always_16 (fun r8 hr8 => ?_)
    obtain ⟨z8, hz8, rfl⟩ := hr8
    refine s_if_ne (a := z8) (tgt := 25) hE.1 hE.2.1 (by omega) dX9_always_19 (by decide) (fun c9 => ?_) (fun c9 => ?_)
    · skip
      refine lv_aload_n hE.1 hE.2.1 dX9_always_25 rfl (lv_at hl 0 rfl) ?_
      refine lv_iconst (v := iI (0)) hE.1 hE.2.1 dX9_always_26 (by decide) ?_
      refine lv_iconst (v := iI (0)) hE.1 hE.2.1 dX9_always_27 (by decide) ?_
      refine lv_iconst (v := iI (-1)) hE.1 hE.2.1 dX9_always_28 (by decide) ?_
      refine x_vv (nn := 3) (As := [.int (iI (0)), .int (iI (0)), .int (iI (-1))]) (rest := []) hE hK hN hP hS (s_X9_goesAll l D K ad v5 ar al hI (z4) (by omega) ez4 (0) (by omega) (0) (by omega) (-1) (by omega) (Or.inl rfl)) (x_recv hK hP 0 (by decide) (yG_9 rfl) rfl) rfl mw_1798 mw_1800 mw_85 mw_123 mw_1801 (by decide +kernel) ⟨by decide, by decide⟩ hl.1 rfl (Nat.le_of_ble_eq_true rfl) ⟨Nat.zero_le _, Nat.zero_le _⟩ dX9_always_29 (fun v10 ar10 al10 H locs hq10 hP hS => ?_)
      obtain ⟨hI, hq10, hqa10, hql10⟩ := hq10
      have hI : YI v10 ar10 := hI
      refine lv_aload_n hE.1 hE.2.1 dX9_always_32 rfl (lv_at hl 0 rfl) ?_
      obtain ⟨z11, hz11, ez11⟩ := iI_of (v10 0 37)
      refine x_get (x := .int (v10 0 37)) hE hK hP 0 (by decide) (yG_9 rfl) rfl hin9 37 (by decide) mw_1371 rfl dX9_always_33 ?_
      refine x_top (y := iI (z11)) ez11 ?_
      refine s_if_ne (a := z11) (tgt := 43) hE.1 hE.2.1 (by omega) dX9_always_36 (by decide) (fun c12 => ?_) (fun c12 => ?_)
      · skip
        refine lv_iload_n hE.1 hE.2.1 dX9_always_43 rfl (lv_at hl 1 rfl) ?_
        refine s_if_ne (a := z_1) (tgt := 54) hE.1 hE.2.1 (by omega) dX9_always_44 (by decide) (fun c13 => ?_) (fun c13 => ?_)
        · skip
          refine lv_aload_n hE.1 hE.2.1 dX9_always_54 rfl (lv_at hl 0 rfl) ?_
          obtain ⟨z14, hz14, ez14⟩ := iI_of (v10 0 39)
          refine x_get (x := .int (v10 0 39)) hE hK hP 0 (by decide) (yG_9 rfl) rfl hin9 39 (by decide) mw_1373 rfl dX9_always_55 ?_
          refine x_top (y := iI (z14)) ez14 ?_
          exact kr _ v10 ar10 al10 _ _ _ _ rfl ⟨⟨z14, by omega, rfl⟩, hI, fun i j h => ((hq10 i j (fun q => h (mem_sub (by decide) q))).trans (up_oth hv5 (fun q => h (by rcases q with ⟨rfl, rfl⟩; decide)))), fun i h => (hqa10 i (fun q => h (mem_subn (by decide) q))), fun i h => (hql10 i (fun q => h (mem_subn (by decide) q)))⟩ hP hS dX9_always_58
        · skip
          refine lv_aload_n hE.1 hE.2.1 dX9_always_47 rfl (lv_at hl 0 rfl) ?_
          obtain ⟨z15, hz15, ez15⟩ := iI_of (v10 0 38)
          refine x_get (x := .int (v10 0 38)) hE hK hP 0 (by decide) (yG_9 rfl) rfl hin9 38 (by decide) mw_1372 rfl dX9_always_48 ?_
          refine x_top (y := iI (z15)) ez15 ?_
          refine lv_goto (tgt := 58) hE.1 hE.2.1 dX9_always_51 (by decide) ?_
          exact kr _ v10 ar10 al10 _ _ _ _ rfl ⟨⟨z15, by omega, rfl⟩, hI, fun i j h => ((hq10 i j (fun q => h (mem_sub (by decide) q))).trans (up_oth hv5 (fun q => h (by rcases q with ⟨rfl, rfl⟩; decide)))), fun i h => (hqa10 i (fun q => h (mem_subn (by decide) q))), fun i h => (hql10 i (fun q => h (mem_subn (by decide) q)))⟩ hP hS dX9_always_58
      · skip
        refine lv_iconst (v := iI (0)) hE.1 hE.2.1 dX9_always_39 (by decide) ?_
        refine lv_goto (tgt := 58) hE.1 hE.2.1 dX9_always_40 (by decide) ?_
        exact kr _ v10 ar10 al10 _ _ _ _ rfl ⟨⟨0, by omega, rfl⟩, hI, fun i j h => ((hq10 i j (fun q => h (mem_sub (by decide) q))).trans (up_oth hv5 (fun q => h (by rcases q with ⟨rfl, rfl⟩; decide)))), fun i h => (hqa10 i (fun q => h (mem_subn (by decide) q))), fun i h => (hql10 i (fun q => h (mem_subn (by decide) q)))⟩ hP hS dX9_always_58
    · skip
      refine lv_bipush (v := iI (-2)) hE.1 hE.2.1 dX9_always_22 (by decide) ?_
      exact kr _ v5 ar al _ _ _ _ rfl ⟨⟨-2, by omega, rfl⟩, hI, fun i j h => (up_oth hv5 (fun q => h (by rcases q with ⟨rfl, rfl⟩; decide))), fun i h => rfl, fun i h => rfl⟩ hP hS dX9_always_24

theorem dX9_around_0 : decode cX9_around 0 = .ok (.aload_n 0, 1) := by decide +kernel
theorem dX9_around_1 : decode cX9_around 1 = .ok (.iconst 0, 1) := by decide +kernel
theorem dX9_around_2 : decode cX9_around 2 = .ok (.putfield 81, 3) := by decide +kernel
theorem dX9_around_5 : decode cX9_around 5 = .ok (.aload_n 0, 1) := by decide +kernel
theorem dX9_around_6 : decode cX9_around 6 = .ok (.iload_n 1, 1) := by decide +kernel
theorem dX9_around_7 : decode cX9_around 7 = .ok (.i2l, 1) := by decide +kernel
theorem dX9_around_8 : decode cX9_around 8 = .ok (.invokevirtual 253, 3) := by decide +kernel
theorem dX9_around_11 : decode cX9_around 11 = .ok (.ifCond .ne 6, 3) := by decide +kernel
theorem dX9_around_14 : decode cX9_around 14 = .ok (.bipush (-2), 2) := by decide +kernel
theorem dX9_around_16 : decode cX9_around 16 = .ok (.ireturn, 1) := by decide +kernel
theorem dX9_around_17 : decode cX9_around 17 = .ok (.aload_n 0, 1) := by decide +kernel
theorem dX9_around_18 : decode cX9_around 18 = .ok (.iconst 0, 1) := by decide +kernel
theorem dX9_around_19 : decode cX9_around 19 = .ok (.iconst 0, 1) := by decide +kernel
theorem dX9_around_20 : decode cX9_around 20 = .ok (.iconst (-1), 1) := by decide +kernel
theorem dX9_around_21 : decode cX9_around 21 = .ok (.invokevirtual 361, 3) := by decide +kernel
theorem dX9_around_24 : decode cX9_around 24 = .ok (.aload_n 0, 1) := by decide +kernel
theorem dX9_around_25 : decode cX9_around 25 = .ok (.getfield 65, 3) := by decide +kernel
theorem dX9_around_28 : decode cX9_around 28 = .ok (.iload_n 1, 1) := by decide +kernel
theorem dX9_around_29 : decode cX9_around 29 = .ok (.iaload, 1) := by decide +kernel
theorem dX9_around_30 : decode cX9_around 30 = .ok (.ireturn, 1) := by decide +kernel
set_option maxHeartbeats 4000000 in
set_option maxRecDepth 100000 in
theorem s_X9_around (l : Launch) (D : va_G) (K : Nat → ClassId) (ad : Nat → Nat) (v ar : sI) (al : sL) (hI : YI v ar) (z_1 : Int) (hz_1 : -2147483648 ≤ z_1 ∧ z_1 ≤ 2147483647) : Met l yX9_around (wM yX9_around cX9_around 2 (some .int)) (rmD 15) (va_Pc [.ref (ad 0), .int (iI (z_1))] (wPre D K ad (yG ad K) 21 v ar al)) (va_Qi (fun (r : Int32) (u : sT) => (∃ z : Int, (-2147483648 ≤ z ∧ z ≤ 2147483647) ∧ r = iI z) ∧ YI u.1 u.2.1 ∧ (∀ i j : Nat, (i, j) ∉ ([(0, 0), (0, 24), (0, 25), (0, 26), (0, 27), (0, 29), (0, 30), (0, 31), (0, 32), (0, 33), (0, 37), (0, 38), (0, 39), (0, 40), (0, 41)] : List (Nat × Nat)) → u.1 i j = v i j) ∧ (∀ i : Nat, i ∉ ([12, 13, 14, 15, 16, 17] : List Nat) → u.2.1 i = ar i) ∧ (∀ i : Nat, i ∉ ([] : List Nat) → u.2.2 i = al i)) (wB D ad (yG ad K) 21) (inW ad 21)) 0 0 (inW ad 21) := by
  refine s_metI (by decide) (Nat.le_of_ble_eq_true rfl) ?_
  intro p e s m below meth c ls args Q hE hB hl kr
  have hE : CallFix p m c cX9_around 2 s args tbG "TaleCourtModel" := hE
  obtain ⟨hP, hK, hN⟩ := hB
  have hS : va_S (inW ad 21) s.heap s.heap [] := va_S.rf
  have hl : lv_has ls 2 [(0, .ref (ad 0)), (1, .int (iI (z_1)))] := hl
  obtain ⟨z1, hz1, ez1⟩ := iI_of (ar 6 0)
  obtain ⟨z2, hz2, ez2⟩ := YI_h2 hI 2 (by decide)
  obtain ⟨z3, hz3, ez3⟩ := YI_h5 hI 5 (by decide)
  obtain ⟨z4, hz4, ez4⟩ := YI_h0 hI 0 (by decide)
  have ht0 := YI_t0 hI ez1 (by omega) ez2 (by omega) ez3 (by omega) ez4 (by omega)
  refine lv_aload_n hE.1 hE.2.1 dX9_around_0 rfl (lv_at hl 0 rfl) ?_
  refine lv_iconst (v := iI (0)) hE.1 hE.2.1 dX9_around_1 (by decide) ?_
  refine x_put (x := iI (0)) hE hK hN hP hS 0 (by decide) (yG_9 rfl) rfl hin9 tyX9 tyX9_ok nmX9 0 (by decide) mw_1334 rfl rfl rfl (Nat.le_of_ble_eq_true rfl) (yG_9 rfl) dX9_around_2 (fun v5 H locs hv5 hP hS => ?_)
  have hI := YI_putN hI hv5 (by decide)
  refine lv_aload_n hE.1 hE.2.1 dX9_around_5 rfl (lv_at hl 0 rfl) ?_
  refine lv_iload_n hE.1 hE.2.1 dX9_around_6 rfl (lv_at hl 1 rfl) ?_
  refine lv_i2l (v := lI (z_1)) hE.1 hE.2.1 dX9_around_7 (iI_i2l (by omega)) ?_
  refine x_vp (nn := 1) (As := [.long (lI (z_1))]) (rest := []) hE (s_X9_isMotif l D K ad v5 ar al hI (z2) (by omega) ez2 (z_1) (by omega)) wPre_blind (wPre_now hK hN hP) (x_recv hK hP 0 (by decide) (yG_9 rfl) rfl) rfl mw_1662 mw_1664 mw_74 mw_123 mw_1665 (by decide +kernel) ⟨by decide, by decide⟩ hl.1 rfl (Nat.le_of_ble_eq_true rfl) ⟨Nat.zero_le _, Nat.zero_le _⟩ dX9_around_8 (fun r6 hr6 => ?_)
  obtain ⟨z6, hz6, rfl⟩ := hr6
  refine s_if_ne (a := z6) (tgt := 17) hE.1 hE.2.1 (by omega) dX9_around_11 (by decide) (fun c7 => ?_) (fun c7 => ?_)
  · skip
    refine lv_aload_n hE.1 hE.2.1 dX9_around_17 rfl (lv_at hl 0 rfl) ?_
    refine lv_iconst (v := iI (0)) hE.1 hE.2.1 dX9_around_18 (by decide) ?_
    refine lv_iconst (v := iI (0)) hE.1 hE.2.1 dX9_around_19 (by decide) ?_
    refine lv_iconst (v := iI (-1)) hE.1 hE.2.1 dX9_around_20 (by decide) ?_
    refine x_vv (nn := 3) (As := [.int (iI (0)), .int (iI (0)), .int (iI (-1))]) (rest := []) hE hK hN hP hS (s_X9_goesAll l D K ad v5 ar al hI (z4) (by omega) ez4 (0) (by omega) (0) (by omega) (-1) (by omega) (Or.inl rfl)) (x_recv hK hP 0 (by decide) (yG_9 rfl) rfl) rfl mw_1798 mw_1800 mw_85 mw_123 mw_1801 (by decide +kernel) ⟨by decide, by decide⟩ hl.1 rfl (Nat.le_of_ble_eq_true rfl) ⟨Nat.zero_le _, Nat.zero_le _⟩ dX9_around_21 (fun v8 ar8 al8 H locs hq8 hP hS => ?_)
    obtain ⟨hI, hq8, hqa8, hql8⟩ := hq8
    have hI : YI v8 ar8 := hI
    refine lv_aload_n hE.1 hE.2.1 dX9_around_24 rfl (lv_at hl 0 rfl) ?_
    refine x_get (x := .ref (ad 17)) hE hK hP 0 (by decide) (yG_9 rfl) rfl hin9 36 (by decide) mw_1370 rfl dX9_around_25 ?_
    refine lv_iload_n hE.1 hE.2.1 dX9_around_28 rfl (lv_at hl 1 rfl) ?_
    refine x_iald (j := iI (z_1)) hE hK hP 17 (by decide) (yG_10 rfl) (iI_in (n := 9) (by omega)) dX9_around_29 ?_
    obtain ⟨z10, hz10, ez10⟩ := iI_of (ar8 17 (iI (z_1)).toNatClampNeg)
    refine x_top ez10 ?_
    exact kr _ v8 ar8 al8 _ _ _ _ rfl ⟨⟨z10, by omega, rfl⟩, hI, fun i j h => ((hq8 i j (fun q => h (mem_sub (by decide) q))).trans (up_oth hv5 (fun q => h (by rcases q with ⟨rfl, rfl⟩; decide)))), fun i h => (hqa8 i (fun q => h (mem_subn (by decide) q))), fun i h => (hql8 i (fun q => h (mem_subn (by decide) q)))⟩ hP hS dX9_around_30
  · skip
    refine lv_bipush (v := iI (-2)) hE.1 hE.2.1 dX9_around_14 (by decide) ?_
    exact kr _ v5 ar al _ _ _ _ rfl ⟨⟨-2, by omega, rfl⟩, hI, fun i j h => (up_oth hv5 (fun q => h (by rcases q with ⟨rfl, rfl⟩; decide))), fun i h => rfl, fun i h => rfl⟩ hP hS dX9_around_16

theorem dX9_wholesWithout_0 : decode cX9_wholesWithout 0 = .ok (.aload_n 0, 1) := by decide +kernel
theorem dX9_wholesWithout_1 : decode cX9_wholesWithout 1 = .ok (.iload_n 1, 1) := by decide +kernel
theorem dX9_wholesWithout_2 : decode cX9_wholesWithout 2 = .ok (.putfield 68, 3) := by decide +kernel
theorem dX9_wholesWithout_5 : decode cX9_wholesWithout 5 = .ok (.aload_n 0, 1) := by decide +kernel
theorem dX9_wholesWithout_6 : decode cX9_wholesWithout 6 = .ok (.invokevirtual 370, 3) := by decide +kernel
theorem dX9_wholesWithout_9 : decode cX9_wholesWithout 9 = .ok (.istore_n 2, 1) := by decide +kernel
theorem dX9_wholesWithout_10 : decode cX9_wholesWithout 10 = .ok (.aload_n 0, 1) := by decide +kernel
theorem dX9_wholesWithout_11 : decode cX9_wholesWithout 11 = .ok (.iconst (-1), 1) := by decide +kernel
theorem dX9_wholesWithout_12 : decode cX9_wholesWithout 12 = .ok (.putfield 68, 3) := by decide +kernel
theorem dX9_wholesWithout_15 : decode cX9_wholesWithout 15 = .ok (.iload_n 2, 1) := by decide +kernel
theorem dX9_wholesWithout_16 : decode cX9_wholesWithout 16 = .ok (.ireturn, 1) := by decide +kernel
set_option maxHeartbeats 4000000 in
set_option maxRecDepth 100000 in
theorem s_X9_wholesWithout (l : Launch) (D : va_G) (K : Nat → ClassId) (ad : Nat → Nat) (v ar : sI) (al : sL) (hI : YI v ar) (w_1 : Int) (hw_1 : 1 ≤ w_1 ∧ w_1 ≤ 3) (ew_1 : ar 7 0 = iI w_1) (z_1 : Int) (hz_1 : -2147483648 ≤ z_1 ∧ z_1 ≤ 2147483647) : Met l yX9_wholesWithout (wM yX9_wholesWithout cX9_wholesWithout 3 (some .int)) (rmD 16) (va_Pc [.ref (ad 0), .int (iI (z_1))] (wPre D K ad (yG ad K) 21 v ar al)) (va_Qi (fun (r : Int32) (u : sT) => (∃ z : Int, (-2147483648 ≤ z ∧ z ≤ 2147483647) ∧ r = iI z) ∧ YI u.1 u.2.1 ∧ (∀ i j : Nat, (i, j) ∉ ([(0, 24), (0, 25), (0, 26), (0, 27), (0, 29), (0, 30), (0, 31), (0, 32), (0, 33), (0, 37), (0, 38), (0, 39), (0, 40), (0, 41), (0, 42)] : List (Nat × Nat)) → u.1 i j = v i j) ∧ (∀ i : Nat, i ∉ ([12, 13, 14, 15, 16, 17] : List Nat) → u.2.1 i = ar i) ∧ (∀ i : Nat, i ∉ ([] : List Nat) → u.2.2 i = al i)) (wB D ad (yG ad K) 21) (inW ad 21)) 0 0 (inW ad 21) := by
  refine s_metI (by decide) (Nat.le_of_ble_eq_true rfl) ?_
  intro p e s m below meth c ls args Q hE hB hl kr
  have hE : CallFix p m c cX9_wholesWithout 3 s args tbG "TaleCourtModel" := hE
  obtain ⟨hP, hK, hN⟩ := hB
  have hS : va_S (inW ad 21) s.heap s.heap [] := va_S.rf
  have hl : lv_has ls 3 [(0, .ref (ad 0)), (1, .int (iI (z_1)))] := hl
  refine lv_aload_n hE.1 hE.2.1 dX9_wholesWithout_0 rfl (lv_at hl 0 rfl) ?_
  refine lv_iload_n hE.1 hE.2.1 dX9_wholesWithout_1 rfl (lv_at hl 1 rfl) ?_
  refine x_put (x := iI (z_1)) hE hK hN hP hS 0 (by decide) (yG_9 rfl) rfl hin9 tyX9 tyX9_ok nmX9 42 (by decide) mw_1376 rfl rfl rfl (Nat.le_of_ble_eq_true rfl) (yG_9 rfl) dX9_wholesWithout_2 (fun v1 H locs hv1 hP hS => ?_)
  have hI := YI_putN hI hv1 (by decide)
  refine lv_aload_n hE.1 hE.2.1 dX9_wholesWithout_5 rfl (lv_at hl 0 rfl) ?_
  refine x_vi (nn := 0) (As := []) (rest := []) hE hK hN hP hS (s_X9_wholesNow l D K ad v1 ar al hI (w_1) (by omega) ew_1 ) (x_recv hK hP 0 (by decide) (yG_9 rfl) rfl) rfl mw_1863 mw_1865 mw_93 mw_123 mw_1866 (by decide +kernel) ⟨by decide, by decide⟩ hl.1 rfl (Nat.le_of_ble_eq_true rfl) ⟨Nat.zero_le _, Nat.zero_le _⟩ dX9_wholesWithout_6 (fun r2 v2 ar2 al2 H locs hq2 hP hS => ?_)
  obtain ⟨⟨z2, hz2, rfl⟩, hI, hq2, hqa2, hql2⟩ := hq2
  have hI : YI v2 ar2 := hI
  refine lv_istore_n (lv' := [(2, .int (iI (z2))), (0, .ref (ad 0)), (1, .int (iI (z_1)))]) hE.1 hE.2.1 dX9_wholesWithout_9 rfl hl (by decide) rfl (fun ls hl => ?_)
  refine lv_aload_n hE.1 hE.2.1 dX9_wholesWithout_10 rfl (lv_at hl 1 rfl) ?_
  refine lv_iconst (v := iI (-1)) hE.1 hE.2.1 dX9_wholesWithout_11 (by decide) ?_
  refine x_put (x := iI (-1)) hE hK hN hP hS 0 (by decide) (yG_9 rfl) rfl hin9 tyX9 tyX9_ok nmX9 42 (by decide) mw_1376 rfl rfl rfl (Nat.le_of_ble_eq_true rfl) (yG_9 rfl) dX9_wholesWithout_12 (fun v3 H locs hv3 hP hS => ?_)
  have hI := YI_putN hI hv3 (by decide)
  refine lv_iload_n hE.1 hE.2.1 dX9_wholesWithout_15 rfl (lv_at hl 0 rfl) ?_
  exact kr _ v3 ar2 al2 _ _ _ _ rfl ⟨⟨z2, by omega, rfl⟩, hI, fun i j h => ((up_oth hv3 (fun q => h (by rcases q with ⟨rfl, rfl⟩; decide))).trans ((hq2 i j (fun q => h (mem_sub (by decide) q))).trans (up_oth hv1 (fun q => h (by rcases q with ⟨rfl, rfl⟩; decide))))), fun i h => (hqa2 i (fun q => h (mem_subn (by decide) q))), fun i h => (hql2 i (fun q => h (mem_subn (by decide) q)))⟩ hP hS dX9_wholesWithout_16

theorem dX9_lack_0 : decode cX9_lack 0 = .ok (.aload_n 0, 1) := by decide +kernel
theorem dX9_lack_1 : decode cX9_lack 1 = .ok (.iconst 0, 1) := by decide +kernel
theorem dX9_lack_2 : decode cX9_lack 2 = .ok (.putfield 81, 3) := by decide +kernel
theorem dX9_lack_5 : decode cX9_lack 5 = .ok (.aload_n 0, 1) := by decide +kernel
theorem dX9_lack_6 : decode cX9_lack 6 = .ok (.iload_n 1, 1) := by decide +kernel
theorem dX9_lack_7 : decode cX9_lack 7 = .ok (.i2l, 1) := by decide +kernel
theorem dX9_lack_8 : decode cX9_lack 8 = .ok (.invokevirtual 253, 3) := by decide +kernel
theorem dX9_lack_11 : decode cX9_lack 11 = .ok (.ifCond .eq 16, 3) := by decide +kernel
theorem dX9_lack_14 : decode cX9_lack 14 = .ok (.aload_n 0, 1) := by decide +kernel
theorem dX9_lack_15 : decode cX9_lack 15 = .ok (.invokevirtual 370, 3) := by decide +kernel
theorem dX9_lack_18 : decode cX9_lack 18 = .ok (.aload_n 0, 1) := by decide +kernel
theorem dX9_lack_19 : decode cX9_lack 19 = .ok (.iload_n 1, 1) := by decide +kernel
theorem dX9_lack_20 : decode cX9_lack 20 = .ok (.invokevirtual 412, 3) := by decide +kernel
theorem dX9_lack_23 : decode cX9_lack 23 = .ok (.isub, 1) := by decide +kernel
theorem dX9_lack_24 : decode cX9_lack 24 = .ok (.goto 5, 3) := by decide +kernel
theorem dX9_lack_27 : decode cX9_lack 27 = .ok (.bipush (-2), 2) := by decide +kernel
theorem dX9_lack_29 : decode cX9_lack 29 = .ok (.ireturn, 1) := by decide +kernel
set_option maxHeartbeats 4000000 in
set_option maxRecDepth 100000 in
theorem s_X9_lack (l : Launch) (D : va_G) (K : Nat → ClassId) (ad : Nat → Nat) (v ar : sI) (al : sL) (hI : YI v ar) (z_1 : Int) (hz_1 : -2147483648 ≤ z_1 ∧ z_1 ≤ 2147483647) : Met l yX9_lack (wM yX9_lack cX9_lack 2 (some .int)) (rmD 17) (va_Pc [.ref (ad 0), .int (iI (z_1))] (wPre D K ad (yG ad K) 21 v ar al)) (va_Qi (fun (r : Int32) (u : sT) => (∃ z : Int, (-2147483648 ≤ z ∧ z ≤ 2147483647) ∧ r = iI z) ∧ YI u.1 u.2.1 ∧ (∀ i j : Nat, (i, j) ∉ ([(0, 0), (0, 24), (0, 25), (0, 26), (0, 27), (0, 29), (0, 30), (0, 31), (0, 32), (0, 33), (0, 37), (0, 38), (0, 39), (0, 40), (0, 41), (0, 42)] : List (Nat × Nat)) → u.1 i j = v i j) ∧ (∀ i : Nat, i ∉ ([12, 13, 14, 15, 16, 17] : List Nat) → u.2.1 i = ar i) ∧ (∀ i : Nat, i ∉ ([] : List Nat) → u.2.2 i = al i)) (wB D ad (yG ad K) 21) (inW ad 21)) 0 0 (inW ad 21) := by
  refine s_metI (by decide) (Nat.le_of_ble_eq_true rfl) ?_
  intro p e s m below meth c ls args Q hE hB hl kr
  have hE : CallFix p m c cX9_lack 2 s args tbG "TaleCourtModel" := hE
  obtain ⟨hP, hK, hN⟩ := hB
  have hS : va_S (inW ad 21) s.heap s.heap [] := va_S.rf
  have hl : lv_has ls 2 [(0, .ref (ad 0)), (1, .int (iI (z_1)))] := hl
  obtain ⟨z1, hz1, ez1⟩ := iI_of (ar 6 0)
  obtain ⟨z2, hz2, ez2⟩ := YI_h2 hI 2 (by decide)
  obtain ⟨z3, hz3, ez3⟩ := YI_h5 hI 5 (by decide)
  obtain ⟨z4, hz4, ez4⟩ := YI_h0 hI 0 (by decide)
  have ht0 := YI_t0 hI ez1 (by omega) ez2 (by omega) ez3 (by omega) ez4 (by omega)
  refine lv_aload_n hE.1 hE.2.1 dX9_lack_0 rfl (lv_at hl 0 rfl) ?_
  refine lv_iconst (v := iI (0)) hE.1 hE.2.1 dX9_lack_1 (by decide) ?_
  refine x_put (x := iI (0)) hE hK hN hP hS 0 (by decide) (yG_9 rfl) rfl hin9 tyX9 tyX9_ok nmX9 0 (by decide) mw_1334 rfl rfl rfl (Nat.le_of_ble_eq_true rfl) (yG_9 rfl) dX9_lack_2 (fun v5 H locs hv5 hP hS => ?_)
  have hI := YI_putN hI hv5 (by decide)
  refine lv_aload_n hE.1 hE.2.1 dX9_lack_5 rfl (lv_at hl 0 rfl) ?_
  refine lv_iload_n hE.1 hE.2.1 dX9_lack_6 rfl (lv_at hl 1 rfl) ?_
  refine lv_i2l (v := lI (z_1)) hE.1 hE.2.1 dX9_lack_7 (iI_i2l (by omega)) ?_
  refine x_vp (nn := 1) (As := [.long (lI (z_1))]) (rest := []) hE (s_X9_isMotif l D K ad v5 ar al hI (z2) (by omega) ez2 (z_1) (by omega)) wPre_blind (wPre_now hK hN hP) (x_recv hK hP 0 (by decide) (yG_9 rfl) rfl) rfl mw_1662 mw_1664 mw_74 mw_123 mw_1665 (by decide +kernel) ⟨by decide, by decide⟩ hl.1 rfl (Nat.le_of_ble_eq_true rfl) ⟨Nat.zero_le _, Nat.zero_le _⟩ dX9_lack_8 (fun r6 hr6 => ?_)
  obtain ⟨z6, hz6, rfl⟩ := hr6
  refine s_if_eq (a := z6) (tgt := 27) hE.1 hE.2.1 (by omega) dX9_lack_11 (by decide) (fun c7 => ?_) (fun c7 => ?_)
  · skip
    refine lv_bipush (v := iI (-2)) hE.1 hE.2.1 dX9_lack_27 (by decide) ?_
    exact kr _ v5 ar al _ _ _ _ rfl ⟨⟨-2, by omega, rfl⟩, hI, fun i j h => (up_oth hv5 (fun q => h (by rcases q with ⟨rfl, rfl⟩; decide))), fun i h => rfl, fun i h => rfl⟩ hP hS dX9_lack_29
  · skip
    refine lv_aload_n hE.1 hE.2.1 dX9_lack_14 rfl (lv_at hl 0 rfl) ?_
    refine x_vi (nn := 0) (As := []) (rest := []) hE hK hN hP hS (s_X9_wholesNow l D K ad v5 ar al hI (z4) (by omega) ez4 ) (x_recv hK hP 0 (by decide) (yG_9 rfl) rfl) rfl mw_1863 mw_1865 mw_93 mw_123 mw_1866 (by decide +kernel) ⟨by decide, by decide⟩ hl.1 rfl (Nat.le_of_ble_eq_true rfl) ⟨Nat.zero_le _, Nat.zero_le _⟩ dX9_lack_15 (fun r8 v8 ar8 al8 H locs hq8 hP hS => ?_)
    obtain ⟨⟨z8, hz8, rfl⟩, hI, hq8, hqa8, hql8⟩ := hq8
    have hI : YI v8 ar8 := hI
    refine lv_aload_n hE.1 hE.2.1 dX9_lack_18 rfl (lv_at hl 0 rfl) ?_
    refine lv_iload_n hE.1 hE.2.1 dX9_lack_19 rfl (lv_at hl 1 rfl) ?_
    refine x_vi (nn := 1) (As := [.int (iI (z_1))]) (rest := [.int (iI (z8))]) hE hK hN hP hS (s_X9_wholesWithout l D K ad v8 ar8 al8 hI (z4) (by omega) ((congrFun (hqa8 7 (by decide)) 0).trans ez4) (z_1) (by omega)) (x_recv hK hP 0 (by decide) (yG_9 rfl) rfl) rfl mw_1958 mw_1960 mw_103 mw_123 mw_1961 (by decide +kernel) ⟨by decide, by decide⟩ hl.1 rfl (Nat.le_of_ble_eq_true rfl) ⟨Nat.zero_le _, Nat.zero_le _⟩ dX9_lack_20 (fun r9 v9 ar9 al9 H locs hq9 hP hS => ?_)
    obtain ⟨⟨z9, hz9, rfl⟩, hI, hq9, hqa9, hql9⟩ := hq9
    have hI : YI v9 ar9 := hI
    refine lv_isub hE.1 hE.2.1 dX9_lack_23 ?_
    obtain ⟨z10, hz10, ez10⟩ := iI_of (iI (z8) - iI (z9))
    refine x_top ez10 ?_
    refine lv_goto (tgt := 29) hE.1 hE.2.1 dX9_lack_24 (by decide) ?_
    exact kr _ v9 ar9 al9 _ _ _ _ rfl ⟨⟨z10, by omega, rfl⟩, hI, fun i j h => ((hq9 i j (fun q => h (mem_sub (by decide) q))).trans ((hq8 i j (fun q => h (mem_sub (by decide) q))).trans (up_oth hv5 (fun q => h (by rcases q with ⟨rfl, rfl⟩; decide))))), fun i h => ((hqa9 i (fun q => h (mem_subn (by decide) q))).trans (hqa8 i (fun q => h (mem_subn (by decide) q)))), fun i h => ((hql9 i (fun q => h (mem_subn (by decide) q))).trans (hql8 i (fun q => h (mem_subn (by decide) q))))⟩ hP hS dX9_lack_29

theorem dX9_crux_0 : decode cX9_crux 0 = .ok (.aload_n 0, 1) := by decide +kernel
theorem dX9_crux_1 : decode cX9_crux 1 = .ok (.iconst 0, 1) := by decide +kernel
theorem dX9_crux_2 : decode cX9_crux 2 = .ok (.putfield 81, 3) := by decide +kernel
theorem dX9_crux_5 : decode cX9_crux 5 = .ok (.aload_n 0, 1) := by decide +kernel
theorem dX9_crux_6 : decode cX9_crux 6 = .ok (.invokevirtual 301, 3) := by decide +kernel
theorem dX9_crux_9 : decode cX9_crux 9 = .ok (.ifCond .ne 6, 3) := by decide +kernel
theorem dX9_crux_12 : decode cX9_crux 12 = .ok (.bipush (-2), 2) := by decide +kernel
theorem dX9_crux_14 : decode cX9_crux 14 = .ok (.ireturn, 1) := by decide +kernel
theorem dX9_crux_15 : decode cX9_crux 15 = .ok (.iconst (-1), 1) := by decide +kernel
theorem dX9_crux_16 : decode cX9_crux 16 = .ok (.istore_n 1, 1) := by decide +kernel
theorem dX9_crux_17 : decode cX9_crux 17 = .ok (.iconst 0, 1) := by decide +kernel
theorem dX9_crux_18 : decode cX9_crux 18 = .ok (.istore_n 2, 1) := by decide +kernel
theorem dX9_crux_19 : decode cX9_crux 19 = .ok (.iconst 0, 1) := by decide +kernel
theorem dX9_crux_20 : decode cX9_crux 20 = .ok (.istore_n 3, 1) := by decide +kernel
theorem dX9_crux_21 : decode cX9_crux 21 = .ok (.iload_n 3, 1) := by decide +kernel
theorem dX9_crux_22 : decode cX9_crux 22 = .ok (.aload_n 0, 1) := by decide +kernel
theorem dX9_crux_23 : decode cX9_crux 23 = .ok (.getfield 34, 3) := by decide +kernel
theorem dX9_crux_26 : decode cX9_crux 26 = .ok (.iconst 2, 1) := by decide +kernel
theorem dX9_crux_27 : decode cX9_crux 27 = .ok (.iaload, 1) := by decide +kernel
theorem dX9_crux_28 : decode cX9_crux 28 = .ok (.if_icmp .ge 35, 3) := by decide +kernel
theorem dX9_crux_31 : decode cX9_crux 31 = .ok (.aload_n 0, 1) := by decide +kernel
theorem dX9_crux_32 : decode cX9_crux 32 = .ok (.iload_n 3, 1) := by decide +kernel
theorem dX9_crux_33 : decode cX9_crux 33 = .ok (.invokevirtual 412, 3) := by decide +kernel
theorem dX9_crux_36 : decode cX9_crux 36 = .ok (.istore 4, 2) := by decide +kernel
theorem dX9_crux_38 : decode cX9_crux 38 = .ok (.iload_n 1, 1) := by decide +kernel
theorem dX9_crux_39 : decode cX9_crux 39 = .ok (.iconst (-1), 1) := by decide +kernel
theorem dX9_crux_40 : decode cX9_crux 40 = .ok (.if_icmp .eq 12, 3) := by decide +kernel
theorem dX9_crux_43 : decode cX9_crux 43 = .ok (.iload 4, 2) := by decide +kernel
theorem dX9_crux_45 : decode cX9_crux 45 = .ok (.iload_n 2, 1) := by decide +kernel
theorem dX9_crux_46 : decode cX9_crux 46 = .ok (.if_icmp .lt 6, 3) := by decide +kernel
theorem dX9_crux_49 : decode cX9_crux 49 = .ok (.goto 8, 3) := by decide +kernel
theorem dX9_crux_52 : decode cX9_crux 52 = .ok (.iload_n 3, 1) := by decide +kernel
theorem dX9_crux_53 : decode cX9_crux 53 = .ok (.istore_n 1, 1) := by decide +kernel
theorem dX9_crux_54 : decode cX9_crux 54 = .ok (.iload 4, 2) := by decide +kernel
theorem dX9_crux_56 : decode cX9_crux 56 = .ok (.istore_n 2, 1) := by decide +kernel
theorem dX9_crux_57 : decode cX9_crux 57 = .ok (.iinc 3 1, 3) := by decide +kernel
theorem dX9_crux_60 : decode cX9_crux 60 = .ok (.goto (-39), 3) := by decide +kernel
theorem dX9_crux_63 : decode cX9_crux 63 = .ok (.iload_n 1, 1) := by decide +kernel
theorem dX9_crux_64 : decode cX9_crux 64 = .ok (.ireturn, 1) := by decide +kernel
set_option maxHeartbeats 4000000 in
set_option maxRecDepth 100000 in
theorem s_X9_crux (l : Launch) (D : va_G) (K : Nat → ClassId) (ad : Nat → Nat) (v ar : sI) (al : sL) (hI : YI v ar) : Met l yX9_crux (wM yX9_crux cX9_crux 5 (some .int)) (rmD 17) (va_Pc [.ref (ad 0)] (wPre D K ad (yG ad K) 21 v ar al)) (va_Qi (fun (r : Int32) (u : sT) => (∃ z : Int, (-2147483648 ≤ z ∧ z ≤ 2147483647) ∧ r = iI z) ∧ YI u.1 u.2.1 ∧ (∀ i j : Nat, (i, j) ∉ ([(0, 0), (0, 24), (0, 25), (0, 26), (0, 27), (0, 29), (0, 30), (0, 31), (0, 32), (0, 33), (0, 37), (0, 38), (0, 39), (0, 40), (0, 41), (0, 42)] : List (Nat × Nat)) → u.1 i j = v i j) ∧ (∀ i : Nat, i ∉ ([12, 13, 14, 15, 16, 17] : List Nat) → u.2.1 i = ar i) ∧ (∀ i : Nat, i ∉ ([] : List Nat) → u.2.2 i = al i)) (wB D ad (yG ad K) 21) (inW ad 21)) 0 0 (inW ad 21) := by
  refine s_metI (by decide) (Nat.le_of_ble_eq_true rfl) ?_
  intro p e s m below meth c ls args Q hE hB hl kr
  have hE : CallFix p m c cX9_crux 5 s args tbG "TaleCourtModel" := hE
  obtain ⟨hP, hK, hN⟩ := hB
  have hS : va_S (inW ad 21) s.heap s.heap [] := va_S.rf
  have hl : lv_has ls 5 [(0, .ref (ad 0))] := hl
  obtain ⟨z1, hz1, ez1⟩ := iI_of (ar 6 0)
  obtain ⟨z2, hz2, ez2⟩ := YI_h2 hI 2 (by decide)
  obtain ⟨z3, hz3, ez3⟩ := YI_h5 hI 5 (by decide)
  obtain ⟨z4, hz4, ez4⟩ := YI_h0 hI 0 (by decide)
  have ht0 := YI_t0 hI ez1 (by omega) ez2 (by omega) ez3 (by omega) ez4 (by omega)
  refine lv_aload_n hE.1 hE.2.1 dX9_crux_0 rfl (lv_at hl 0 rfl) ?_
  refine lv_iconst (v := iI (0)) hE.1 hE.2.1 dX9_crux_1 (by decide) ?_
  refine x_put (x := iI (0)) hE hK hN hP hS 0 (by decide) (yG_9 rfl) rfl hin9 tyX9 tyX9_ok nmX9 0 (by decide) mw_1334 rfl rfl rfl (Nat.le_of_ble_eq_true rfl) (yG_9 rfl) dX9_crux_2 (fun v5 H locs hv5 hP hS => ?_)
  have hI := YI_putN hI hv5 (by decide)
  refine lv_aload_n hE.1 hE.2.1 dX9_crux_5 rfl (lv_at hl 0 rfl) ?_
  refine x_vp (nn := 0) (As := []) (rest := []) hE (s_X9_isCourt l D K ad v5 ar al hI (z1) (by omega) ez1 ) wPre_blind (wPre_now hK hN hP) (x_recv hK hP 0 (by decide) (yG_9 rfl) rfl) rfl mw_1718 mw_1720 mw_79 mw_123 mw_1721 (by decide +kernel) ⟨by decide, by decide⟩ hl.1 rfl (Nat.le_of_ble_eq_true rfl) ⟨Nat.zero_le _, Nat.zero_le _⟩ dX9_crux_6 (fun r6 hr6 => ?_)
  obtain ⟨z6, hz6, rfl⟩ := hr6
  refine s_if_ne (a := z6) (tgt := 15) hE.1 hE.2.1 (by omega) dX9_crux_9 (by decide) (fun c7 => ?_) (fun c7 => ?_)
  · skip
    refine lv_iconst (v := iI (-1)) hE.1 hE.2.1 dX9_crux_15 (by decide) ?_
    refine lv_istore_n (lv' := [(1, .int (iI (-1))), (0, .ref (ad 0))]) hE.1 hE.2.1 dX9_crux_16 rfl hl (by decide) rfl (fun ls hl => ?_)
    refine lv_iconst (v := iI (0)) hE.1 hE.2.1 dX9_crux_17 (by decide) ?_
    refine lv_istore_n (lv' := [(2, .int (iI (0))), (1, .int (iI (-1))), (0, .ref (ad 0))]) hE.1 hE.2.1 dX9_crux_18 rfl hl (by decide) rfl (fun ls hl => ?_)
    refine lv_iconst (v := iI (0)) hE.1 hE.2.1 dX9_crux_19 (by decide) ?_
    refine lv_istore_n (lv' := [(3, .int (iI (0))), (2, .int (iI (0))), (1, .int (iI (-1))), (0, .ref (ad 0))]) hE.1 hE.2.1 dX9_crux_20 rfl hl (by decide) rfl (fun ls hl => ?_)
    have loop8 : ∀ (k8 : Nat) (y8_3 : Int) (y8_2 : Int) (y8_1 : Int) (vl8 arl8 : sI) (all8 : sL) (H : Heap) (locs : List Loc) (ls : Array Slot), (9 - y8_3).toNat = k8 → (0 ≤ y8_3 ∧ y8_3 ≤ 9) → (-2147483648 ≤ y8_2 ∧ y8_2 ≤ 2147483647) → (-2147483648 ≤ y8_1 ∧ y8_1 ≤ 2147483647) → YI vl8 arl8 → (∀ i j : Nat, (i, j) ∉ ([(0, 24), (0, 25), (0, 26), (0, 27), (0, 29), (0, 30), (0, 31), (0, 32), (0, 33), (0, 37), (0, 38), (0, 39), (0, 40), (0, 41), (0, 42)] : List (Nat × Nat)) → vl8 i j = v5 i j) → (∀ i : Nat, i ∉ ([12, 13, 14, 15, 16, 17] : List Nat) → arl8 i = ar i) → (∀ i : Nat, i ∉ ([] : List Nat) → all8 i = al i) → va_P D xcl (wW ad (yG ad K) 21 vl8 arl8 all8) H → va_S (inW ad 21) s.heap H locs → lv_has ls 5 [(3, .int (iI (y8_3))), (2, .int (iI (y8_2))), (1, .int (iI (y8_1))), (0, .ref (ad 0))] → W p l e (rmD 17) s m args below meth c H locs 0 0 Q (F0 m 21 ls []) := by
      intro k8
      induction k8 using Nat.strongRecOn with
      | _ k8 ih8 =>
        intro y8_3 y8_2 y8_1  vl8 arl8 all8 H locs ls hk8 hb_y8_3 hb_y8_2 hb_y8_1 hI hfr8 hfa8 hfl8 hP hS hl
        refine lv_iload_n hE.1 hE.2.1 dX9_crux_21 rfl (lv_at hl 0 rfl) ?_
        refine lv_aload_n hE.1 hE.2.1 dX9_crux_22 rfl (lv_at hl 3 rfl) ?_
        refine x_get (x := .ref (ad 7)) hE hK hP 0 (by decide) (yG_9 rfl) rfl hin9 17 (by decide) mw_1351 rfl dX9_crux_23 ?_
        refine lv_iconst (v := iI (2)) hE.1 hE.2.1 dX9_crux_26 (by decide) ?_
        refine x_iald (j := iI (2)) hE hK hP 7 (by decide) (yG_10 rfl) (iI_in (n := 30) (by omega)) dX9_crux_27 ?_
        refine x_top (y := iI (z2)) (by rw [show (iI (2)).toNatClampNeg = 2 from by decide]; exact ((congrFun (hfa8 7 (by decide)) 2).trans ez2)) ?_
        refine s_icmp_ge (a := y8_3) (b := z2) (tgt := 63) hE.1 hE.2.1 (by omega) (by omega) dX9_crux_28 (by decide) (fun c10 => ?_) (fun c10 => ?_)
        · skip
          refine lv_iload_n hE.1 hE.2.1 dX9_crux_63 rfl (lv_at hl 2 rfl) ?_
          exact kr _ vl8 arl8 all8 _ _ _ _ rfl ⟨⟨y8_1, by omega, rfl⟩, hI, fun i j h => ((hfr8 i j (fun q => h (mem_sub (by decide) q))).trans (up_oth hv5 (fun q => h (by rcases q with ⟨rfl, rfl⟩; decide)))), fun i h => (hfa8 i (fun q => h (mem_subn (by decide) q))), fun i h => (hfl8 i (fun q => h (mem_subn (by decide) q)))⟩ hP hS dX9_crux_64
        · skip
          refine lv_aload_n hE.1 hE.2.1 dX9_crux_31 rfl (lv_at hl 3 rfl) ?_
          refine lv_iload_n hE.1 hE.2.1 dX9_crux_32 rfl (lv_at hl 0 rfl) ?_
          refine x_vi (nn := 1) (As := [.int (iI (y8_3))]) (rest := []) hE hK hN hP hS (s_X9_wholesWithout l D K ad vl8 arl8 all8 hI (z4) (by omega) ((congrFun (hfa8 7 (by decide)) 0).trans ez4) (y8_3) (by omega)) (x_recv hK hP 0 (by decide) (yG_9 rfl) rfl) rfl mw_1958 mw_1960 mw_103 mw_123 mw_1961 (by decide +kernel) ⟨by decide, by decide⟩ hl.1 rfl (Nat.le_of_ble_eq_true rfl) ⟨Nat.zero_le _, Nat.zero_le _⟩ dX9_crux_33 (fun r11 v11 ar11 al11 H locs hq11 hP hS => ?_)
          obtain ⟨⟨z11, hz11, rfl⟩, hI, hq11, hqa11, hql11⟩ := hq11
          have hI : YI v11 ar11 := hI
          refine lv_istore (lv' := [(4, .int (iI (z11))), (3, .int (iI (y8_3))), (2, .int (iI (y8_2))), (1, .int (iI (y8_1))), (0, .ref (ad 0))]) hE.1 hE.2.1 dX9_crux_36 hl (by decide) rfl (fun ls hl => ?_)
          refine lv_iload_n hE.1 hE.2.1 dX9_crux_38 rfl (lv_at hl 3 rfl) ?_
          refine lv_iconst (v := iI (-1)) hE.1 hE.2.1 dX9_crux_39 (by decide) ?_
          refine s_icmp_eq (a := y8_1) (b := -1) (tgt := 52) hE.1 hE.2.1 (by omega) (by omega) dX9_crux_40 (by decide) (fun c12 => ?_) (fun c12 => ?_)
          · skip
            refine lv_iload_n hE.1 hE.2.1 dX9_crux_52 rfl (lv_at hl 1 rfl) ?_
            refine lv_istore_n (lv' := [(1, .int (iI (y8_3))), (4, .int (iI (z11))), (3, .int (iI (y8_3))), (2, .int (iI (y8_2))), (0, .ref (ad 0))]) hE.1 hE.2.1 dX9_crux_53 rfl hl (by decide) rfl (fun ls hl => ?_)
            refine lv_iload hE.1 hE.2.1 dX9_crux_54 (lv_at hl 1 rfl) ?_
            refine lv_istore_n (lv' := [(2, .int (iI (z11))), (1, .int (iI (y8_3))), (4, .int (iI (z11))), (3, .int (iI (y8_3))), (0, .ref (ad 0))]) hE.1 hE.2.1 dX9_crux_56 rfl hl (by decide) rfl (fun ls hl => ?_)
            refine lv_iinc (v := iI (y8_3 + 1)) (lv' := [(3, .int (iI (y8_3 + 1))), (2, .int (iI (z11))), (1, .int (iI (y8_3))), (4, .int (iI (z11))), (0, .ref (ad 0))]) hE.1 hE.2.1 dX9_crux_57 hl (k := 3) rfl ((iI_add (y8_3) (1)).trans (congrArg iI (by omega))) (by decide) rfl (fun ls hl => ?_)
            refine lv_goto (tgt := 21) hE.1 hE.2.1 dX9_crux_60 (by decide) ?_
            exact ih8 _ (by omega) (y8_3 + 1) (z11) (y8_3)  v11 ar11 al11 _ _ _ rfl (by omega) (by omega) (by omega)  hI (fun i j h => ((hq11 i j (fun q => h (mem_sub (by decide) q))).trans (hfr8 i j h))) (fun i h => ((hqa11 i (fun q => h (mem_subn (by decide) q))).trans (hfa8 i h))) (fun i h => ((hql11 i (fun q => h (mem_subn (by decide) q))).trans (hfl8 i h))) hP hS (lv_sub hl [0, 1, 2, 4] rfl)
          · skip
            refine lv_iload hE.1 hE.2.1 dX9_crux_43 (lv_at hl 0 rfl) ?_
            refine lv_iload_n hE.1 hE.2.1 dX9_crux_45 rfl (lv_at hl 2 rfl) ?_
            refine s_icmp_lt (a := z11) (b := y8_2) (tgt := 52) hE.1 hE.2.1 (by omega) (by omega) dX9_crux_46 (by decide) (fun c13 => ?_) (fun c13 => ?_)
            · skip
              refine lv_iload_n hE.1 hE.2.1 dX9_crux_52 rfl (lv_at hl 1 rfl) ?_
              refine lv_istore_n (lv' := [(1, .int (iI (y8_3))), (4, .int (iI (z11))), (3, .int (iI (y8_3))), (2, .int (iI (y8_2))), (0, .ref (ad 0))]) hE.1 hE.2.1 dX9_crux_53 rfl hl (by decide) rfl (fun ls hl => ?_)
              refine lv_iload hE.1 hE.2.1 dX9_crux_54 (lv_at hl 1 rfl) ?_
              refine lv_istore_n (lv' := [(2, .int (iI (z11))), (1, .int (iI (y8_3))), (4, .int (iI (z11))), (3, .int (iI (y8_3))), (0, .ref (ad 0))]) hE.1 hE.2.1 dX9_crux_56 rfl hl (by decide) rfl (fun ls hl => ?_)
              refine lv_iinc (v := iI (y8_3 + 1)) (lv' := [(3, .int (iI (y8_3 + 1))), (2, .int (iI (z11))), (1, .int (iI (y8_3))), (4, .int (iI (z11))), (0, .ref (ad 0))]) hE.1 hE.2.1 dX9_crux_57 hl (k := 3) rfl ((iI_add (y8_3) (1)).trans (congrArg iI (by omega))) (by decide) rfl (fun ls hl => ?_)
              refine lv_goto (tgt := 21) hE.1 hE.2.1 dX9_crux_60 (by decide) ?_
              exact ih8 _ (by omega) (y8_3 + 1) (z11) (y8_3)  v11 ar11 al11 _ _ _ rfl (by omega) (by omega) (by omega)  hI (fun i j h => ((hq11 i j (fun q => h (mem_sub (by decide) q))).trans (hfr8 i j h))) (fun i h => ((hqa11 i (fun q => h (mem_subn (by decide) q))).trans (hfa8 i h))) (fun i h => ((hql11 i (fun q => h (mem_subn (by decide) q))).trans (hfl8 i h))) hP hS (lv_sub hl [0, 1, 2, 4] rfl)
            · skip
              refine lv_goto (tgt := 57) hE.1 hE.2.1 dX9_crux_49 (by decide) ?_
              refine lv_iinc (v := iI (y8_3 + 1)) (lv' := [(3, .int (iI (y8_3 + 1))), (4, .int (iI (z11))), (2, .int (iI (y8_2))), (1, .int (iI (y8_1))), (0, .ref (ad 0))]) hE.1 hE.2.1 dX9_crux_57 hl (k := 1) rfl ((iI_add (y8_3) (1)).trans (congrArg iI (by omega))) (by decide) rfl (fun ls hl => ?_)
              refine lv_goto (tgt := 21) hE.1 hE.2.1 dX9_crux_60 (by decide) ?_
              exact ih8 _ (by omega) (y8_3 + 1) (y8_2) (y8_1)  v11 ar11 al11 _ _ _ rfl (by omega) (by omega) (by omega)  hI (fun i j h => ((hq11 i j (fun q => h (mem_sub (by decide) q))).trans (hfr8 i j h))) (fun i h => ((hqa11 i (fun q => h (mem_subn (by decide) q))).trans (hfa8 i h))) (fun i h => ((hql11 i (fun q => h (mem_subn (by decide) q))).trans (hfl8 i h))) hP hS (lv_sub hl [0, 2, 3, 4] rfl)
    exact loop8 _ (0) (0) (-1)  v5 ar al _ _ _ rfl (by omega) (by omega) (by omega)  hI (fun _ _ _ => rfl) (fun _ _ => rfl) (fun _ _ => rfl) hP hS hl
  · skip
    refine lv_bipush (v := iI (-2)) hE.1 hE.2.1 dX9_crux_12 (by decide) ?_
    exact kr _ v5 ar al _ _ _ _ rfl ⟨⟨-2, by omega, rfl⟩, hI, fun i j h => (up_oth hv5 (fun q => h (by rcases q with ⟨rfl, rfl⟩; decide))), fun i h => rfl, fun i h => rfl⟩ hP hS dX9_crux_14

theorem dX9_cost_0 : decode cX9_cost 0 = .ok (.aload_n 0, 1) := by decide +kernel
theorem dX9_cost_1 : decode cX9_cost 1 = .ok (.iconst 0, 1) := by decide +kernel
theorem dX9_cost_2 : decode cX9_cost 2 = .ok (.putfield 81, 3) := by decide +kernel
theorem dX9_cost_5 : decode cX9_cost 5 = .ok (.aload_n 0, 1) := by decide +kernel
theorem dX9_cost_6 : decode cX9_cost 6 = .ok (.iload_n 1, 1) := by decide +kernel
theorem dX9_cost_7 : decode cX9_cost 7 = .ok (.i2l, 1) := by decide +kernel
theorem dX9_cost_8 : decode cX9_cost 8 = .ok (.invokevirtual 253, 3) := by decide +kernel
theorem dX9_cost_11 : decode cX9_cost 11 = .ok (.ifCond .ne 6, 3) := by decide +kernel
theorem dX9_cost_14 : decode cX9_cost 14 = .ok (.bipush (-2), 2) := by decide +kernel
theorem dX9_cost_16 : decode cX9_cost 16 = .ok (.ireturn, 1) := by decide +kernel
theorem dX9_cost_17 : decode cX9_cost 17 = .ok (.aload_n 0, 1) := by decide +kernel
theorem dX9_cost_18 : decode cX9_cost 18 = .ok (.iconst 2, 1) := by decide +kernel
theorem dX9_cost_19 : decode cX9_cost 19 = .ok (.iconst 0, 1) := by decide +kernel
theorem dX9_cost_20 : decode cX9_cost 20 = .ok (.iconst (-1), 1) := by decide +kernel
theorem dX9_cost_21 : decode cX9_cost 21 = .ok (.invokevirtual 361, 3) := by decide +kernel
theorem dX9_cost_24 : decode cX9_cost 24 = .ok (.aload_n 0, 1) := by decide +kernel
theorem dX9_cost_25 : decode cX9_cost 25 = .ok (.getfield 343, 3) := by decide +kernel
theorem dX9_cost_28 : decode cX9_cost 28 = .ok (.iconst (-1), 1) := by decide +kernel
theorem dX9_cost_29 : decode cX9_cost 29 = .ok (.if_icmp .ne 7, 3) := by decide +kernel
theorem dX9_cost_32 : decode cX9_cost 32 = .ok (.iconst (-1), 1) := by decide +kernel
theorem dX9_cost_33 : decode cX9_cost 33 = .ok (.goto 7, 3) := by decide +kernel
theorem dX9_cost_36 : decode cX9_cost 36 = .ok (.aload_n 0, 1) := by decide +kernel
theorem dX9_cost_37 : decode cX9_cost 37 = .ok (.getfield 346, 3) := by decide +kernel
theorem dX9_cost_40 : decode cX9_cost 40 = .ok (.istore_n 2, 1) := by decide +kernel
theorem dX9_cost_41 : decode cX9_cost 41 = .ok (.aload_n 0, 1) := by decide +kernel
theorem dX9_cost_42 : decode cX9_cost 42 = .ok (.iload_n 1, 1) := by decide +kernel
theorem dX9_cost_43 : decode cX9_cost 43 = .ok (.putfield 68, 3) := by decide +kernel
theorem dX9_cost_46 : decode cX9_cost 46 = .ok (.aload_n 0, 1) := by decide +kernel
theorem dX9_cost_47 : decode cX9_cost 47 = .ok (.iconst 2, 1) := by decide +kernel
theorem dX9_cost_48 : decode cX9_cost 48 = .ok (.iconst 0, 1) := by decide +kernel
theorem dX9_cost_49 : decode cX9_cost 49 = .ok (.iconst (-1), 1) := by decide +kernel
theorem dX9_cost_50 : decode cX9_cost 50 = .ok (.invokevirtual 361, 3) := by decide +kernel
theorem dX9_cost_53 : decode cX9_cost 53 = .ok (.aload_n 0, 1) := by decide +kernel
theorem dX9_cost_54 : decode cX9_cost 54 = .ok (.iconst (-1), 1) := by decide +kernel
theorem dX9_cost_55 : decode cX9_cost 55 = .ok (.putfield 68, 3) := by decide +kernel
theorem dX9_cost_58 : decode cX9_cost 58 = .ok (.iload_n 2, 1) := by decide +kernel
theorem dX9_cost_59 : decode cX9_cost 59 = .ok (.iconst (-1), 1) := by decide +kernel
theorem dX9_cost_60 : decode cX9_cost 60 = .ok (.if_icmp .eq 11, 3) := by decide +kernel
theorem dX9_cost_63 : decode cX9_cost 63 = .ok (.aload_n 0, 1) := by decide +kernel
theorem dX9_cost_64 : decode cX9_cost 64 = .ok (.getfield 343, 3) := by decide +kernel
theorem dX9_cost_67 : decode cX9_cost 67 = .ok (.iconst (-1), 1) := by decide +kernel
theorem dX9_cost_68 : decode cX9_cost 68 = .ok (.if_icmp .ne 7, 3) := by decide +kernel
theorem dX9_cost_71 : decode cX9_cost 71 = .ok (.iconst (-1), 1) := by decide +kernel
theorem dX9_cost_72 : decode cX9_cost 72 = .ok (.goto 9, 3) := by decide +kernel
theorem dX9_cost_75 : decode cX9_cost 75 = .ok (.iload_n 2, 1) := by decide +kernel
theorem dX9_cost_76 : decode cX9_cost 76 = .ok (.aload_n 0, 1) := by decide +kernel
theorem dX9_cost_77 : decode cX9_cost 77 = .ok (.getfield 346, 3) := by decide +kernel
theorem dX9_cost_80 : decode cX9_cost 80 = .ok (.isub, 1) := by decide +kernel
theorem dX9_cost_81 : decode cX9_cost 81 = .ok (.ireturn, 1) := by decide +kernel
set_option maxHeartbeats 4000000 in
set_option maxRecDepth 100000 in
theorem s_X9_cost (l : Launch) (D : va_G) (K : Nat → ClassId) (ad : Nat → Nat) (v ar : sI) (al : sL) (hI : YI v ar) (z_1 : Int) (hz_1 : -2147483648 ≤ z_1 ∧ z_1 ≤ 2147483647) : Met l yX9_cost (wM yX9_cost cX9_cost 3 (some .int)) (rmD 15) (va_Pc [.ref (ad 0), .int (iI (z_1))] (wPre D K ad (yG ad K) 21 v ar al)) (va_Qi (fun (r : Int32) (u : sT) => (∃ z : Int, (-2147483648 ≤ z ∧ z ≤ 2147483647) ∧ r = iI z) ∧ YI u.1 u.2.1 ∧ (∀ i j : Nat, (i, j) ∉ ([(0, 0), (0, 24), (0, 25), (0, 26), (0, 27), (0, 29), (0, 30), (0, 31), (0, 32), (0, 33), (0, 37), (0, 38), (0, 39), (0, 40), (0, 41), (0, 42)] : List (Nat × Nat)) → u.1 i j = v i j) ∧ (∀ i : Nat, i ∉ ([12, 13, 14, 15, 16, 17] : List Nat) → u.2.1 i = ar i) ∧ (∀ i : Nat, i ∉ ([] : List Nat) → u.2.2 i = al i)) (wB D ad (yG ad K) 21) (inW ad 21)) 0 0 (inW ad 21) := by
  refine s_metI (by decide) (Nat.le_of_ble_eq_true rfl) ?_
  intro p e s m below meth c ls args Q hE hB hl kr
  have hE : CallFix p m c cX9_cost 3 s args tbG "TaleCourtModel" := hE
  obtain ⟨hP, hK, hN⟩ := hB
  have hS : va_S (inW ad 21) s.heap s.heap [] := va_S.rf
  have hl : lv_has ls 3 [(0, .ref (ad 0)), (1, .int (iI (z_1)))] := hl
  obtain ⟨z1, hz1, ez1⟩ := iI_of (ar 6 0)
  obtain ⟨z2, hz2, ez2⟩ := YI_h2 hI 2 (by decide)
  obtain ⟨z3, hz3, ez3⟩ := YI_h5 hI 5 (by decide)
  obtain ⟨z4, hz4, ez4⟩ := YI_h0 hI 0 (by decide)
  have ht0 := YI_t0 hI ez1 (by omega) ez2 (by omega) ez3 (by omega) ez4 (by omega)
  refine lv_aload_n hE.1 hE.2.1 dX9_cost_0 rfl (lv_at hl 0 rfl) ?_
  refine lv_iconst (v := iI (0)) hE.1 hE.2.1 dX9_cost_1 (by decide) ?_
  refine x_put (x := iI (0)) hE hK hN hP hS 0 (by decide) (yG_9 rfl) rfl hin9 tyX9 tyX9_ok nmX9 0 (by decide) mw_1334 rfl rfl rfl (Nat.le_of_ble_eq_true rfl) (yG_9 rfl) dX9_cost_2 (fun v5 H locs hv5 hP hS => ?_)
  have hI := YI_putN hI hv5 (by decide)
  refine lv_aload_n hE.1 hE.2.1 dX9_cost_5 rfl (lv_at hl 0 rfl) ?_
  refine lv_iload_n hE.1 hE.2.1 dX9_cost_6 rfl (lv_at hl 1 rfl) ?_
  refine lv_i2l (v := lI (z_1)) hE.1 hE.2.1 dX9_cost_7 (iI_i2l (by omega)) ?_
  refine x_vp (nn := 1) (As := [.long (lI (z_1))]) (rest := []) hE (s_X9_isMotif l D K ad v5 ar al hI (z2) (by omega) ez2 (z_1) (by omega)) wPre_blind (wPre_now hK hN hP) (x_recv hK hP 0 (by decide) (yG_9 rfl) rfl) rfl mw_1662 mw_1664 mw_74 mw_123 mw_1665 (by decide +kernel) ⟨by decide, by decide⟩ hl.1 rfl (Nat.le_of_ble_eq_true rfl) ⟨Nat.zero_le _, Nat.zero_le _⟩ dX9_cost_8 (fun r6 hr6 => ?_)
  obtain ⟨z6, hz6, rfl⟩ := hr6
  refine s_if_ne (a := z6) (tgt := 17) hE.1 hE.2.1 (by omega) dX9_cost_11 (by decide) (fun c7 => ?_) (fun c7 => ?_)
  · skip
    refine lv_aload_n hE.1 hE.2.1 dX9_cost_17 rfl (lv_at hl 0 rfl) ?_
    refine lv_iconst (v := iI (2)) hE.1 hE.2.1 dX9_cost_18 (by decide) ?_
    refine lv_iconst (v := iI (0)) hE.1 hE.2.1 dX9_cost_19 (by decide) ?_
    refine lv_iconst (v := iI (-1)) hE.1 hE.2.1 dX9_cost_20 (by decide) ?_
    refine x_vv (nn := 3) (As := [.int (iI (2)), .int (iI (0)), .int (iI (-1))]) (rest := []) hE hK hN hP hS (s_X9_goesAll l D K ad v5 ar al hI (z4) (by omega) ez4 (2) (by omega) (0) (by omega) (-1) (by omega) (Or.inl rfl)) (x_recv hK hP 0 (by decide) (yG_9 rfl) rfl) rfl mw_1798 mw_1800 mw_85 mw_123 mw_1801 (by decide +kernel) ⟨by decide, by decide⟩ hl.1 rfl (Nat.le_of_ble_eq_true rfl) ⟨Nat.zero_le _, Nat.zero_le _⟩ dX9_cost_21 (fun v8 ar8 al8 H locs hq8 hP hS => ?_)
    obtain ⟨hI, hq8, hqa8, hql8⟩ := hq8
    have hI : YI v8 ar8 := hI
    refine lv_aload_n hE.1 hE.2.1 dX9_cost_24 rfl (lv_at hl 0 rfl) ?_
    obtain ⟨z9, hz9, ez9⟩ := YI_get hI 0 33 (-1) 9 (by decide)
    refine x_get (x := .int (v8 0 33)) hE hK hP 0 (by decide) (yG_9 rfl) rfl hin9 33 (by decide) mw_1367 rfl dX9_cost_25 ?_
    refine x_top (y := iI (z9)) ez9 ?_
    refine lv_iconst (v := iI (-1)) hE.1 hE.2.1 dX9_cost_28 (by decide) ?_
    refine s_icmp_ne (a := z9) (b := -1) (tgt := 36) hE.1 hE.2.1 (by omega) (by omega) dX9_cost_29 (by decide) (fun c10 => ?_) (fun c10 => ?_)
    · skip
      refine lv_aload_n hE.1 hE.2.1 dX9_cost_36 rfl (lv_at hl 0 rfl) ?_
      obtain ⟨z11, hz11, ez11⟩ := iI_of (v8 0 32)
      refine x_get (x := .int (v8 0 32)) hE hK hP 0 (by decide) (yG_9 rfl) rfl hin9 32 (by decide) mw_1366 rfl dX9_cost_37 ?_
      refine x_top (y := iI (z11)) ez11 ?_
      refine lv_istore_n (lv' := [(2, .int (iI (z11))), (0, .ref (ad 0)), (1, .int (iI (z_1)))]) hE.1 hE.2.1 dX9_cost_40 rfl hl (by decide) rfl (fun ls hl => ?_)
      refine lv_aload_n hE.1 hE.2.1 dX9_cost_41 rfl (lv_at hl 1 rfl) ?_
      refine lv_iload_n hE.1 hE.2.1 dX9_cost_42 rfl (lv_at hl 2 rfl) ?_
      refine x_put (x := iI (z_1)) hE hK hN hP hS 0 (by decide) (yG_9 rfl) rfl hin9 tyX9 tyX9_ok nmX9 42 (by decide) mw_1376 rfl rfl rfl (Nat.le_of_ble_eq_true rfl) (yG_9 rfl) dX9_cost_43 (fun v12 H locs hv12 hP hS => ?_)
      have hI := YI_putN hI hv12 (by decide)
      refine lv_aload_n hE.1 hE.2.1 dX9_cost_46 rfl (lv_at hl 1 rfl) ?_
      refine lv_iconst (v := iI (2)) hE.1 hE.2.1 dX9_cost_47 (by decide) ?_
      refine lv_iconst (v := iI (0)) hE.1 hE.2.1 dX9_cost_48 (by decide) ?_
      refine lv_iconst (v := iI (-1)) hE.1 hE.2.1 dX9_cost_49 (by decide) ?_
      refine x_vv (nn := 3) (As := [.int (iI (2)), .int (iI (0)), .int (iI (-1))]) (rest := []) hE hK hN hP hS (s_X9_goesAll l D K ad v12 ar8 al8 hI (z4) (by omega) ((congrFun (hqa8 7 (by decide)) 0).trans ez4) (2) (by omega) (0) (by omega) (-1) (by omega) (Or.inl rfl)) (x_recv hK hP 0 (by decide) (yG_9 rfl) rfl) rfl mw_1798 mw_1800 mw_85 mw_123 mw_1801 (by decide +kernel) ⟨by decide, by decide⟩ hl.1 rfl (Nat.le_of_ble_eq_true rfl) ⟨Nat.zero_le _, Nat.zero_le _⟩ dX9_cost_50 (fun v13 ar13 al13 H locs hq13 hP hS => ?_)
      obtain ⟨hI, hq13, hqa13, hql13⟩ := hq13
      have hI : YI v13 ar13 := hI
      refine lv_aload_n hE.1 hE.2.1 dX9_cost_53 rfl (lv_at hl 1 rfl) ?_
      refine lv_iconst (v := iI (-1)) hE.1 hE.2.1 dX9_cost_54 (by decide) ?_
      refine x_put (x := iI (-1)) hE hK hN hP hS 0 (by decide) (yG_9 rfl) rfl hin9 tyX9 tyX9_ok nmX9 42 (by decide) mw_1376 rfl rfl rfl (Nat.le_of_ble_eq_true rfl) (yG_9 rfl) dX9_cost_55 (fun v14 H locs hv14 hP hS => ?_)
      have hI := YI_putN hI hv14 (by decide)
      refine lv_iload_n hE.1 hE.2.1 dX9_cost_58 rfl (lv_at hl 0 rfl) ?_
      refine lv_iconst (v := iI (-1)) hE.1 hE.2.1 dX9_cost_59 (by decide) ?_
      refine s_icmp_eq (a := z11) (b := -1) (tgt := 71) hE.1 hE.2.1 (by omega) (by omega) dX9_cost_60 (by decide) (fun c15 => ?_) (fun c15 => ?_)
      · skip
        refine lv_iconst (v := iI (-1)) hE.1 hE.2.1 dX9_cost_71 (by decide) ?_
        refine lv_goto (tgt := 81) hE.1 hE.2.1 dX9_cost_72 (by decide) ?_
        exact kr _ v14 ar13 al13 _ _ _ _ rfl ⟨⟨-1, by omega, rfl⟩, hI, fun i j h => ((up_oth hv14 (fun q => h (by rcases q with ⟨rfl, rfl⟩; decide))).trans ((hq13 i j (fun q => h (mem_sub (by decide) q))).trans ((up_oth hv12 (fun q => h (by rcases q with ⟨rfl, rfl⟩; decide))).trans ((hq8 i j (fun q => h (mem_sub (by decide) q))).trans (up_oth hv5 (fun q => h (by rcases q with ⟨rfl, rfl⟩; decide))))))), fun i h => ((hqa13 i (fun q => h (mem_subn (by decide) q))).trans (hqa8 i (fun q => h (mem_subn (by decide) q)))), fun i h => ((hql13 i (fun q => h (mem_subn (by decide) q))).trans (hql8 i (fun q => h (mem_subn (by decide) q))))⟩ hP hS dX9_cost_81
      · skip
        refine lv_aload_n hE.1 hE.2.1 dX9_cost_63 rfl (lv_at hl 1 rfl) ?_
        obtain ⟨z16, hz16, ez16⟩ := YI_get hI 0 33 (-1) 9 (by decide)
        refine x_get (x := .int (v14 0 33)) hE hK hP 0 (by decide) (yG_9 rfl) rfl hin9 33 (by decide) mw_1367 rfl dX9_cost_64 ?_
        refine x_top (y := iI (z16)) ez16 ?_
        refine lv_iconst (v := iI (-1)) hE.1 hE.2.1 dX9_cost_67 (by decide) ?_
        refine s_icmp_ne (a := z16) (b := -1) (tgt := 75) hE.1 hE.2.1 (by omega) (by omega) dX9_cost_68 (by decide) (fun c17 => ?_) (fun c17 => ?_)
        · skip
          refine lv_iload_n hE.1 hE.2.1 dX9_cost_75 rfl (lv_at hl 0 rfl) ?_
          refine lv_aload_n hE.1 hE.2.1 dX9_cost_76 rfl (lv_at hl 1 rfl) ?_
          obtain ⟨z18, hz18, ez18⟩ := iI_of (v14 0 32)
          refine x_get (x := .int (v14 0 32)) hE hK hP 0 (by decide) (yG_9 rfl) rfl hin9 32 (by decide) mw_1366 rfl dX9_cost_77 ?_
          refine x_top (y := iI (z18)) ez18 ?_
          refine lv_isub hE.1 hE.2.1 dX9_cost_80 ?_
          obtain ⟨z19, hz19, ez19⟩ := iI_of (iI (z11) - iI (z18))
          refine x_top ez19 ?_
          exact kr _ v14 ar13 al13 _ _ _ _ rfl ⟨⟨z19, by omega, rfl⟩, hI, fun i j h => ((up_oth hv14 (fun q => h (by rcases q with ⟨rfl, rfl⟩; decide))).trans ((hq13 i j (fun q => h (mem_sub (by decide) q))).trans ((up_oth hv12 (fun q => h (by rcases q with ⟨rfl, rfl⟩; decide))).trans ((hq8 i j (fun q => h (mem_sub (by decide) q))).trans (up_oth hv5 (fun q => h (by rcases q with ⟨rfl, rfl⟩; decide))))))), fun i h => ((hqa13 i (fun q => h (mem_subn (by decide) q))).trans (hqa8 i (fun q => h (mem_subn (by decide) q)))), fun i h => ((hql13 i (fun q => h (mem_subn (by decide) q))).trans (hql8 i (fun q => h (mem_subn (by decide) q))))⟩ hP hS dX9_cost_81
        · skip
          refine lv_iconst (v := iI (-1)) hE.1 hE.2.1 dX9_cost_71 (by decide) ?_
          refine lv_goto (tgt := 81) hE.1 hE.2.1 dX9_cost_72 (by decide) ?_
          exact kr _ v14 ar13 al13 _ _ _ _ rfl ⟨⟨-1, by omega, rfl⟩, hI, fun i j h => ((up_oth hv14 (fun q => h (by rcases q with ⟨rfl, rfl⟩; decide))).trans ((hq13 i j (fun q => h (mem_sub (by decide) q))).trans ((up_oth hv12 (fun q => h (by rcases q with ⟨rfl, rfl⟩; decide))).trans ((hq8 i j (fun q => h (mem_sub (by decide) q))).trans (up_oth hv5 (fun q => h (by rcases q with ⟨rfl, rfl⟩; decide))))))), fun i h => ((hqa13 i (fun q => h (mem_subn (by decide) q))).trans (hqa8 i (fun q => h (mem_subn (by decide) q)))), fun i h => ((hql13 i (fun q => h (mem_subn (by decide) q))).trans (hql8 i (fun q => h (mem_subn (by decide) q))))⟩ hP hS dX9_cost_81
    · skip
      refine lv_iconst (v := iI (-1)) hE.1 hE.2.1 dX9_cost_32 (by decide) ?_
      refine lv_goto (tgt := 40) hE.1 hE.2.1 dX9_cost_33 (by decide) ?_
      refine lv_istore_n (lv' := [(2, .int (iI (-1))), (0, .ref (ad 0)), (1, .int (iI (z_1)))]) hE.1 hE.2.1 dX9_cost_40 rfl hl (by decide) rfl (fun ls hl => ?_)
      refine lv_aload_n hE.1 hE.2.1 dX9_cost_41 rfl (lv_at hl 1 rfl) ?_
      refine lv_iload_n hE.1 hE.2.1 dX9_cost_42 rfl (lv_at hl 2 rfl) ?_
      refine x_put (x := iI (z_1)) hE hK hN hP hS 0 (by decide) (yG_9 rfl) rfl hin9 tyX9 tyX9_ok nmX9 42 (by decide) mw_1376 rfl rfl rfl (Nat.le_of_ble_eq_true rfl) (yG_9 rfl) dX9_cost_43 (fun v20 H locs hv20 hP hS => ?_)
      have hI := YI_putN hI hv20 (by decide)
      refine lv_aload_n hE.1 hE.2.1 dX9_cost_46 rfl (lv_at hl 1 rfl) ?_
      refine lv_iconst (v := iI (2)) hE.1 hE.2.1 dX9_cost_47 (by decide) ?_
      refine lv_iconst (v := iI (0)) hE.1 hE.2.1 dX9_cost_48 (by decide) ?_
      refine lv_iconst (v := iI (-1)) hE.1 hE.2.1 dX9_cost_49 (by decide) ?_
      refine x_vv (nn := 3) (As := [.int (iI (2)), .int (iI (0)), .int (iI (-1))]) (rest := []) hE hK hN hP hS (s_X9_goesAll l D K ad v20 ar8 al8 hI (z4) (by omega) ((congrFun (hqa8 7 (by decide)) 0).trans ez4) (2) (by omega) (0) (by omega) (-1) (by omega) (Or.inl rfl)) (x_recv hK hP 0 (by decide) (yG_9 rfl) rfl) rfl mw_1798 mw_1800 mw_85 mw_123 mw_1801 (by decide +kernel) ⟨by decide, by decide⟩ hl.1 rfl (Nat.le_of_ble_eq_true rfl) ⟨Nat.zero_le _, Nat.zero_le _⟩ dX9_cost_50 (fun v21 ar21 al21 H locs hq21 hP hS => ?_)
      obtain ⟨hI, hq21, hqa21, hql21⟩ := hq21
      have hI : YI v21 ar21 := hI
      refine lv_aload_n hE.1 hE.2.1 dX9_cost_53 rfl (lv_at hl 1 rfl) ?_
      refine lv_iconst (v := iI (-1)) hE.1 hE.2.1 dX9_cost_54 (by decide) ?_
      refine x_put (x := iI (-1)) hE hK hN hP hS 0 (by decide) (yG_9 rfl) rfl hin9 tyX9 tyX9_ok nmX9 42 (by decide) mw_1376 rfl rfl rfl (Nat.le_of_ble_eq_true rfl) (yG_9 rfl) dX9_cost_55 (fun v22 H locs hv22 hP hS => ?_)
      have hI := YI_putN hI hv22 (by decide)
      refine lv_iload_n hE.1 hE.2.1 dX9_cost_58 rfl (lv_at hl 0 rfl) ?_
      refine lv_iconst (v := iI (-1)) hE.1 hE.2.1 dX9_cost_59 (by decide) ?_
      refine s_icmp_eq (a := -1) (b := -1) (tgt := 71) hE.1 hE.2.1 (by omega) (by omega) dX9_cost_60 (by decide) (fun _ => ?_) (fun c23 => False.elim (by omega))
      refine lv_iconst (v := iI (-1)) hE.1 hE.2.1 dX9_cost_71 (by decide) ?_
      refine lv_goto (tgt := 81) hE.1 hE.2.1 dX9_cost_72 (by decide) ?_
      exact kr _ v22 ar21 al21 _ _ _ _ rfl ⟨⟨-1, by omega, rfl⟩, hI, fun i j h => ((up_oth hv22 (fun q => h (by rcases q with ⟨rfl, rfl⟩; decide))).trans ((hq21 i j (fun q => h (mem_sub (by decide) q))).trans ((up_oth hv20 (fun q => h (by rcases q with ⟨rfl, rfl⟩; decide))).trans ((hq8 i j (fun q => h (mem_sub (by decide) q))).trans (up_oth hv5 (fun q => h (by rcases q with ⟨rfl, rfl⟩; decide))))))), fun i h => ((hqa21 i (fun q => h (mem_subn (by decide) q))).trans (hqa8 i (fun q => h (mem_subn (by decide) q)))), fun i h => ((hql21 i (fun q => h (mem_subn (by decide) q))).trans (hql8 i (fun q => h (mem_subn (by decide) q))))⟩ hP hS dX9_cost_81
  · skip
    refine lv_bipush (v := iI (-2)) hE.1 hE.2.1 dX9_cost_14 (by decide) ?_
    exact kr _ v5 ar al _ _ _ _ rfl ⟨⟨-2, by omega, rfl⟩, hI, fun i j h => (up_oth hv5 (fun q => h (by rcases q with ⟨rfl, rfl⟩; decide))), fun i h => rfl, fun i h => rfl⟩ hP hS dX9_cost_16

set_option maxHeartbeats 4000000 in
set_option maxRecDepth 100000 in
theorem s_X9_whyNotTold_e_c1_2 (l : Launch) (D : va_G) (K : Nat → ClassId) (ad : Nat → Nat) (v ar : sI) (al : sL) (hI : YI v ar) (w_1 : Int) (hw_1 : -2147483648 ≤ w_1 ∧ w_1 ≤ 2147483647) (ew_1 : ar 6 0 = iI w_1) (z_1 : Int) (hz_1 : -2147483648 ≤ z_1 ∧ z_1 ≤ 2147483647) : Met l yX9_whyNotTold (wM yX9_whyNotTold cX9_whyNotTold 9 (some .int)) (rmD 3) (va_Pc [.ref (ad 0), .int (iI (z_1)), .int (iI (2))] (wPre D K ad (yG ad K) 21 v ar al)) (vp_Si (fun r => ∃ z : Int, ((z = 0 ∧ (0 ≤ z_1 ∧ z_1 ≤ 3) ∧ 0 < w_1 ∧ FTv z_1 (ar 2) (al 3)) ∨ (z ≠ 0 ∧ -2147483648 ≤ z ∧ z ≤ 2147483647)) ∧ r = iI z)) 0 0 (fun _ => False) := by
  refine s_metP (by decide) (Nat.le_of_ble_eq_true rfl) ?_
  intro p e s m below meth c ls args Q hE hB hl kr
  have hE : CallFix p m c cX9_whyNotTold 9 s args tbG "TaleCourtModel" := hE
  obtain ⟨hP, hK, hN⟩ := hB
  have hl : lv_has ls 9 [(0, .ref (ad 0)), (1, .int (iI (z_1))), (2, .int (iI (2)))] := hl
  obtain ⟨z1, hz1, ez1⟩ := YI_h2 hI 2 (by decide)
  obtain ⟨z2, hz2, ez2⟩ := YI_h5 hI 5 (by decide)
  obtain ⟨z3, hz3, ez3⟩ := YI_h0 hI 0 (by decide)
  have ht0 := YI_t0 hI ew_1 (by omega) ez1 (by omega) ez2 (by omega) ez3 (by omega)
  refine lv_aload_n hE.1 hE.2.1 dX9_whyNotTold_0 rfl (lv_at hl 0 rfl) ?_
  refine lv_iload_n hE.1 hE.2.1 dX9_whyNotTold_1 rfl (lv_at hl 1 rfl) ?_
  refine x_vp (nn := 1) (As := [.int (iI (z_1))]) (rest := []) hE (s_X9_whyNoRow l D K ad v ar al hI (w_1) (by omega) ew_1 (z_1) (by omega)) wPre_blind (wPre_now hK hN hP) (x_recv hK hP 0 (by decide) (yG_9 rfl) rfl) rfl mw_1974 mw_1976 mw_104 mw_123 mw_1977 (by decide +kernel) ⟨by decide, by decide⟩ hl.1 rfl (Nat.le_of_ble_eq_true rfl) ⟨Nat.zero_le _, Nat.zero_le _⟩ dX9_whyNotTold_2 (fun r4 hr4 => ?_)
  obtain ⟨z4, hz4, rfl⟩ := hr4
  refine lv_istore_n (lv' := [(3, .int (iI (z4))), (0, .ref (ad 0)), (1, .int (iI (z_1))), (2, .int (iI (2)))]) hE.1 hE.2.1 dX9_whyNotTold_5 rfl hl (by decide) rfl (fun ls hl => ?_)
  refine lv_iload_n hE.1 hE.2.1 dX9_whyNotTold_6 rfl (lv_at hl 0 rfl) ?_
  refine s_if_eq (a := z4) (tgt := 12) hE.1 hE.2.1 (by omega) dX9_whyNotTold_7 (by decide) (fun c5 => ?_) (fun c5 => ?_)
  · skip
    refine lv_aload_n hE.1 hE.2.1 dX9_whyNotTold_12 rfl (lv_at hl 1 rfl) ?_
    refine x_get (x := .ref (ad 2)) hE hK hP 0 (by decide) (yG_9 rfl) rfl hin9 2 (by decide) mw_1336 rfl dX9_whyNotTold_13 ?_
    refine lv_iload_n hE.1 hE.2.1 dX9_whyNotTold_16 rfl (lv_at hl 2 rfl) ?_
    refine x_iald (j := iI (z_1)) hE hK hP 2 (by decide) (yG_10 rfl) (iI_in (n := 4) (by omega)) dX9_whyNotTold_17 ?_
    obtain ⟨z7, hz7, ez7⟩ := YI_a2 hI ((iI (z_1)).toNatClampNeg)
    refine x_top ez7 ?_
    refine lv_iload_n hE.1 hE.2.1 dX9_whyNotTold_18 rfl (lv_at hl 3 rfl) ?_
    refine lv_irem hE.1 hE.2.1 dX9_whyNotTold_19 (iI_ne0 (by omega) (by omega)) ?_
    obtain ⟨z8, hz8⟩ : ∃ z : Int, z = (z7) % (2) ∧ 0 ≤ z ∧ z < 2 := ⟨_, rfl, Int.emod_nonneg _ (by omega), Int.emod_lt_of_pos _ (by omega)⟩
    refine x_top (y := iI (z8)) ((iI_rem (by omega) (by omega)).trans (congrArg iI hz8.1.symm)) ?_
    have er8 : z8 = rm (z7) (2) := hz8.1
    replace hz8 := hz8.2
    refine s_if_eq (a := z8) (tgt := 26) hE.1 hE.2.1 (by omega) dX9_whyNotTold_20 (by decide) (fun c9 => ?_) (fun c9 => ?_)
    · skip
      refine lv_iconst (v := iI (0)) hE.1 hE.2.1 dX9_whyNotTold_26 (by decide) ?_
      refine lv_istore (lv' := [(4, .int (iI (0))), (3, .int (iI (z4))), (0, .ref (ad 0)), (1, .int (iI (z_1))), (2, .int (iI (2)))]) hE.1 hE.2.1 dX9_whyNotTold_27 hl (by decide) rfl (fun ls hl => ?_)
      have loop10 : ∀ (k10 : Nat) (y10_4 : Int) (ls : Array Slot), (60 - y10_4).toNat = k10 → (0 ≤ y10_4 ∧ y10_4 ≤ 62 ∧ y10_4 % 2 = 0) → (MSp z_1 y10_4 (al 3)) → lv_has ls 9 [(4, .int (iI (y10_4))), (3, .int (iI (z4))), (0, .ref (ad 0)), (1, .int (iI (z_1))), (2, .int (iI (2)))] → W p l e (rmD 3) s m args below meth c s.heap [] 0 0 Q (F0 m 29 ls []) := by
        intro k10
        induction k10 using Nat.strongRecOn with
        | _ k10 ih10 =>
          intro y10_4 ls hk10 hb_y10_4 hb_xi10 hl
          refine lv_iload hE.1 hE.2.1 dX9_whyNotTold_29 (lv_at hl 0 rfl) ?_
          refine lv_aload_n hE.1 hE.2.1 dX9_whyNotTold_31 rfl (lv_at hl 2 rfl) ?_
          refine x_get (x := .ref (ad 2)) hE hK hP 0 (by decide) (yG_9 rfl) rfl hin9 2 (by decide) mw_1336 rfl dX9_whyNotTold_32 ?_
          refine lv_iload_n hE.1 hE.2.1 dX9_whyNotTold_35 rfl (lv_at hl 3 rfl) ?_
          refine x_iald (j := iI (z_1)) hE hK hP 2 (by decide) (yG_10 rfl) (iI_in (n := 4) (by omega)) dX9_whyNotTold_36 ?_
          refine x_top ez7 ?_
          refine s_icmp_ge (a := y10_4) (b := z7) (tgt := 150) hE.1 hE.2.1 (by omega) (by omega) dX9_whyNotTold_37 (by decide) (fun c12 => ?_) (fun c12 => ?_)
          · skip
            refine lv_iconst (v := iI (0)) hE.1 hE.2.1 dX9_whyNotTold_150 (by decide) ?_
            exact kr _ _ _ rfl ⟨0, Or.inl ⟨rfl, by omega, by omega, Or.inr ⟨by omega, MSp_all hb_xi10 ez7 (by omega) (by omega), by rw [ez7, iI_toInt (by omega), ← er8]; omega⟩⟩, rfl⟩ dX9_whyNotTold_151
          · skip
            refine lv_aload_n hE.1 hE.2.1 dX9_whyNotTold_40 rfl (lv_at hl 2 rfl) ?_
            refine x_get (x := .ref (ad 3)) hE hK hP 0 (by decide) (yG_9 rfl) rfl hin9 3 (by decide) mw_1337 rfl dX9_whyNotTold_41 ?_
            refine lv_bipush (v := iI (60)) hE.1 hE.2.1 dX9_whyNotTold_44 (by decide) ?_
            refine lv_iload_n hE.1 hE.2.1 dX9_whyNotTold_46 rfl (lv_at hl 3 rfl) ?_
            refine lv_imul hE.1 hE.2.1 dX9_whyNotTold_47 ?_
            refine x_top (y := iI (60 * z_1)) ((iI_mul (60) (z_1)).trans (congrArg iI (by omega))) ?_
            refine lv_iload hE.1 hE.2.1 dX9_whyNotTold_48 (lv_at hl 0 rfl) ?_
            refine lv_iadd hE.1 hE.2.1 dX9_whyNotTold_50 ?_
            refine x_top (y := iI (y10_4 + 60 * z_1)) ((iI_add (60 * z_1) (y10_4)).trans (congrArg iI (by omega))) ?_
            refine lv_iload_n hE.1 hE.2.1 dX9_whyNotTold_51 rfl (lv_at hl 4 rfl) ?_
            refine lv_iadd hE.1 hE.2.1 dX9_whyNotTold_52 ?_
            refine x_top (y := iI (y10_4 + 60 * z_1 + 2)) ((iI_add (y10_4 + 60 * z_1) (2)).trans (congrArg iI (by omega))) ?_
            refine lv_iconst (v := iI (2)) hE.1 hE.2.1 dX9_whyNotTold_53 (by decide) ?_
            refine lv_isub hE.1 hE.2.1 dX9_whyNotTold_54 ?_
            refine x_top (y := iI (y10_4 + 60 * z_1)) ((iI_sub (y10_4 + 60 * z_1 + 2) (2)).trans (congrArg iI (by omega))) ?_
            refine x_lald (j := iI (y10_4 + 60 * z_1)) hE hK hP 3 (by decide) (yG_11 rfl) (iI_in (n := 240) (by omega)) dX9_whyNotTold_55 ?_
            obtain ⟨z14, hz14, ez14⟩ := lI_of (al 3 (iI (y10_4 + 60 * z_1)).toNatClampNeg)
            refine x_topl ez14 ?_
            refine lv_lstore (lv' := [(5, .long (lI (z14))), (4, .int (iI (y10_4))), (3, .int (iI (z4))), (0, .ref (ad 0)), (1, .int (iI (z_1))), (2, .int (iI (2)))]) hE.1 hE.2.1 dX9_whyNotTold_56 hl (by decide) rfl (fun ls hl => ?_)
            refine lv_aload_n hE.1 hE.2.1 dX9_whyNotTold_58 rfl (lv_at hl 3 rfl) ?_
            refine x_get (x := .ref (ad 3)) hE hK hP 0 (by decide) (yG_9 rfl) rfl hin9 3 (by decide) mw_1337 rfl dX9_whyNotTold_59 ?_
            refine lv_bipush (v := iI (60)) hE.1 hE.2.1 dX9_whyNotTold_62 (by decide) ?_
            refine lv_iload_n hE.1 hE.2.1 dX9_whyNotTold_64 rfl (lv_at hl 4 rfl) ?_
            refine lv_imul hE.1 hE.2.1 dX9_whyNotTold_65 ?_
            refine x_top (y := iI (60 * z_1)) ((iI_mul (60) (z_1)).trans (congrArg iI (by omega))) ?_
            refine lv_iload hE.1 hE.2.1 dX9_whyNotTold_66 (lv_at hl 1 rfl) ?_
            refine lv_iadd hE.1 hE.2.1 dX9_whyNotTold_68 ?_
            refine x_top (y := iI (y10_4 + 60 * z_1)) ((iI_add (60 * z_1) (y10_4)).trans (congrArg iI (by omega))) ?_
            refine lv_iload_n hE.1 hE.2.1 dX9_whyNotTold_69 rfl (lv_at hl 5 rfl) ?_
            refine lv_iadd hE.1 hE.2.1 dX9_whyNotTold_70 ?_
            refine x_top (y := iI (y10_4 + 60 * z_1 + 2)) ((iI_add (y10_4 + 60 * z_1) (2)).trans (congrArg iI (by omega))) ?_
            refine lv_iconst (v := iI (1)) hE.1 hE.2.1 dX9_whyNotTold_71 (by decide) ?_
            refine lv_isub hE.1 hE.2.1 dX9_whyNotTold_72 ?_
            refine x_top (y := iI (y10_4 + 60 * z_1 + 1)) ((iI_sub (y10_4 + 60 * z_1 + 2) (1)).trans (congrArg iI (by omega))) ?_
            refine x_lald (j := iI (y10_4 + 60 * z_1 + 1)) hE hK hP 3 (by decide) (yG_11 rfl) (iI_in (n := 240) (by omega)) dX9_whyNotTold_73 ?_
            obtain ⟨z16, hz16, ez16⟩ := lI_of (al 3 (iI (y10_4 + 60 * z_1 + 1)).toNatClampNeg)
            refine x_topl ez16 ?_
            refine lv_lstore (lv' := [(7, .long (lI (z16))), (5, .long (lI (z14))), (4, .int (iI (y10_4))), (3, .int (iI (z4))), (0, .ref (ad 0)), (1, .int (iI (z_1))), (2, .int (iI (2)))]) hE.1 hE.2.1 dX9_whyNotTold_74 hl (by decide) rfl (fun ls hl => ?_)
            refine lv_aload_n hE.1 hE.2.1 dX9_whyNotTold_76 rfl (lv_at hl 4 rfl) ?_
            refine lv_lload hE.1 hE.2.1 dX9_whyNotTold_77 (lv_at hl 1 rfl) ?_
            refine x_vp (nn := 1) (As := [.long (lI (z14))]) (rest := []) hE (s_X9_isMotif l D K ad v ar al hI (z1) (by omega) ez1 (z14) (by omega)) wPre_blind (wPre_now hK hN hP) (x_recv hK hP 0 (by decide) (yG_9 rfl) rfl) rfl mw_1662 mw_1664 mw_74 mw_123 mw_1665 (by decide +kernel) ⟨by decide, by decide⟩ hl.1 rfl (Nat.le_of_ble_eq_true rfl) ⟨Nat.zero_le _, Nat.zero_le _⟩ dX9_whyNotTold_79 (fun r17 hr17 => ?_)
            obtain ⟨z17, hz17, rfl⟩ := hr17
            refine s_if_eq (a := z17) (tgt := 102) hE.1 hE.2.1 (by omega) dX9_whyNotTold_82 (by decide) (fun c18 => ?_) (fun c18 => ?_)
            · skip
              refine lv_bipush (v := iI (-2)) hE.1 hE.2.1 dX9_whyNotTold_102 (by decide) ?_
              exact kr _ _ _ rfl ⟨-2, Or.inr (by omega), rfl⟩ dX9_whyNotTold_104
            · skip
              refine lv_aload_n hE.1 hE.2.1 dX9_whyNotTold_85 rfl (lv_at hl 4 rfl) ?_
              refine lv_lload hE.1 hE.2.1 dX9_whyNotTold_86 (lv_at hl 0 rfl) ?_
              refine x_vp (nn := 1) (As := [.long (lI (z16))]) (rest := []) hE (s_X9_isMotif l D K ad v ar al hI (z1) (by omega) ez1 (z16) (by omega)) wPre_blind (wPre_now hK hN hP) (x_recv hK hP 0 (by decide) (yG_9 rfl) rfl) rfl mw_1662 mw_1664 mw_74 mw_123 mw_1665 (by decide +kernel) ⟨by decide, by decide⟩ hl.1 rfl (Nat.le_of_ble_eq_true rfl) ⟨Nat.zero_le _, Nat.zero_le _⟩ dX9_whyNotTold_88 (fun r19 hr19 => ?_)
              obtain ⟨z19, hz19, rfl⟩ := hr19
              refine s_if_eq (a := z19) (tgt := 102) hE.1 hE.2.1 (by omega) dX9_whyNotTold_91 (by decide) (fun c20 => ?_) (fun c20 => ?_)
              · skip
                refine lv_bipush (v := iI (-2)) hE.1 hE.2.1 dX9_whyNotTold_102 (by decide) ?_
                exact kr _ _ _ rfl ⟨-2, Or.inr (by omega), rfl⟩ dX9_whyNotTold_104
              · skip
                refine lv_lload hE.1 hE.2.1 dX9_whyNotTold_94 (lv_at hl 1 rfl) ?_
                refine lv_lload hE.1 hE.2.1 dX9_whyNotTold_96 (lv_at hl 0 rfl) ?_
                refine W.lcmp hE.1 hE.2.1 dX9_whyNotTold_98 ?_
                obtain ⟨z21, hz21, ez21⟩ := lcmp_of (a := z14) (b := z16) (by omega) (by omega)
                refine x_top ez21 ?_
                refine s_if_ne (a := z21) (tgt := 105) hE.1 hE.2.1 (by omega) dX9_whyNotTold_99 (by decide) (fun c22 => ?_) (fun c22 => ?_)
                · skip
                  refine lv_iload_n hE.1 hE.2.1 dX9_whyNotTold_105 rfl (lv_at hl 6 rfl) ?_
                  refine lv_iconst (v := iI (3)) hE.1 hE.2.1 dX9_whyNotTold_106 (by decide) ?_
                  refine s_icmp_ne (a := 2) (b := 3) (tgt := 141) hE.1 hE.2.1 (by omega) (by omega) dX9_whyNotTold_107 (by decide) (fun _ => ?_) (fun c23 => False.elim (by omega))
                  refine lv_iload hE.1 hE.2.1 dX9_whyNotTold_141 (lv_at hl 2 rfl) ?_
                  refine lv_iload_n hE.1 hE.2.1 dX9_whyNotTold_143 rfl (lv_at hl 6 rfl) ?_
                  refine lv_iadd hE.1 hE.2.1 dX9_whyNotTold_144 ?_
                  refine x_top (y := iI (y10_4 + 2)) ((iI_add (y10_4) (2)).trans (congrArg iI (by omega))) ?_
                  refine lv_istore (lv' := [(4, .int (iI (y10_4 + 2))), (7, .long (lI (z16))), (5, .long (lI (z14))), (3, .int (iI (z4))), (0, .ref (ad 0)), (1, .int (iI (z_1))), (2, .int (iI (2)))]) hE.1 hE.2.1 dX9_whyNotTold_145 hl (by decide) rfl (fun ls hl => ?_)
                  refine lv_goto (tgt := 29) hE.1 hE.2.1 dX9_whyNotTold_147 (by decide) ?_
                  exact ih10 _ (by omega) (y10_4 + 2) _ rfl (by omega) (MSp_step (MSp_step hb_xi10 (by omega) ez14 (by omega) (by omega) rfl) (by omega) ez16 (by omega) (by omega) (by omega)) (lv_sub hl [0, 3, 4, 5, 6] rfl)
                · skip
                  refine lv_bipush (v := iI (-2)) hE.1 hE.2.1 dX9_whyNotTold_102 (by decide) ?_
                  exact kr _ _ _ rfl ⟨-2, Or.inr (by omega), rfl⟩ dX9_whyNotTold_104
      exact loop10 _ (0) _ rfl (by omega) (MSp_0 _ _ (by omega)) hl
    · skip
      refine lv_bipush (v := iI (-2)) hE.1 hE.2.1 dX9_whyNotTold_23 (by decide) ?_
      exact kr _ _ _ rfl ⟨-2, Or.inr (by omega), rfl⟩ dX9_whyNotTold_25
  · skip
    refine lv_iload_n hE.1 hE.2.1 dX9_whyNotTold_10 rfl (lv_at hl 0 rfl) ?_
    exact kr _ _ _ rfl ⟨z4, Or.inr (by omega), rfl⟩ dX9_whyNotTold_11

theorem dX9_fits_0 : decode cX9_fits 0 = .ok (.aload_n 0, 1) := by decide +kernel
theorem dX9_fits_1 : decode cX9_fits 1 = .ok (.iconst 0, 1) := by decide +kernel
theorem dX9_fits_2 : decode cX9_fits 2 = .ok (.putfield 81, 3) := by decide +kernel
theorem dX9_fits_5 : decode cX9_fits 5 = .ok (.aload_n 0, 1) := by decide +kernel
theorem dX9_fits_6 : decode cX9_fits 6 = .ok (.iload_n 1, 1) := by decide +kernel
theorem dX9_fits_7 : decode cX9_fits 7 = .ok (.iconst 2, 1) := by decide +kernel
theorem dX9_fits_8 : decode cX9_fits 8 = .ok (.invokevirtual 427, 3) := by decide +kernel
theorem dX9_fits_11 : decode cX9_fits 11 = .ok (.istore_n 2, 1) := by decide +kernel
theorem dX9_fits_12 : decode cX9_fits 12 = .ok (.iload_n 2, 1) := by decide +kernel
theorem dX9_fits_13 : decode cX9_fits 13 = .ok (.ifCond .eq 5, 3) := by decide +kernel
theorem dX9_fits_16 : decode cX9_fits 16 = .ok (.iload_n 2, 1) := by decide +kernel
theorem dX9_fits_17 : decode cX9_fits 17 = .ok (.ireturn, 1) := by decide +kernel
theorem dX9_fits_18 : decode cX9_fits 18 = .ok (.aload_n 0, 1) := by decide +kernel
theorem dX9_fits_19 : decode cX9_fits 19 = .ok (.iconst 0, 1) := by decide +kernel
theorem dX9_fits_20 : decode cX9_fits 20 = .ok (.iconst 0, 1) := by decide +kernel
theorem dX9_fits_21 : decode cX9_fits 21 = .ok (.iload_n 1, 1) := by decide +kernel
theorem dX9_fits_22 : decode cX9_fits 22 = .ok (.invokevirtual 361, 3) := by decide +kernel
theorem dX9_fits_25 : decode cX9_fits 25 = .ok (.aload_n 0, 1) := by decide +kernel
theorem dX9_fits_26 : decode cX9_fits 26 = .ok (.getfield 328, 3) := by decide +kernel
theorem dX9_fits_29 : decode cX9_fits 29 = .ok (.ireturn, 1) := by decide +kernel
set_option maxHeartbeats 4000000 in
set_option maxRecDepth 100000 in
theorem s_X9_fits (l : Launch) (D : va_G) (K : Nat → ClassId) (ad : Nat → Nat) (v ar : sI) (al : sL) (hI : YI v ar) (z_1 : Int) (hz_1 : -2147483648 ≤ z_1 ∧ z_1 ≤ 2147483647) : Met l yX9_fits (wM yX9_fits cX9_fits 3 (some .int)) (rmD 15) (va_Pc [.ref (ad 0), .int (iI (z_1))] (wPre D K ad (yG ad K) 21 v ar al)) (va_Qi (fun (r : Int32) (u : sT) => (∃ z : Int, (-2147483648 ≤ z ∧ z ≤ 2147483647) ∧ r = iI z) ∧ YI u.1 u.2.1 ∧ (∀ i j : Nat, (i, j) ∉ ([(0, 0), (0, 24), (0, 25), (0, 26), (0, 27), (0, 29), (0, 30), (0, 31), (0, 32), (0, 33), (0, 37), (0, 38), (0, 39), (0, 40), (0, 41)] : List (Nat × Nat)) → u.1 i j = v i j) ∧ (∀ i : Nat, i ∉ ([12, 13, 14, 15, 16, 17] : List Nat) → u.2.1 i = ar i) ∧ (∀ i : Nat, i ∉ ([] : List Nat) → u.2.2 i = al i)) (wB D ad (yG ad K) 21) (inW ad 21)) 0 0 (inW ad 21) := by
  refine s_metI (by decide) (Nat.le_of_ble_eq_true rfl) ?_
  intro p e s m below meth c ls args Q hE hB hl kr
  have hE : CallFix p m c cX9_fits 3 s args tbG "TaleCourtModel" := hE
  obtain ⟨hP, hK, hN⟩ := hB
  have hS : va_S (inW ad 21) s.heap s.heap [] := va_S.rf
  have hl : lv_has ls 3 [(0, .ref (ad 0)), (1, .int (iI (z_1)))] := hl
  obtain ⟨z1, hz1, ez1⟩ := iI_of (ar 6 0)
  obtain ⟨z2, hz2, ez2⟩ := YI_h2 hI 2 (by decide)
  obtain ⟨z3, hz3, ez3⟩ := YI_h5 hI 5 (by decide)
  obtain ⟨z4, hz4, ez4⟩ := YI_h0 hI 0 (by decide)
  have ht0 := YI_t0 hI ez1 (by omega) ez2 (by omega) ez3 (by omega) ez4 (by omega)
  refine lv_aload_n hE.1 hE.2.1 dX9_fits_0 rfl (lv_at hl 0 rfl) ?_
  refine lv_iconst (v := iI (0)) hE.1 hE.2.1 dX9_fits_1 (by decide) ?_
  refine x_put (x := iI (0)) hE hK hN hP hS 0 (by decide) (yG_9 rfl) rfl hin9 tyX9 tyX9_ok nmX9 0 (by decide) mw_1334 rfl rfl rfl (Nat.le_of_ble_eq_true rfl) (yG_9 rfl) dX9_fits_2 (fun v5 H locs hv5 hP hS => ?_)
  have hI := YI_putN hI hv5 (by decide)
  refine lv_aload_n hE.1 hE.2.1 dX9_fits_5 rfl (lv_at hl 0 rfl) ?_
  refine lv_iload_n hE.1 hE.2.1 dX9_fits_6 rfl (lv_at hl 1 rfl) ?_
  refine lv_iconst (v := iI (2)) hE.1 hE.2.1 dX9_fits_7 (by decide) ?_
  refine x_vp (nn := 2) (As := [.int (iI (z_1)), .int (iI (2))]) (rest := []) hE (s_X9_whyNotTold_e_c1_2 l D K ad v5 ar al hI (z1) (by omega) ez1 (z_1) (by omega)) wPre_blind (wPre_now hK hN hP) (x_recv hK hP 0 (by decide) (yG_9 rfl) rfl) rfl mw_1990 mw_1992 mw_106 mw_123 mw_1993 (by decide +kernel) ⟨by decide, by decide⟩ hl.1 rfl (Nat.le_of_ble_eq_true rfl) ⟨Nat.zero_le _, Nat.zero_le _⟩ dX9_fits_8 (fun r6 hr6 => ?_)
  obtain ⟨z6, hz6, rfl⟩ := hr6
  refine lv_istore_n (lv' := [(2, .int (iI (z6))), (0, .ref (ad 0)), (1, .int (iI (z_1)))]) hE.1 hE.2.1 dX9_fits_11 rfl hl (by decide) rfl (fun ls hl => ?_)
  refine lv_iload_n hE.1 hE.2.1 dX9_fits_12 rfl (lv_at hl 0 rfl) ?_
  refine s_if_eq (a := z6) (tgt := 18) hE.1 hE.2.1 (by omega) dX9_fits_13 (by decide) (fun c7 => ?_) (fun c7 => ?_)
  · skip
    refine lv_aload_n hE.1 hE.2.1 dX9_fits_18 rfl (lv_at hl 1 rfl) ?_
    refine lv_iconst (v := iI (0)) hE.1 hE.2.1 dX9_fits_19 (by decide) ?_
    refine lv_iconst (v := iI (0)) hE.1 hE.2.1 dX9_fits_20 (by decide) ?_
    refine lv_iload_n hE.1 hE.2.1 dX9_fits_21 rfl (lv_at hl 2 rfl) ?_
    refine x_vv (nn := 3) (As := [.int (iI (0)), .int (iI (0)), .int (iI (z_1))]) (rest := []) hE hK hN hP hS (s_X9_goesAll l D K ad v5 ar al hI (z4) (by omega) ez4 (0) (by omega) (0) (by omega) (z_1) (by omega) (FTv_tr ((hz6.resolve_right (by omega)).2.2.2) rfl rfl rfl)) (x_recv hK hP 0 (by decide) (yG_9 rfl) rfl) rfl mw_1798 mw_1800 mw_85 mw_123 mw_1801 (by decide +kernel) ⟨by decide, by decide⟩ hl.1 rfl (Nat.le_of_ble_eq_true rfl) ⟨Nat.zero_le _, Nat.zero_le _⟩ dX9_fits_22 (fun v8 ar8 al8 H locs hq8 hP hS => ?_)
    obtain ⟨hI, hq8, hqa8, hql8⟩ := hq8
    have hI : YI v8 ar8 := hI
    refine lv_aload_n hE.1 hE.2.1 dX9_fits_25 rfl (lv_at hl 1 rfl) ?_
    obtain ⟨z9, hz9, ez9⟩ := iI_of (v8 0 40)
    refine x_get (x := .int (v8 0 40)) hE hK hP 0 (by decide) (yG_9 rfl) rfl hin9 40 (by decide) mw_1374 rfl dX9_fits_26 ?_
    refine x_top (y := iI (z9)) ez9 ?_
    exact kr _ v8 ar8 al8 _ _ _ _ rfl ⟨⟨z9, by omega, rfl⟩, hI, fun i j h => ((hq8 i j (fun q => h (mem_sub (by decide) q))).trans (up_oth hv5 (fun q => h (by rcases q with ⟨rfl, rfl⟩; decide)))), fun i h => (hqa8 i (fun q => h (mem_subn (by decide) q))), fun i h => (hql8 i (fun q => h (mem_subn (by decide) q)))⟩ hP hS dX9_fits_29
  · skip
    refine lv_iload_n hE.1 hE.2.1 dX9_fits_16 rfl (lv_at hl 0 rfl) ?_
    exact kr _ v5 ar al _ _ _ _ rfl ⟨⟨z6, by omega, rfl⟩, hI, fun i j h => (up_oth hv5 (fun q => h (by rcases q with ⟨rfl, rfl⟩; decide))), fun i h => rfl, fun i h => rfl⟩ hP hS dX9_fits_17
