theorem dX9_court_0 : decode cX9_court 0 = .ok (.aload_n 0, 1) := by decide +kernel
theorem dX9_court_1 : decode cX9_court 1 = .ok (.iconst 0, 1) := by decide +kernel
theorem dX9_court_2 : decode cX9_court 2 = .ok (.putfield 81, 3) := by decide +kernel
theorem dX9_court_5 : decode cX9_court 5 = .ok (.aload_n 0, 1) := by decide +kernel
theorem dX9_court_6 : decode cX9_court 6 = .ok (.invokevirtual 221, 3) := by decide +kernel
theorem dX9_court_9 : decode cX9_court 9 = .ok (.aload_n 0, 1) := by decide +kernel
theorem dX9_court_10 : decode cX9_court 10 = .ok (.invokevirtual 224, 3) := by decide +kernel
theorem dX9_court_13 : decode cX9_court 13 = .ok (.aload_n 0, 1) := by decide +kernel
theorem dX9_court_14 : decode cX9_court 14 = .ok (.invokevirtual 175, 3) := by decide +kernel
theorem dX9_court_17 : decode cX9_court 17 = .ok (.ifCond .eq 89, 3) := by decide +kernel
theorem dX9_court_20 : decode cX9_court 20 = .ok (.aload_n 0, 1) := by decide +kernel
theorem dX9_court_21 : decode cX9_court 21 = .ok (.getfield 122, 3) := by decide +kernel
theorem dX9_court_24 : decode cX9_court 24 = .ok (.ifCond .eq 82, 3) := by decide +kernel
theorem dX9_court_27 : decode cX9_court 27 = .ok (.aload_n 0, 1) := by decide +kernel
theorem dX9_court_28 : decode cX9_court 28 = .ok (.getfield 31, 3) := by decide +kernel
theorem dX9_court_31 : decode cX9_court 31 = .ok (.iconst 4, 1) := by decide +kernel
theorem dX9_court_32 : decode cX9_court 32 = .ok (.iaload, 1) := by decide +kernel
theorem dX9_court_33 : decode cX9_court 33 = .ok (.ifCond .ne 45, 3) := by decide +kernel
theorem dX9_court_36 : decode cX9_court 36 = .ok (.aload_n 0, 1) := by decide +kernel
theorem dX9_court_37 : decode cX9_court 37 = .ok (.ldc2_w 227, 3) := by decide +kernel
theorem dX9_court_40 : decode cX9_court 40 = .ok (.invokevirtual 152, 3) := by decide +kernel
theorem dX9_court_43 : decode cX9_court 43 = .ok (.aload_n 0, 1) := by decide +kernel
theorem dX9_court_44 : decode cX9_court 44 = .ok (.getfield 34, 3) := by decide +kernel
theorem dX9_court_47 : decode cX9_court 47 = .ok (.bipush 24, 2) := by decide +kernel
theorem dX9_court_49 : decode cX9_court 49 = .ok (.aload_n 0, 1) := by decide +kernel
theorem dX9_court_50 : decode cX9_court 50 = .ok (.ldc2_w 229, 3) := by decide +kernel
theorem dX9_court_53 : decode cX9_court 53 = .ok (.iconst 1, 1) := by decide +kernel
theorem dX9_court_54 : decode cX9_court 54 = .ok (.iconst 3, 1) := by decide +kernel
theorem dX9_court_55 : decode cX9_court 55 = .ok (.invokevirtual 172, 3) := by decide +kernel
theorem dX9_court_58 : decode cX9_court 58 = .ok (.iastore, 1) := by decide +kernel
theorem dX9_court_59 : decode cX9_court 59 = .ok (.aload_n 0, 1) := by decide +kernel
theorem dX9_court_60 : decode cX9_court 60 = .ok (.getfield 34, 3) := by decide +kernel
theorem dX9_court_63 : decode cX9_court 63 = .ok (.bipush 25, 2) := by decide +kernel
theorem dX9_court_65 : decode cX9_court 65 = .ok (.aload_n 0, 1) := by decide +kernel
theorem dX9_court_66 : decode cX9_court 66 = .ok (.ldc2_w 231, 3) := by decide +kernel
theorem dX9_court_69 : decode cX9_court 69 = .ok (.iconst 0, 1) := by decide +kernel
theorem dX9_court_70 : decode cX9_court 70 = .ok (.iconst 3, 1) := by decide +kernel
theorem dX9_court_71 : decode cX9_court 71 = .ok (.invokevirtual 172, 3) := by decide +kernel
theorem dX9_court_74 : decode cX9_court 74 = .ok (.iastore, 1) := by decide +kernel
theorem dX9_court_75 : decode cX9_court 75 = .ok (.goto 7, 3) := by decide +kernel
theorem dX9_court_78 : decode cX9_court 78 = .ok (.aload_n 0, 1) := by decide +kernel
theorem dX9_court_79 : decode cX9_court 79 = .ok (.invokevirtual 233, 3) := by decide +kernel
theorem dX9_court_82 : decode cX9_court 82 = .ok (.aload_n 0, 1) := by decide +kernel
theorem dX9_court_83 : decode cX9_court 83 = .ok (.invokevirtual 175, 3) := by decide +kernel
theorem dX9_court_86 : decode cX9_court 86 = .ok (.ifCond .eq 7, 3) := by decide +kernel
theorem dX9_court_89 : decode cX9_court 89 = .ok (.aload_n 0, 1) := by decide +kernel
theorem dX9_court_90 : decode cX9_court 90 = .ok (.invokevirtual 236, 3) := by decide +kernel
theorem dX9_court_93 : decode cX9_court 93 = .ok (.aload_n 0, 1) := by decide +kernel
theorem dX9_court_94 : decode cX9_court 94 = .ok (.getfield 31, 3) := by decide +kernel
theorem dX9_court_97 : decode cX9_court 97 = .ok (.iconst 4, 1) := by decide +kernel
theorem dX9_court_98 : decode cX9_court 98 = .ok (.dup2, 1) := by decide +kernel
theorem dX9_court_99 : decode cX9_court 99 = .ok (.iaload, 1) := by decide +kernel
theorem dX9_court_100 : decode cX9_court 100 = .ok (.iconst 1, 1) := by decide +kernel
theorem dX9_court_101 : decode cX9_court 101 = .ok (.iadd, 1) := by decide +kernel
theorem dX9_court_102 : decode cX9_court 102 = .ok (.iastore, 1) := by decide +kernel
theorem dX9_court_103 : decode cX9_court 103 = .ok (.goto (-90), 3) := by decide +kernel
theorem dX9_court_106 : decode cX9_court 106 = .ok (.aload_n 0, 1) := by decide +kernel
theorem dX9_court_107 : decode cX9_court 107 = .ok (.invokevirtual 239, 3) := by decide +kernel
theorem dX9_court_110 : decode cX9_court 110 = .ok (.aload_n 0, 1) := by decide +kernel
theorem dX9_court_111 : decode cX9_court 111 = .ok (.getfield 133, 3) := by decide +kernel
theorem dX9_court_114 : decode cX9_court 114 = .ok (.ifCond .eq 6, 3) := by decide +kernel
theorem dX9_court_117 : decode cX9_court 117 = .ok (.bipush (-4), 2) := by decide +kernel
theorem dX9_court_119 : decode cX9_court 119 = .ok (.ireturn, 1) := by decide +kernel
theorem dX9_court_120 : decode cX9_court 120 = .ok (.aload_n 0, 1) := by decide +kernel
theorem dX9_court_121 : decode cX9_court 121 = .ok (.iconst 4, 1) := by decide +kernel
theorem dX9_court_122 : decode cX9_court 122 = .ok (.iconst 0, 1) := by decide +kernel
theorem dX9_court_123 : decode cX9_court 123 = .ok (.invokevirtual 242, 3) := by decide +kernel
theorem dX9_court_126 : decode cX9_court 126 = .ok (.aload_n 0, 1) := by decide +kernel
theorem dX9_court_127 : decode cX9_court 127 = .ok (.invokevirtual 246, 3) := by decide +kernel
theorem dX9_court_130 : decode cX9_court 130 = .ok (.aload_n 0, 1) := by decide +kernel
theorem dX9_court_131 : decode cX9_court 131 = .ok (.getfield 31, 3) := by decide +kernel
theorem dX9_court_134 : decode cX9_court 134 = .ok (.iconst 0, 1) := by decide +kernel
theorem dX9_court_135 : decode cX9_court 135 = .ok (.iaload, 1) := by decide +kernel
theorem dX9_court_136 : decode cX9_court 136 = .ok (.ireturn, 1) := by decide +kernel
set_option maxHeartbeats 4000000 in
set_option maxRecDepth 100000 in
theorem s_X9_court (l : Launch) (D : va_G) (K : Nat → ClassId) (ad : Nat → Nat) (v ar : sI) (al : sL) (hI : YI v ar) (w_1 : Int) (hw_1 : 0 ≤ w_1 ∧ w_1 ≤ 1600) (ew_1 : v 0 6 = iI w_1) : Met l yX9_court (wM yX9_court cX9_court 1 (some .int)) (rmD 7) (va_Pc [.ref (ad 0)] (wPre D K ad (yG ad K) 21 v ar al)) (va_Qi (fun (r : Int32) (u : sT) => (∃ z : Int, (-2147483648 ≤ z ∧ z ≤ 2147483647) ∧ r = iI z) ∧ YI u.1 u.2.1 ∧ (∀ i j : Nat, (i, j) ∉ ([(0, 0), (0, 6), (0, 7), (0, 8), (0, 9), (0, 10), (0, 12), (0, 13), (0, 14), (0, 15), (0, 24), (0, 25), (0, 26), (0, 27)] : List (Nat × Nat)) → u.1 i j = v i j) ∧ (∀ i : Nat, i ∉ ([6, 7, 8, 9, 10, 12, 13, 14] : List Nat) → u.2.1 i = ar i) ∧ (∀ i : Nat, i ∉ ([0] : List Nat) → u.2.2 i = al i)) (wB D ad (yG ad K) 21) (inW ad 21)) 0 0 (inW ad 21) := by
  refine s_metI (by decide) (Nat.le_of_ble_eq_true rfl) ?_
  intro p e s m below meth c ls args Q hE hB hl kr
  have hE : CallFix p m c cX9_court 1 s args tbG "TaleCourtModel" := hE
  obtain ⟨hP, hK, hN⟩ := hB
  have hS : va_S (inW ad 21) s.heap s.heap [] := va_S.rf
  have hl : lv_has ls 1 [(0, .ref (ad 0))] := hl
  refine lv_aload_n hE.1 hE.2.1 dX9_court_0 rfl (lv_at hl 0 rfl) ?_
  refine lv_iconst (v := iI (0)) hE.1 hE.2.1 dX9_court_1 (by decide) ?_
  refine x_put (x := iI (0)) hE hK hN hP hS 0 (by decide) (yG_9 rfl) rfl hin9 tyX9 tyX9_ok nmX9 0 (by decide) mw_1334 rfl rfl rfl (Nat.le_of_ble_eq_true rfl) (yG_9 rfl) dX9_court_2 (fun v1 H locs hv1 hP hS => ?_)
  have hI := YI_putN hI hv1 (by decide)
  refine lv_aload_n hE.1 hE.2.1 dX9_court_5 rfl (lv_at hl 0 rfl) ?_
  refine x_vv (nn := 0) (As := []) (rest := []) hE hK hN hP hS (s_X9_clears l D K ad v1 ar al hI  ) (x_recv hK hP 0 (by decide) (yG_9 rfl) rfl) rfl mw_1528 mw_1530 mw_48 mw_123 mw_1531 (by decide +kernel) ⟨by decide, by decide⟩ hl.1 rfl (Nat.le_of_ble_eq_true rfl) ⟨Nat.zero_le _, Nat.zero_le _⟩ dX9_court_6 (fun v2 ar2 al2 H locs hq2 hP hS => ?_)
  obtain ⟨hI, hq2, hqa2, hql2⟩ := hq2
  have hI : YI v2 ar2 := hI
  refine lv_aload_n hE.1 hE.2.1 dX9_court_9 rfl (lv_at hl 0 rfl) ?_
  refine x_vv (nn := 0) (As := []) (rest := []) hE hK hN hP hS (s_X9_begins l D K ad v2 ar2 al2 hI (w_1) (by omega) ((hq2 0 6 (by decide)).trans ((up_oth hv1 (by decide)).trans ew_1)) ) (x_recv hK hP 0 (by decide) (yG_9 rfl) rfl) rfl mw_1532 mw_1534 mw_49 mw_123 mw_1535 (by decide +kernel) ⟨by decide, by decide⟩ hl.1 rfl (Nat.le_of_ble_eq_true rfl) ⟨Nat.zero_le _, Nat.zero_le _⟩ dX9_court_10 (fun v3 ar3 al3 H locs hq3 hP hS => ?_)
  obtain ⟨hI, hq3, hqa3, hql3, x3_1, hx3, ex3_1⟩ := hq3
  have hI : YI v3 ar3 := hI
  obtain ⟨z5, hz5, ez5⟩ := iI_of (v3 0 8)
  obtain ⟨z6, hz6, ez6⟩ := iI_of (v3 0 12)
  have loop4 : ∀ (k4 : Nat) (yf4_0 : Int) (yf4_1 : Int) (yf4_2 : Int) (vl4 arl4 : sI) (all4 : sL) (H : Heap) (locs : List Loc) (ls : Array Slot), (if yf4_1 ≠ 0 ∧ yf4_2 = 0 then 1601 - yf4_0 else 0).toNat = k4 → (0 ≤ yf4_0 ∧ yf4_0 ≤ 1600 ∧ -2147483648 ≤ yf4_1 ∧ yf4_1 ≤ 2147483647 ∧ -2147483648 ≤ yf4_2 ∧ yf4_2 ≤ 2147483647 ∧ (yf4_0 ≤ w_1)) → (vl4 0 7 = iI yf4_0) → (vl4 0 8 = iI yf4_1) → (vl4 0 12 = iI yf4_2) → YI vl4 arl4 → (∀ i j : Nat, (i, j) ∉ ([(0, 7), (0, 8), (0, 9), (0, 10), (0, 12), (0, 13)] : List (Nat × Nat)) → vl4 i j = v3 i j) → (∀ i : Nat, i ∉ ([6, 7, 8, 9] : List Nat) → arl4 i = ar3 i) → (∀ i : Nat, i ∉ ([0] : List Nat) → all4 i = al3 i) → va_P D xcl (wW ad (yG ad K) 21 vl4 arl4 all4) H → va_S (inW ad 21) s.heap H locs → lv_has ls 1 [(0, .ref (ad 0))] → W p l e (rmD 7) s m args below meth c H locs 0 0 Q (F0 m 13 ls []) := by
    intro k4
    induction k4 using Nat.strongRecOn with
    | _ k4 ih4 =>
      intro  yf4_0 yf4_1 yf4_2 vl4 arl4 all4 H locs ls hk4  hyf4 eyf4_0 eyf4_1 eyf4_2 hI hfr4 hfa4 hfl4 hP hS hl
      refine lv_aload_n hE.1 hE.2.1 dX9_court_13 rfl (lv_at hl 0 rfl) ?_
      refine x_vp (nn := 0) (As := []) (rest := []) hE (s_X9_isGood l D K ad vl4 arl4 all4 hI (yf4_2) (by omega) eyf4_2 ) wPre_blind (wPre_now hK hN hP) (x_recv hK hP 0 (by decide) (yG_9 rfl) rfl) rfl mw_1549 mw_1551 mw_52 mw_123 mw_1552 (by decide +kernel) ⟨by decide, by decide⟩ hl.1 rfl (Nat.le_of_ble_eq_true rfl) ⟨Nat.zero_le _, Nat.zero_le _⟩ dX9_court_14 (fun r7 hr7 => ?_)
      obtain ⟨z7, hz7, rfl⟩ := hr7
      refine s_if_eq (a := z7) (tgt := 106) hE.1 hE.2.1 (by omega) dX9_court_17 (by decide) (fun c8 => ?_) (fun c8 => ?_)
      · skip
        refine lv_aload_n hE.1 hE.2.1 dX9_court_106 rfl (lv_at hl 0 rfl) ?_
        refine x_vv (nn := 0) (As := []) (rest := []) hE hK hN hP hS (s_X9_isOver l D K ad vl4 arl4 all4 hI  ) (x_recv hK hP 0 (by decide) (yG_9 rfl) rfl) rfl mw_1627 mw_1629 mw_67 mw_123 mw_1630 (by decide +kernel) ⟨by decide, by decide⟩ hl.1 rfl (Nat.le_of_ble_eq_true rfl) ⟨Nat.zero_le _, Nat.zero_le _⟩ dX9_court_107 (fun v9 ar9 al9 H locs hq9 hP hS => ?_)
        obtain ⟨hI, hq9, hqa9, hql9⟩ := hq9
        have hI : YI v9 ar9 := hI
        refine lv_aload_n hE.1 hE.2.1 dX9_court_110 rfl (lv_at hl 0 rfl) ?_
        refine x_get (x := .int (v9 0 12)) hE hK hP 0 (by decide) (yG_9 rfl) rfl hin9 12 (by decide) mw_1346 rfl dX9_court_111 ?_
        refine x_top (y := iI (yf4_2)) ((hq9 0 12 (by decide)).trans eyf4_2) ?_
        refine s_if_eq (a := yf4_2) (tgt := 120) hE.1 hE.2.1 (by omega) dX9_court_114 (by decide) (fun c10 => ?_) (fun c10 => ?_)
        · skip
          refine lv_aload_n hE.1 hE.2.1 dX9_court_120 rfl (lv_at hl 0 rfl) ?_
          refine lv_iconst (v := iI (4)) hE.1 hE.2.1 dX9_court_121 (by decide) ?_
          refine lv_iconst (v := iI (0)) hE.1 hE.2.1 dX9_court_122 (by decide) ?_
          refine x_vv (nn := 2) (As := [.int (iI (4)), .int (iI (0))]) (rest := []) hE hK hN hP hS (s_X9_copyCourt l D K ad v9 ar9 al9 hI  (4) (by omega) (0) (by omega) (by omega)) (x_recv hK hP 0 (by decide) (yG_9 rfl) rfl) rfl mw_1631 mw_1633 mw_68 mw_123 mw_1634 (by decide +kernel) ⟨by decide, by decide⟩ hl.1 rfl (Nat.le_of_ble_eq_true rfl) ⟨Nat.zero_le _, Nat.zero_le _⟩ dX9_court_123 (fun v11 ar11 al11 H locs hq11 hP hS => ?_)
          obtain ⟨hI, hq11, hqa11, hql11⟩ := hq11
          have hI : YI v11 ar11 := hI
          refine lv_aload_n hE.1 hE.2.1 dX9_court_126 rfl (lv_at hl 0 rfl) ?_
          obtain ⟨z12, hz12, ez12⟩ := YI_h5 hI 5 (by decide)
          refine x_vv (nn := 0) (As := []) (rest := []) hE hK hN hP hS (s_X9_lays l D K ad v11 ar11 al11 hI (z12) (by omega) ez12 ) (x_recv hK hP 0 (by decide) (yG_9 rfl) rfl) rfl mw_1638 mw_1640 mw_69 mw_123 mw_1641 (by decide +kernel) ⟨by decide, by decide⟩ hl.1 rfl (Nat.le_of_ble_eq_true rfl) ⟨Nat.zero_le _, Nat.zero_le _⟩ dX9_court_127 (fun v13 ar13 al13 H locs hq13 hP hS => ?_)
          obtain ⟨hI, hq13, hqa13, hql13, x13_1, x13_2, x13_3, hx13, ex13_1, ex13_2, ex13_3⟩ := hq13
          have hI : YI v13 ar13 := hI
          refine lv_aload_n hE.1 hE.2.1 dX9_court_130 rfl (lv_at hl 0 rfl) ?_
          refine x_get (x := .ref (ad 6)) hE hK hP 0 (by decide) (yG_9 rfl) rfl hin9 16 (by decide) mw_1350 rfl dX9_court_131 ?_
          refine lv_iconst (v := iI (0)) hE.1 hE.2.1 dX9_court_134 (by decide) ?_
          refine x_iald (j := iI (0)) hE hK hP 6 (by decide) (yG_10 rfl) (iI_in (n := 5) (by omega)) dX9_court_135 ?_
          obtain ⟨z15, hz15, ez15⟩ := iI_of (ar13 6 0)
          refine x_top (y := iI (z15)) (by rw [show (iI (0)).toNatClampNeg = 0 from by decide]; exact ez15) ?_
          exact kr _ v13 ar13 al13 _ _ _ _ rfl ⟨⟨z15, by omega, rfl⟩, hI, fun i j h => ((hq13 i j (fun q => h (mem_sub (by decide) q))).trans ((hq11 i j (fun q => h (mem_sub (by decide) q))).trans ((hq9 i j (fun q => h (mem_sub (by decide) q))).trans ((hfr4 i j (fun q => h (mem_sub (by decide) q))).trans ((hq3 i j (fun q => h (mem_sub (by decide) q))).trans ((hq2 i j (fun q => h (mem_sub (by decide) q))).trans (up_oth hv1 (fun q => h (by rcases q with ⟨rfl, rfl⟩; decide))))))))), fun i h => ((hqa13 i (fun q => h (mem_subn (by decide) q))).trans ((hqa11 i (fun q => h (mem_subn (by decide) q))).trans ((hqa9 i (fun q => h (mem_subn (by decide) q))).trans ((hfa4 i (fun q => h (mem_subn (by decide) q))).trans ((hqa3 i (fun q => h (mem_subn (by decide) q))).trans (hqa2 i (fun q => h (mem_subn (by decide) q)))))))), fun i h => ((hql13 i (fun q => h (mem_subn (by decide) q))).trans ((hql11 i (fun q => h (mem_subn (by decide) q))).trans ((hql9 i (fun q => h (mem_subn (by decide) q))).trans ((hfl4 i (fun q => h (mem_subn (by decide) q))).trans ((hql3 i (fun q => h (mem_subn (by decide) q))).trans (hql2 i (fun q => h (mem_subn (by decide) q))))))))⟩ hP hS dX9_court_136
        · skip
          refine lv_bipush (v := iI (-4)) hE.1 hE.2.1 dX9_court_117 (by decide) ?_
          exact kr _ v9 ar9 al9 _ _ _ _ rfl ⟨⟨-4, by omega, rfl⟩, hI, fun i j h => ((hq9 i j (fun q => h (mem_sub (by decide) q))).trans ((hfr4 i j (fun q => h (mem_sub (by decide) q))).trans ((hq3 i j (fun q => h (mem_sub (by decide) q))).trans ((hq2 i j (fun q => h (mem_sub (by decide) q))).trans (up_oth hv1 (fun q => h (by rcases q with ⟨rfl, rfl⟩; decide))))))), fun i h => ((hqa9 i (fun q => h (mem_subn (by decide) q))).trans ((hfa4 i (fun q => h (mem_subn (by decide) q))).trans ((hqa3 i (fun q => h (mem_subn (by decide) q))).trans (hqa2 i (fun q => h (mem_subn (by decide) q)))))), fun i h => ((hql9 i (fun q => h (mem_subn (by decide) q))).trans ((hfl4 i (fun q => h (mem_subn (by decide) q))).trans ((hql3 i (fun q => h (mem_subn (by decide) q))).trans (hql2 i (fun q => h (mem_subn (by decide) q))))))⟩ hP hS dX9_court_119
      · skip
        refine lv_aload_n hE.1 hE.2.1 dX9_court_20 rfl (lv_at hl 0 rfl) ?_
        refine x_get (x := .int (vl4 0 8)) hE hK hP 0 (by decide) (yG_9 rfl) rfl hin9 8 (by decide) mw_1342 rfl dX9_court_21 ?_
        refine x_top (y := iI (yf4_1)) eyf4_1 ?_
        refine s_if_eq (a := yf4_1) (tgt := 106) hE.1 hE.2.1 (by omega) dX9_court_24 (by decide) (fun c16 => ?_) (fun c16 => ?_)
        · skip
          refine lv_aload_n hE.1 hE.2.1 dX9_court_106 rfl (lv_at hl 0 rfl) ?_
          refine x_vv (nn := 0) (As := []) (rest := []) hE hK hN hP hS (s_X9_isOver l D K ad vl4 arl4 all4 hI  ) (x_recv hK hP 0 (by decide) (yG_9 rfl) rfl) rfl mw_1627 mw_1629 mw_67 mw_123 mw_1630 (by decide +kernel) ⟨by decide, by decide⟩ hl.1 rfl (Nat.le_of_ble_eq_true rfl) ⟨Nat.zero_le _, Nat.zero_le _⟩ dX9_court_107 (fun v17 ar17 al17 H locs hq17 hP hS => ?_)
          obtain ⟨hI, hq17, hqa17, hql17⟩ := hq17
          have hI : YI v17 ar17 := hI
          refine lv_aload_n hE.1 hE.2.1 dX9_court_110 rfl (lv_at hl 0 rfl) ?_
          refine x_get (x := .int (v17 0 12)) hE hK hP 0 (by decide) (yG_9 rfl) rfl hin9 12 (by decide) mw_1346 rfl dX9_court_111 ?_
          refine x_top (y := iI (yf4_2)) ((hq17 0 12 (by decide)).trans eyf4_2) ?_
          refine s_if_eq (a := yf4_2) (tgt := 120) hE.1 hE.2.1 (by omega) dX9_court_114 (by decide) (fun c18 => ?_) (fun c18 => ?_)
          · skip
            refine lv_aload_n hE.1 hE.2.1 dX9_court_120 rfl (lv_at hl 0 rfl) ?_
            refine lv_iconst (v := iI (4)) hE.1 hE.2.1 dX9_court_121 (by decide) ?_
            refine lv_iconst (v := iI (0)) hE.1 hE.2.1 dX9_court_122 (by decide) ?_
            refine x_vv (nn := 2) (As := [.int (iI (4)), .int (iI (0))]) (rest := []) hE hK hN hP hS (s_X9_copyCourt l D K ad v17 ar17 al17 hI  (4) (by omega) (0) (by omega) (by omega)) (x_recv hK hP 0 (by decide) (yG_9 rfl) rfl) rfl mw_1631 mw_1633 mw_68 mw_123 mw_1634 (by decide +kernel) ⟨by decide, by decide⟩ hl.1 rfl (Nat.le_of_ble_eq_true rfl) ⟨Nat.zero_le _, Nat.zero_le _⟩ dX9_court_123 (fun v19 ar19 al19 H locs hq19 hP hS => ?_)
            obtain ⟨hI, hq19, hqa19, hql19⟩ := hq19
            have hI : YI v19 ar19 := hI
            refine lv_aload_n hE.1 hE.2.1 dX9_court_126 rfl (lv_at hl 0 rfl) ?_
            obtain ⟨z20, hz20, ez20⟩ := YI_h5 hI 5 (by decide)
            refine x_vv (nn := 0) (As := []) (rest := []) hE hK hN hP hS (s_X9_lays l D K ad v19 ar19 al19 hI (z20) (by omega) ez20 ) (x_recv hK hP 0 (by decide) (yG_9 rfl) rfl) rfl mw_1638 mw_1640 mw_69 mw_123 mw_1641 (by decide +kernel) ⟨by decide, by decide⟩ hl.1 rfl (Nat.le_of_ble_eq_true rfl) ⟨Nat.zero_le _, Nat.zero_le _⟩ dX9_court_127 (fun v21 ar21 al21 H locs hq21 hP hS => ?_)
            obtain ⟨hI, hq21, hqa21, hql21, x21_1, x21_2, x21_3, hx21, ex21_1, ex21_2, ex21_3⟩ := hq21
            have hI : YI v21 ar21 := hI
            refine lv_aload_n hE.1 hE.2.1 dX9_court_130 rfl (lv_at hl 0 rfl) ?_
            refine x_get (x := .ref (ad 6)) hE hK hP 0 (by decide) (yG_9 rfl) rfl hin9 16 (by decide) mw_1350 rfl dX9_court_131 ?_
            refine lv_iconst (v := iI (0)) hE.1 hE.2.1 dX9_court_134 (by decide) ?_
            refine x_iald (j := iI (0)) hE hK hP 6 (by decide) (yG_10 rfl) (iI_in (n := 5) (by omega)) dX9_court_135 ?_
            obtain ⟨z23, hz23, ez23⟩ := iI_of (ar21 6 0)
            refine x_top (y := iI (z23)) (by rw [show (iI (0)).toNatClampNeg = 0 from by decide]; exact ez23) ?_
            exact kr _ v21 ar21 al21 _ _ _ _ rfl ⟨⟨z23, by omega, rfl⟩, hI, fun i j h => ((hq21 i j (fun q => h (mem_sub (by decide) q))).trans ((hq19 i j (fun q => h (mem_sub (by decide) q))).trans ((hq17 i j (fun q => h (mem_sub (by decide) q))).trans ((hfr4 i j (fun q => h (mem_sub (by decide) q))).trans ((hq3 i j (fun q => h (mem_sub (by decide) q))).trans ((hq2 i j (fun q => h (mem_sub (by decide) q))).trans (up_oth hv1 (fun q => h (by rcases q with ⟨rfl, rfl⟩; decide))))))))), fun i h => ((hqa21 i (fun q => h (mem_subn (by decide) q))).trans ((hqa19 i (fun q => h (mem_subn (by decide) q))).trans ((hqa17 i (fun q => h (mem_subn (by decide) q))).trans ((hfa4 i (fun q => h (mem_subn (by decide) q))).trans ((hqa3 i (fun q => h (mem_subn (by decide) q))).trans (hqa2 i (fun q => h (mem_subn (by decide) q)))))))), fun i h => ((hql21 i (fun q => h (mem_subn (by decide) q))).trans ((hql19 i (fun q => h (mem_subn (by decide) q))).trans ((hql17 i (fun q => h (mem_subn (by decide) q))).trans ((hfl4 i (fun q => h (mem_subn (by decide) q))).trans ((hql3 i (fun q => h (mem_subn (by decide) q))).trans (hql2 i (fun q => h (mem_subn (by decide) q))))))))⟩ hP hS dX9_court_136
          · skip
            refine lv_bipush (v := iI (-4)) hE.1 hE.2.1 dX9_court_117 (by decide) ?_
            exact kr _ v17 ar17 al17 _ _ _ _ rfl ⟨⟨-4, by omega, rfl⟩, hI, fun i j h => ((hq17 i j (fun q => h (mem_sub (by decide) q))).trans ((hfr4 i j (fun q => h (mem_sub (by decide) q))).trans ((hq3 i j (fun q => h (mem_sub (by decide) q))).trans ((hq2 i j (fun q => h (mem_sub (by decide) q))).trans (up_oth hv1 (fun q => h (by rcases q with ⟨rfl, rfl⟩; decide))))))), fun i h => ((hqa17 i (fun q => h (mem_subn (by decide) q))).trans ((hfa4 i (fun q => h (mem_subn (by decide) q))).trans ((hqa3 i (fun q => h (mem_subn (by decide) q))).trans (hqa2 i (fun q => h (mem_subn (by decide) q)))))), fun i h => ((hql17 i (fun q => h (mem_subn (by decide) q))).trans ((hfl4 i (fun q => h (mem_subn (by decide) q))).trans ((hql3 i (fun q => h (mem_subn (by decide) q))).trans (hql2 i (fun q => h (mem_subn (by decide) q))))))⟩ hP hS dX9_court_119
        · skip
          refine lv_aload_n hE.1 hE.2.1 dX9_court_27 rfl (lv_at hl 0 rfl) ?_
          refine x_get (x := .ref (ad 6)) hE hK hP 0 (by decide) (yG_9 rfl) rfl hin9 16 (by decide) mw_1350 rfl dX9_court_28 ?_
          refine lv_iconst (v := iI (4)) hE.1 hE.2.1 dX9_court_31 (by decide) ?_
          refine x_iald (j := iI (4)) hE hK hP 6 (by decide) (yG_10 rfl) (iI_in (n := 5) (by omega)) dX9_court_32 ?_
          obtain ⟨z25, hz25, ez25⟩ := iI_of (arl4 6 4)
          refine x_top (y := iI (z25)) (by rw [show (iI (4)).toNatClampNeg = 4 from by decide]; exact ez25) ?_
          refine s_if_ne (a := z25) (tgt := 78) hE.1 hE.2.1 (by omega) dX9_court_33 (by decide) (fun c26 => ?_) (fun c26 => ?_)
          · skip
            refine lv_aload_n hE.1 hE.2.1 dX9_court_78 rfl (lv_at hl 0 rfl) ?_
            obtain ⟨z27, hz27, ez27⟩ := YI_h0 hI 24 (by decide)
            have htr28 := YI_tr hI ez25 (by omega) ez27 (by omega)
            refine x_vv (nn := 0) (As := []) (rest := []) hE hK hN hP hS (s_X9_line l D K ad vl4 arl4 all4 hI (w_1) (by omega) ((hfr4 0 6 (by decide)).trans ((hq3 0 6 (by decide)).trans ((hq2 0 6 (by decide)).trans ((up_oth hv1 (by decide)).trans ew_1)))) (yf4_0) (by omega) eyf4_0 (z27) (by omega) ez27  (by omega)) (x_recv hK hP 0 (by decide) (yG_9 rfl) rfl) rfl mw_1580 mw_1582 mw_59 mw_123 mw_1583 (by decide +kernel) ⟨by decide, by decide⟩ hl.1 rfl (Nat.le_of_ble_eq_true rfl) ⟨Nat.zero_le _, Nat.zero_le _⟩ dX9_court_79 (fun v29 ar29 al29 H locs hq29 hP hS => ?_)
            obtain ⟨hI, hq29, hqa29, hql29, x29_1, hx29, ex29_1⟩ := hq29
            have hI : YI v29 ar29 := hI
            refine lv_aload_n hE.1 hE.2.1 dX9_court_82 rfl (lv_at hl 0 rfl) ?_
            obtain ⟨z30, hz30, ez30⟩ := iI_of (v29 0 12)
            refine x_vp (nn := 0) (As := []) (rest := []) hE (s_X9_isGood l D K ad v29 ar29 al29 hI (z30) (by omega) ez30 ) wPre_blind (wPre_now hK hN hP) (x_recv hK hP 0 (by decide) (yG_9 rfl) rfl) rfl mw_1549 mw_1551 mw_52 mw_123 mw_1552 (by decide +kernel) ⟨by decide, by decide⟩ hl.1 rfl (Nat.le_of_ble_eq_true rfl) ⟨Nat.zero_le _, Nat.zero_le _⟩ dX9_court_83 (fun r31 hr31 => ?_)
            obtain ⟨z31, hz31, rfl⟩ := hr31
            refine s_if_eq (a := z31) (tgt := 93) hE.1 hE.2.1 (by omega) dX9_court_86 (by decide) (fun c32 => ?_) (fun c32 => ?_)
            · skip
              refine lv_aload_n hE.1 hE.2.1 dX9_court_93 rfl (lv_at hl 0 rfl) ?_
              refine x_get (x := .ref (ad 6)) hE hK hP 0 (by decide) (yG_9 rfl) rfl hin9 16 (by decide) mw_1350 rfl dX9_court_94 ?_
              refine lv_iconst (v := iI (4)) hE.1 hE.2.1 dX9_court_97 (by decide) ?_
              refine lv_dup2_11 hE.1 hE.2.1 dX9_court_98 rfl rfl ?_
              refine x_iald (j := iI (4)) hE hK hP 6 (by decide) (yG_10 rfl) (iI_in (n := 5) (by omega)) dX9_court_99 ?_
              refine x_top (y := iI (z25)) (by rw [show (iI (4)).toNatClampNeg = 4 from by decide]; exact ((congrFun (hqa29 6 (by decide)) 4).trans ez25)) ?_
              refine lv_iconst (v := iI (1)) hE.1 hE.2.1 dX9_court_100 (by decide) ?_
              refine lv_iadd hE.1 hE.2.1 dX9_court_101 ?_
              obtain ⟨z34, hz34, ez34⟩ := iI_of (iI (z25) + iI (1))
              refine x_top ez34 ?_
              refine x_iast (j := iI (4)) hE hK hN hP hS 6 (by decide) (fun _ => yG_10 rfl) (iI_in (n := 5) (by omega)) dX9_court_102 (fun ar35 H locs ha35 hP hS => ?_)
              obtain ⟨z36, hz36, ez36⟩ := YI_h0 hI 24 (by decide)
              have htr37 := YI_tr hI ((congrFun (hqa29 6 (by decide)) 4).trans ez25) (by omega) ez36 (by omega)
              have hI := YI_read6 hI ha35 ez36 (by omega)
              refine lv_goto (tgt := 13) hE.1 hE.2.1 dX9_court_103 (by decide) ?_
              obtain ⟨z38, hz38, ez38⟩ := iI_of (v29 0 8)
              exact ih4 _ (by omega)  (x29_1) (z38) (z30) v29 ar35 al29 _ _ _ rfl  (by omega) ex29_1 ez38 ez30 hI (fun i j h => ((hq29 i j (fun q => h (mem_sub (by decide) q))).trans (hfr4 i j h))) (fun i h => (((upx_ne ha35 i (fun q => h (by rw [q]; decide))).trans (hqa29 i (fun q => h (mem_subn (by decide) q)))).trans (hfa4 i h))) (fun i h => ((hql29 i (fun q => h (mem_subn (by decide) q))).trans (hfl4 i h))) hP hS (lv_sub hl [0] rfl)
            · skip
              refine lv_aload_n hE.1 hE.2.1 dX9_court_89 rfl (lv_at hl 0 rfl) ?_
              refine x_vv (nn := 0) (As := []) (rest := []) hE hK hN hP hS (s_X9_ends l D K ad v29 ar29 al29 hI (w_1) (by omega) ((hq29 0 6 (by decide)).trans ((hfr4 0 6 (by decide)).trans ((hq3 0 6 (by decide)).trans ((hq2 0 6 (by decide)).trans ((up_oth hv1 (by decide)).trans ew_1))))) (x29_1) (by omega) ex29_1  (by omega)) (x_recv hK hP 0 (by decide) (yG_9 rfl) rfl) rfl mw_1623 mw_1625 mw_66 mw_123 mw_1626 (by decide +kernel) ⟨by decide, by decide⟩ hl.1 rfl (Nat.le_of_ble_eq_true rfl) ⟨Nat.zero_le _, Nat.zero_le _⟩ dX9_court_90 (fun v39 ar39 al39 H locs hq39 hP hS => ?_)
              obtain ⟨hI, hq39, hqa39, hql39, x39_1, x39_2, x39_3, hx39, ex39_1, ex39_2, ex39_3⟩ := hq39
              have hI : YI v39 ar39 := hI
              refine lv_aload_n hE.1 hE.2.1 dX9_court_93 rfl (lv_at hl 0 rfl) ?_
              refine x_get (x := .ref (ad 6)) hE hK hP 0 (by decide) (yG_9 rfl) rfl hin9 16 (by decide) mw_1350 rfl dX9_court_94 ?_
              refine lv_iconst (v := iI (4)) hE.1 hE.2.1 dX9_court_97 (by decide) ?_
              refine lv_dup2_11 hE.1 hE.2.1 dX9_court_98 rfl rfl ?_
              refine x_iald (j := iI (4)) hE hK hP 6 (by decide) (yG_10 rfl) (iI_in (n := 5) (by omega)) dX9_court_99 ?_
              refine x_top (y := iI (z25)) (by rw [show (iI (4)).toNatClampNeg = 4 from by decide]; exact ((congrFun (hqa39 6 (by decide)) 4).trans ((congrFun (hqa29 6 (by decide)) 4).trans ez25))) ?_
              refine lv_iconst (v := iI (1)) hE.1 hE.2.1 dX9_court_100 (by decide) ?_
              refine lv_iadd hE.1 hE.2.1 dX9_court_101 ?_
              obtain ⟨z41, hz41, ez41⟩ := iI_of (iI (z25) + iI (1))
              refine x_top ez41 ?_
              refine x_iast (j := iI (4)) hE hK hN hP hS 6 (by decide) (fun _ => yG_10 rfl) (iI_in (n := 5) (by omega)) dX9_court_102 (fun ar42 H locs ha42 hP hS => ?_)
              obtain ⟨z43, hz43, ez43⟩ := YI_h0 hI 24 (by decide)
              have htr44 := YI_tr hI ((congrFun (hqa39 6 (by decide)) 4).trans ((congrFun (hqa29 6 (by decide)) 4).trans ez25)) (by omega) ez43 (by omega)
              have hI := YI_read6 hI ha42 ez43 (by omega)
              refine lv_goto (tgt := 13) hE.1 hE.2.1 dX9_court_103 (by decide) ?_
              exact ih4 _ (by omega)  (x39_1) (x39_2) (x39_3) v39 ar42 al39 _ _ _ rfl  (by omega) ex39_1 ex39_2 ex39_3 hI (fun i j h => (((hq39 i j (fun q => h (mem_sub (by decide) q))).trans (hq29 i j (fun q => h (mem_sub (by decide) q)))).trans (hfr4 i j h))) (fun i h => (((upx_ne ha42 i (fun q => h (by rw [q]; decide))).trans ((hqa39 i (fun q => h (mem_subn (by decide) q))).trans (hqa29 i (fun q => h (mem_subn (by decide) q))))).trans (hfa4 i h))) (fun i h => (((hql39 i (fun q => h (mem_subn (by decide) q))).trans (hql29 i (fun q => h (mem_subn (by decide) q)))).trans (hfl4 i h))) hP hS (lv_sub hl [0] rfl)
          · skip
            refine lv_aload_n hE.1 hE.2.1 dX9_court_36 rfl (lv_at hl 0 rfl) ?_
            refine lv_ldc2 (v := 1905383) hE.1 hE.2.1 hE.2.2.2.1 (hE.2.2.2.2 _ mw_1553) dX9_court_37 ?_
            refine x_topl (y := lI (1905383)) (by decide) ?_
            refine x_vv (nn := 1) (As := [.long (lI (1905383))]) (rest := []) hE hK hN hP hS (s_X9_asks l D K ad vl4 arl4 all4 hI (w_1) (by omega) ((hfr4 0 6 (by decide)).trans ((hq3 0 6 (by decide)).trans ((hq2 0 6 (by decide)).trans ((up_oth hv1 (by decide)).trans ew_1)))) (yf4_0) (by omega) eyf4_0 (1905383) (by omega) (by omega)) (x_recv hK hP 0 (by decide) (yG_9 rfl) rfl) rfl mw_1554 mw_1556 mw_53 mw_123 mw_1557 (by decide +kernel) ⟨by decide, by decide⟩ hl.1 rfl (Nat.le_of_ble_eq_true rfl) ⟨Nat.zero_le _, Nat.zero_le _⟩ dX9_court_40 (fun v45 ar45 al45 H locs hq45 hP hS => ?_)
            obtain ⟨hI, hq45, hqa45, hql45, x45_1, hx45, ex45_1⟩ := hq45
            have hI : YI v45 ar45 := hI
            refine lv_aload_n hE.1 hE.2.1 dX9_court_43 rfl (lv_at hl 0 rfl) ?_
            refine x_get (x := .ref (ad 7)) hE hK hP 0 (by decide) (yG_9 rfl) rfl hin9 17 (by decide) mw_1351 rfl dX9_court_44 ?_
            refine lv_bipush (v := iI (24)) hE.1 hE.2.1 dX9_court_47 (by decide) ?_
            refine lv_aload_n hE.1 hE.2.1 dX9_court_49 rfl (lv_at hl 0 rfl) ?_
            refine lv_ldc2 (v := 7826771953) hE.1 hE.2.1 hE.2.2.2.1 (hE.2.2.2.2 _ mw_1570) dX9_court_50 ?_
            refine x_topl (y := lI (7826771953)) (by decide) ?_
            refine lv_iconst (v := iI (1)) hE.1 hE.2.1 dX9_court_53 (by decide) ?_
            refine lv_iconst (v := iI (3)) hE.1 hE.2.1 dX9_court_54 (by decide) ?_
            refine x_vi (nn := 3) (As := [.long (lI (7826771953)), .int (iI (1)), .int (iI (3))]) (rest := [.int (iI (24)), .ref (ad 7)]) hE hK hN hP hS (s_X9_number_ l D K ad v45 ar45 al45 hI (w_1) (by omega) ((hq45 0 6 (by decide)).trans ((hfr4 0 6 (by decide)).trans ((hq3 0 6 (by decide)).trans ((hq2 0 6 (by decide)).trans ((up_oth hv1 (by decide)).trans ew_1))))) (x45_1) (by omega) ex45_1 (7826771953) (by omega) (1) (by omega) (3) (by omega) (by omega)) (x_recv hK hP 0 (by decide) (yG_9 rfl) rfl) rfl mw_1571 mw_1573 mw_57 mw_123 mw_1574 (by decide +kernel) ⟨by decide, by decide⟩ hl.1 rfl (Nat.le_of_ble_eq_true rfl) ⟨Nat.zero_le _, Nat.zero_le _⟩ dX9_court_55 (fun r46 v46 ar46 al46 H locs hq46 hP hS => ?_)
            obtain ⟨⟨z46, hz46, rfl⟩, hI, hq46, hqa46, hql46, x46_1, x46_2, x46_3, hx46, ex46_1, ex46_2, ex46_3⟩ := hq46
            have hI : YI v46 ar46 := hI
            refine x_iast (j := iI (24)) hE hK hN hP hS 7 (by decide) (fun _ => yG_10 rfl) (iI_in (n := 30) (by omega)) dX9_court_58 (fun ar47 H locs ha47 hP hS => ?_)
            have hI := YI_read7 (z := z46) (k := 24) hI ha47 (by decide) (by omega) (by unfold hasB; omega) (Or.inl ⟨rfl, by omega⟩)
            refine lv_aload_n hE.1 hE.2.1 dX9_court_59 rfl (lv_at hl 0 rfl) ?_
            refine x_get (x := .ref (ad 7)) hE hK hP 0 (by decide) (yG_9 rfl) rfl hin9 17 (by decide) mw_1351 rfl dX9_court_60 ?_
            refine lv_bipush (v := iI (25)) hE.1 hE.2.1 dX9_court_63 (by decide) ?_
            refine lv_aload_n hE.1 hE.2.1 dX9_court_65 rfl (lv_at hl 0 rfl) ?_
            refine lv_ldc2 (v := 277652441) hE.1 hE.2.1 hE.2.2.2.1 (hE.2.2.2.2 _ mw_1579) dX9_court_66 ?_
            refine x_topl (y := lI (277652441)) (by decide) ?_
            refine lv_iconst (v := iI (0)) hE.1 hE.2.1 dX9_court_69 (by decide) ?_
            refine lv_iconst (v := iI (3)) hE.1 hE.2.1 dX9_court_70 (by decide) ?_
            refine x_vi (nn := 3) (As := [.long (lI (277652441)), .int (iI (0)), .int (iI (3))]) (rest := [.int (iI (25)), .ref (ad 7)]) hE hK hN hP hS (s_X9_number_ l D K ad v46 ar47 al46 hI (w_1) (by omega) ((hq46 0 6 (by decide)).trans ((hq45 0 6 (by decide)).trans ((hfr4 0 6 (by decide)).trans ((hq3 0 6 (by decide)).trans ((hq2 0 6 (by decide)).trans ((up_oth hv1 (by decide)).trans ew_1)))))) (x46_1) (by omega) ex46_1 (277652441) (by omega) (0) (by omega) (3) (by omega) (by omega)) (x_recv hK hP 0 (by decide) (yG_9 rfl) rfl) rfl mw_1571 mw_1573 mw_57 mw_123 mw_1574 (by decide +kernel) ⟨by decide, by decide⟩ hl.1 rfl (Nat.le_of_ble_eq_true rfl) ⟨Nat.zero_le _, Nat.zero_le _⟩ dX9_court_71 (fun r48 v48 ar48 al48 H locs hq48 hP hS => ?_)
            obtain ⟨⟨z48, hz48, rfl⟩, hI, hq48, hqa48, hql48, x48_1, x48_2, x48_3, hx48, ex48_1, ex48_2, ex48_3⟩ := hq48
            have hI : YI v48 ar48 := hI
            refine x_iast (j := iI (25)) hE hK hN hP hS 7 (by decide) (fun _ => yG_10 rfl) (iI_in (n := 30) (by omega)) dX9_court_74 (fun ar49 H locs ha49 hP hS => ?_)
            have hI := YI_read7 (z := z48) (k := 25) hI ha49 (by decide) (by omega) (by unfold hasB; omega) (Or.inr ⟨by decide, fun q => absurd q (by decide)⟩)
            refine lv_goto (tgt := 82) hE.1 hE.2.1 dX9_court_75 (by decide) ?_
            refine lv_aload_n hE.1 hE.2.1 dX9_court_82 rfl (lv_at hl 0 rfl) ?_
            refine x_vp (nn := 0) (As := []) (rest := []) hE (s_X9_isGood l D K ad v48 ar49 al48 hI (x48_3) (by omega) ex48_3 ) wPre_blind (wPre_now hK hN hP) (x_recv hK hP 0 (by decide) (yG_9 rfl) rfl) rfl mw_1549 mw_1551 mw_52 mw_123 mw_1552 (by decide +kernel) ⟨by decide, by decide⟩ hl.1 rfl (Nat.le_of_ble_eq_true rfl) ⟨Nat.zero_le _, Nat.zero_le _⟩ dX9_court_83 (fun r50 hr50 => ?_)
            obtain ⟨z50, hz50, rfl⟩ := hr50
            refine s_if_eq (a := z50) (tgt := 93) hE.1 hE.2.1 (by omega) dX9_court_86 (by decide) (fun c51 => ?_) (fun c51 => ?_)
            · skip
              refine lv_aload_n hE.1 hE.2.1 dX9_court_93 rfl (lv_at hl 0 rfl) ?_
              refine x_get (x := .ref (ad 6)) hE hK hP 0 (by decide) (yG_9 rfl) rfl hin9 16 (by decide) mw_1350 rfl dX9_court_94 ?_
              refine lv_iconst (v := iI (4)) hE.1 hE.2.1 dX9_court_97 (by decide) ?_
              refine lv_dup2_11 hE.1 hE.2.1 dX9_court_98 rfl rfl ?_
              refine x_iald (j := iI (4)) hE hK hP 6 (by decide) (yG_10 rfl) (iI_in (n := 5) (by omega)) dX9_court_99 ?_
              refine x_top (y := iI (z25)) (by rw [show (iI (4)).toNatClampNeg = 4 from by decide]; exact ((congrFun (upa_ne ha49 6 (by decide)) 4).trans ((congrFun (hqa48 6 (by decide)) 4).trans ((congrFun (upa_ne ha47 6 (by decide)) 4).trans ((congrFun (hqa46 6 (by decide)) 4).trans ((congrFun (hqa45 6 (by decide)) 4).trans ez25)))))) ?_
              refine lv_iconst (v := iI (1)) hE.1 hE.2.1 dX9_court_100 (by decide) ?_
              refine lv_iadd hE.1 hE.2.1 dX9_court_101 ?_
              refine x_top (y := iI (z25 + 1)) ((iI_add (z25) (1)).trans (congrArg iI (by omega))) ?_
              refine x_iast (j := iI (4)) hE hK hN hP hS 6 (by decide) (fun _ => yG_10 rfl) (iI_in (n := 5) (by omega)) dX9_court_102 (fun ar53 H locs ha53 hP hS => ?_)
              have htr54 := YI_tr hI ((congrFun (upa_ne ha49 6 (by decide)) 4).trans ((congrFun (hqa48 6 (by decide)) 4).trans ((congrFun (upa_ne ha47 6 (by decide)) 4).trans ((congrFun (hqa46 6 (by decide)) 4).trans ((congrFun (hqa45 6 (by decide)) 4).trans ez25))))) (by omega) ((upa_idx ha49 (by decide)).trans ((congrFun (hqa48 7 (by decide)) 24).trans (upa_at ha47 (by decide)))) (by omega)
              have hI := YI_read6 hI ha53 ((upa_idx ha49 (by decide)).trans ((congrFun (hqa48 7 (by decide)) 24).trans (upa_at ha47 (by decide)))) (by omega)
              refine lv_goto (tgt := 13) hE.1 hE.2.1 dX9_court_103 (by decide) ?_
              exact ih4 _ (by omega)  (x48_1) (x48_2) (x48_3) v48 ar53 al48 _ _ _ rfl  (by omega) ex48_1 ex48_2 ex48_3 hI (fun i j h => (((hq48 i j (fun q => h (mem_sub (by decide) q))).trans ((hq46 i j (fun q => h (mem_sub (by decide) q))).trans (hq45 i j (fun q => h (mem_sub (by decide) q))))).trans (hfr4 i j h))) (fun i h => (((upx_ne ha53 i (fun q => h (by rw [q]; decide))).trans ((upx_ne ha49 i (fun q => h (by rw [q]; decide))).trans ((hqa48 i (fun q => h (mem_subn (by decide) q))).trans ((upx_ne ha47 i (fun q => h (by rw [q]; decide))).trans ((hqa46 i (fun q => h (mem_subn (by decide) q))).trans (hqa45 i (fun q => h (mem_subn (by decide) q)))))))).trans (hfa4 i h))) (fun i h => (((hql48 i (fun q => h (mem_subn (by decide) q))).trans ((hql46 i (fun q => h (mem_subn (by decide) q))).trans (hql45 i (fun q => h (mem_subn (by decide) q))))).trans (hfl4 i h))) hP hS (lv_sub hl [0] rfl)
            · skip
              refine lv_aload_n hE.1 hE.2.1 dX9_court_89 rfl (lv_at hl 0 rfl) ?_
              refine x_vv (nn := 0) (As := []) (rest := []) hE hK hN hP hS (s_X9_ends l D K ad v48 ar49 al48 hI (w_1) (by omega) ((hq48 0 6 (by decide)).trans ((hq46 0 6 (by decide)).trans ((hq45 0 6 (by decide)).trans ((hfr4 0 6 (by decide)).trans ((hq3 0 6 (by decide)).trans ((hq2 0 6 (by decide)).trans ((up_oth hv1 (by decide)).trans ew_1))))))) (x48_1) (by omega) ex48_1  (by omega)) (x_recv hK hP 0 (by decide) (yG_9 rfl) rfl) rfl mw_1623 mw_1625 mw_66 mw_123 mw_1626 (by decide +kernel) ⟨by decide, by decide⟩ hl.1 rfl (Nat.le_of_ble_eq_true rfl) ⟨Nat.zero_le _, Nat.zero_le _⟩ dX9_court_90 (fun v55 ar55 al55 H locs hq55 hP hS => ?_)
              obtain ⟨hI, hq55, hqa55, hql55, x55_1, x55_2, x55_3, hx55, ex55_1, ex55_2, ex55_3⟩ := hq55
              have hI : YI v55 ar55 := hI
              refine lv_aload_n hE.1 hE.2.1 dX9_court_93 rfl (lv_at hl 0 rfl) ?_
              refine x_get (x := .ref (ad 6)) hE hK hP 0 (by decide) (yG_9 rfl) rfl hin9 16 (by decide) mw_1350 rfl dX9_court_94 ?_
              refine lv_iconst (v := iI (4)) hE.1 hE.2.1 dX9_court_97 (by decide) ?_
              refine lv_dup2_11 hE.1 hE.2.1 dX9_court_98 rfl rfl ?_
              refine x_iald (j := iI (4)) hE hK hP 6 (by decide) (yG_10 rfl) (iI_in (n := 5) (by omega)) dX9_court_99 ?_
              refine x_top (y := iI (z25)) (by rw [show (iI (4)).toNatClampNeg = 4 from by decide]; exact ((congrFun (hqa55 6 (by decide)) 4).trans ((congrFun (upa_ne ha49 6 (by decide)) 4).trans ((congrFun (hqa48 6 (by decide)) 4).trans ((congrFun (upa_ne ha47 6 (by decide)) 4).trans ((congrFun (hqa46 6 (by decide)) 4).trans ((congrFun (hqa45 6 (by decide)) 4).trans ez25))))))) ?_
              refine lv_iconst (v := iI (1)) hE.1 hE.2.1 dX9_court_100 (by decide) ?_
              refine lv_iadd hE.1 hE.2.1 dX9_court_101 ?_
              refine x_top (y := iI (z25 + 1)) ((iI_add (z25) (1)).trans (congrArg iI (by omega))) ?_
              refine x_iast (j := iI (4)) hE hK hN hP hS 6 (by decide) (fun _ => yG_10 rfl) (iI_in (n := 5) (by omega)) dX9_court_102 (fun ar57 H locs ha57 hP hS => ?_)
              have htr58 := YI_tr hI ((congrFun (hqa55 6 (by decide)) 4).trans ((congrFun (upa_ne ha49 6 (by decide)) 4).trans ((congrFun (hqa48 6 (by decide)) 4).trans ((congrFun (upa_ne ha47 6 (by decide)) 4).trans ((congrFun (hqa46 6 (by decide)) 4).trans ((congrFun (hqa45 6 (by decide)) 4).trans ez25)))))) (by omega) ((congrFun (hqa55 7 (by decide)) 24).trans ((upa_idx ha49 (by decide)).trans ((congrFun (hqa48 7 (by decide)) 24).trans (upa_at ha47 (by decide))))) (by omega)
              have hI := YI_read6 hI ha57 ((congrFun (hqa55 7 (by decide)) 24).trans ((upa_idx ha49 (by decide)).trans ((congrFun (hqa48 7 (by decide)) 24).trans (upa_at ha47 (by decide))))) (by omega)
              refine lv_goto (tgt := 13) hE.1 hE.2.1 dX9_court_103 (by decide) ?_
              exact ih4 _ (by omega)  (x55_1) (x55_2) (x55_3) v55 ar57 al55 _ _ _ rfl  (by omega) ex55_1 ex55_2 ex55_3 hI (fun i j h => (((hq55 i j (fun q => h (mem_sub (by decide) q))).trans ((hq48 i j (fun q => h (mem_sub (by decide) q))).trans ((hq46 i j (fun q => h (mem_sub (by decide) q))).trans (hq45 i j (fun q => h (mem_sub (by decide) q)))))).trans (hfr4 i j h))) (fun i h => (((upx_ne ha57 i (fun q => h (by rw [q]; decide))).trans ((hqa55 i (fun q => h (mem_subn (by decide) q))).trans ((upx_ne ha49 i (fun q => h (by rw [q]; decide))).trans ((hqa48 i (fun q => h (mem_subn (by decide) q))).trans ((upx_ne ha47 i (fun q => h (by rw [q]; decide))).trans ((hqa46 i (fun q => h (mem_subn (by decide) q))).trans (hqa45 i (fun q => h (mem_subn (by decide) q))))))))).trans (hfa4 i h))) (fun i h => (((hql55 i (fun q => h (mem_subn (by decide) q))).trans ((hql48 i (fun q => h (mem_subn (by decide) q))).trans ((hql46 i (fun q => h (mem_subn (by decide) q))).trans (hql45 i (fun q => h (mem_subn (by decide) q)))))).trans (hfl4 i h))) hP hS (lv_sub hl [0] rfl)
  exact loop4 _  (x3_1) (z5) (z6) v3 ar3 al3 _ _ _ rfl  (by omega) ex3_1 ez5 ez6 hI (fun _ _ _ => rfl) (fun _ _ => rfl) (fun _ _ => rfl) hP hS hl
