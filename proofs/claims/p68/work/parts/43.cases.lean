theorem dL_754 : decode code 754 = .ok (.aload_n 1, 1) := by decide +kernel
theorem dL_755 : decode code 755 = .ok (.invokevirtual 89, 3) := by decide +kernel
theorem dL_758 : decode code 758 = .ok (.pop, 1) := by decide +kernel
theorem dL_759 : decode code 759 = .ok (.aload_n 2, 1) := by decide +kernel
theorem dL_760 : decode code 760 = .ok (.invokevirtual 92, 3) := by decide +kernel
theorem dL_763 : decode code 763 = .ok (.pop, 1) := by decide +kernel
theorem dL_764 : decode code 764 = .ok (.goto 1190, 3) := by decide +kernel
set_option maxHeartbeats 4000000 in
set_option maxRecDepth 100000 in
theorem lc_18 {p : Program} {l : Launch} {e : Env} {s : State} {m : MethodId} {below : List Frame} {meth : Method} {c : Code} {b L : Nat} {xs : Nat → Int32} {D : va_G} {K : Nat → ClassId} {ay ax : Nat → Nat} {mm : Option Nat} {N cells slots : Nat} {v ar : sI} {al : sL} {v' ar' : sI} {al' : sL} {H : Heap} {locs : List Loc} {ls : Array Slot} {tk tv : Nat → Nat} {i : Int} (hi : 0 ≤ i ∧ i + 6 ≤ (L : Int) ∧ L ≤ 3072) (F : lawF p s m meth c b L xs D K tk tv) (C : lawI s D K ay ax mm N cells slots v ar al v' ar' al' H locs) (hl : lv_has ls 4 [(3, .int (iI i)), (2, .ref (ay 0)), (1, .ref (ax 0)), (0, .ref b)]) (kk : lawK p l e s m below meth c b D K ay i) : W p l e room_1 s m #[Value.ref b] below meth c H locs cells slots (lw_Z below #[Value.ref b] s) (F0 m 754 ls []) := by
  obtain ⟨C0, hE, hK, hT, hTR⟩ := F
  obtain ⟨hx, hb, hr, hml, hown, hts, hX, hbl, hlocks, hgv⟩ := id C0
  have hbA : ¬ lawA s b := Nat.not_le.mpr hbl
  obtain ⟨hNX, hNY, hAX, hAY, hdis, hPX, hPY, hS, hXI, hYI, hmd, hR⟩ := C
  have hcc := lawM_c hmd
  have hNN := lawM_N hmd
  have cont : ∀ (ax : Nat → Nat) (mm : Option Nat) (N cells slots : Nat) (v ar : sI) (al : sL) (H : Heap) (locs : List Loc) (ls : Array Slot) (r : Int32), apart ax N → (∀ i, i < N → lawA s (ax i)) → (∀ i j, i < N → j < 21 → ax i ≠ ay j) → va_P D xcl (wW ax (xG ax K mm) N v ar al) H → va_P D xcl (wW ay (yG ay K) 21 v' ar' al') H → va_S (lawA s) s.heap H locs → XI v → lawM ax mm N cells slots → lawR v ar al v' ar' al' → lv_has ls 4 [(3, .int (iI i)), (2, .ref (ay 0)), (1, .ref (ax 0)), (0, .ref b)] → W p l e room_1 s m #[Value.ref b] below meth c H locs cells slots (lw_Z below #[Value.ref b] s) (F0 m 758 ls [.int r]) := by
    intro ax mm N cells slots v ar al H locs ls r hNX hAX hdis hPX hPY hS hXI hmd hR hl
    have hcc := lawM_c hmd
    refine lv_pop hx hb dL_758 rfl ?_
    refine lv_aload_n hx hb dL_759 rfl (lv_at hl 1 rfl) ?_
    refine l_viG (nn := 0) (As := []) (rest := []) hE hS hAY (s_X9_may l D K ay v' ar' al' hYI  ) wPre_blind (wPre_now hK hNY hPY) (x_recv hK hPY 0 (by decide) (yG_9 rfl) rfl) rfl mw_1746 mw_1747 mw_1748 mw_123 mw_1749 (by decide +kernel) ⟨Nat.le_of_ble_eq_true rfl, Nat.le_of_ble_eq_true rfl⟩ hl.1 rfl (Nat.le_of_ble_eq_true rfl) hcc dL_760 (fun r2 v2 ar2 al2 H2 locs2 hp2 hPY2 hk2 hS2 => ?_)
    have hYI2 : YI v2 ar2 := hp2.2.1
    have hPX2 := w_keep hPX (fun i j hi hj e => hdis j i hj hi e.symm) hk2
    refine lv_pop hx hb dL_763 rfl ?_
    refine lv_goto (tgt := 1954) hx hb dL_764 (by decide) ?_
    exact kk ax mm N cells slots v ar al v2 ar2 al2 H2 locs2 ls ⟨hNX, hNY, hAX, hAY, hdis, hPX2, hPY2, hS2, hXI, hYI2, hmd, R_y hR (hp2.2.2.2.1 1 (by decide)) (hp2.2.2.2.1 2 (by decide)) (hp2.2.2.2.1 11 (by decide))⟩ hl
  refine lv_aload_n hx hb dL_754 rfl (lv_at hl 2 rfl) ?_
  refine x_vp (nn := 0) (As := []) (rest := []) hE (s_X8_may_0 l D K ax mm N hNN v ar al hXI  ) wPre_blind (wPre_now hK hNX hPX) (x_recv hK hPX 0 (by omega) (xG_8 rfl) rfl) rfl mw_837 mw_838 mw_839 mw_114 mw_840 (by decide +kernel) ⟨Nat.le_of_ble_eq_true rfl, Nat.le_of_ble_eq_true rfl⟩ hl.1 rfl (Nat.le_of_ble_eq_true rfl) hcc dL_755 (fun r1 hr1 => ?_)
  exact cont ax mm N cells slots v ar al H locs ls r1 hNX hAX hdis hPX hPY hS hXI hmd hR hl
theorem dL_767 : decode code 767 = .ok (.aload_n 1, 1) := by decide +kernel
theorem dL_768 : decode code 768 = .ok (.aload_n 0, 1) := by decide +kernel
theorem dL_769 : decode code 769 = .ok (.iload_n 3, 1) := by decide +kernel
theorem dL_770 : decode code 770 = .ok (.iconst 1, 1) := by decide +kernel
theorem dL_771 : decode code 771 = .ok (.iadd, 1) := by decide +kernel
theorem dL_772 : decode code 772 = .ok (.iaload, 1) := by decide +kernel
theorem dL_773 : decode code 773 = .ok (.invokevirtual 93, 3) := by decide +kernel
theorem dL_776 : decode code 776 = .ok (.pop, 1) := by decide +kernel
theorem dL_777 : decode code 777 = .ok (.aload_n 2, 1) := by decide +kernel
theorem dL_778 : decode code 778 = .ok (.aload_n 0, 1) := by decide +kernel
theorem dL_779 : decode code 779 = .ok (.iload_n 3, 1) := by decide +kernel
theorem dL_780 : decode code 780 = .ok (.iconst 1, 1) := by decide +kernel
theorem dL_781 : decode code 781 = .ok (.iadd, 1) := by decide +kernel
theorem dL_782 : decode code 782 = .ok (.iaload, 1) := by decide +kernel
theorem dL_783 : decode code 783 = .ok (.invokevirtual 96, 3) := by decide +kernel
theorem dL_786 : decode code 786 = .ok (.pop, 1) := by decide +kernel
theorem dL_787 : decode code 787 = .ok (.goto 1167, 3) := by decide +kernel
set_option maxHeartbeats 4000000 in
set_option maxRecDepth 100000 in
theorem lc_19 {p : Program} {l : Launch} {e : Env} {s : State} {m : MethodId} {below : List Frame} {meth : Method} {c : Code} {b L : Nat} {xs : Nat → Int32} {D : va_G} {K : Nat → ClassId} {ay ax : Nat → Nat} {mm : Option Nat} {N cells slots : Nat} {v ar : sI} {al : sL} {v' ar' : sI} {al' : sL} {H : Heap} {locs : List Loc} {ls : Array Slot} {tk tv : Nat → Nat} {i : Int} (hi : 0 ≤ i ∧ i + 6 ≤ (L : Int) ∧ L ≤ 3072) (F : lawF p s m meth c b L xs D K tk tv) (C : lawI s D K ay ax mm N cells slots v ar al v' ar' al' H locs) (hl : lv_has ls 4 [(3, .int (iI i)), (2, .ref (ay 0)), (1, .ref (ax 0)), (0, .ref b)]) (kk : lawK p l e s m below meth c b D K ay i) : W p l e room_1 s m #[Value.ref b] below meth c H locs cells slots (lw_Z below #[Value.ref b] s) (F0 m 767 ls []) := by
  obtain ⟨C0, hE, hK, hT, hTR⟩ := F
  obtain ⟨hx, hb, hr, hml, hown, hts, hX, hbl, hlocks, hgv⟩ := id C0
  have hbA : ¬ lawA s b := Nat.not_le.mpr hbl
  obtain ⟨hNX, hNY, hAX, hAY, hdis, hPX, hPY, hS, hXI, hYI, hmd, hR⟩ := C
  have hcc := lawM_c hmd
  have hNN := lawM_N hmd
  obtain ⟨z1, hz1, ez1⟩ := iI_of (xs (iI (i + 1)).toNatClampNeg)
  have cont : ∀ (ax : Nat → Nat) (mm : Option Nat) (N cells slots : Nat) (v ar : sI) (al : sL) (H : Heap) (locs : List Loc) (ls : Array Slot) (r : Int32), apart ax N → (∀ i, i < N → lawA s (ax i)) → (∀ i j, i < N → j < 21 → ax i ≠ ay j) → va_P D xcl (wW ax (xG ax K mm) N v ar al) H → va_P D xcl (wW ay (yG ay K) 21 v' ar' al') H → va_S (lawA s) s.heap H locs → XI v → lawM ax mm N cells slots → lawR v ar al v' ar' al' → lv_has ls 4 [(3, .int (iI i)), (2, .ref (ay 0)), (1, .ref (ax 0)), (0, .ref b)] → W p l e room_1 s m #[Value.ref b] below meth c H locs cells slots (lw_Z below #[Value.ref b] s) (F0 m 776 ls [.int r]) := by
    intro ax mm N cells slots v ar al H locs ls r hNX hAX hdis hPX hPY hS hXI hmd hR hl
    have hcc := lawM_c hmd
    refine lv_pop hx hb dL_776 rfl ?_
    refine lv_aload_n hx hb dL_777 rfl (lv_at hl 1 rfl) ?_
    refine lv_aload_n hx hb dL_778 rfl (lv_at hl 3 rfl) ?_
    refine lv_iload_n hx hb dL_779 rfl (lv_at hl 0 rfl) ?_
    refine lv_iconst (v := iI (1)) hx hb dL_780 (by decide) ?_
    refine lv_iadd hx hb dL_781 ?_
    refine x_top (y := iI (i + 1)) (iI_add _ _) ?_
    refine va_sld (i := iI (i + 1)) hx hb hX hbl hbA hS (iI_in (n := L) (by omega)) dL_782 ?_
    refine x_top ez1 ?_
    refine l_viG (nn := 1) (As := [.int (iI (z1))]) (rest := []) hE hS hAY (s_X9_why l D K ay v' ar' al' hYI  (z1) (by omega)) wPre_blind (wPre_now hK hNY hPY) (x_recv hK hPY 0 (by decide) (yG_9 rfl) rfl) rfl mw_1754 mw_1755 mw_1756 mw_123 mw_1757 (by decide +kernel) ⟨Nat.le_of_ble_eq_true rfl, Nat.le_of_ble_eq_true rfl⟩ hl.1 rfl (Nat.le_of_ble_eq_true rfl) hcc dL_783 (fun r2 v2 ar2 al2 H2 locs2 hp2 hPY2 hk2 hS2 => ?_)
    have hYI2 : YI v2 ar2 := hp2.2.1
    have hPX2 := w_keep hPX (fun i j hi hj e => hdis j i hj hi e.symm) hk2
    refine lv_pop hx hb dL_786 rfl ?_
    refine lv_goto (tgt := 1954) hx hb dL_787 (by decide) ?_
    exact kk ax mm N cells slots v ar al v2 ar2 al2 H2 locs2 ls ⟨hNX, hNY, hAX, hAY, hdis, hPX2, hPY2, hS2, hXI, hYI2, hmd, R_y hR (hp2.2.2.2.1 1 (by decide)) (hp2.2.2.2.1 2 (by decide)) (hp2.2.2.2.1 11 (by decide))⟩ hl
  refine lv_aload_n hx hb dL_767 rfl (lv_at hl 2 rfl) ?_
  refine lv_aload_n hx hb dL_768 rfl (lv_at hl 3 rfl) ?_
  refine lv_iload_n hx hb dL_769 rfl (lv_at hl 0 rfl) ?_
  refine lv_iconst (v := iI (1)) hx hb dL_770 (by decide) ?_
  refine lv_iadd hx hb dL_771 ?_
  refine x_top (y := iI (i + 1)) (iI_add _ _) ?_
  refine va_sld (i := iI (i + 1)) hx hb hX hbl hbA hS (iI_in (n := L) (by omega)) dL_772 ?_
  refine x_top ez1 ?_
  refine x_vp (nn := 1) (As := [.int (iI (z1))]) (rest := []) hE (s_X8_why_0 l D K ax mm N hNN v ar al hXI  (z1) (by omega)) wPre_blind (wPre_now hK hNX hPX) (x_recv hK hPX 0 (by omega) (xG_8 rfl) rfl) rfl mw_855 mw_856 mw_857 mw_114 mw_858 (by decide +kernel) ⟨Nat.le_of_ble_eq_true rfl, Nat.le_of_ble_eq_true rfl⟩ hl.1 rfl (Nat.le_of_ble_eq_true rfl) hcc dL_773 (fun r1 hr1 => ?_)
  exact cont ax mm N cells slots v ar al H locs ls r1 hNX hAX hdis hPX hPY hS hXI hmd hR hl
theorem dL_790 : decode code 790 = .ok (.aload_n 1, 1) := by decide +kernel
theorem dL_791 : decode code 791 = .ok (.invokevirtual 97, 3) := by decide +kernel
theorem dL_794 : decode code 794 = .ok (.pop, 1) := by decide +kernel
theorem dL_795 : decode code 795 = .ok (.aload_n 2, 1) := by decide +kernel
theorem dL_796 : decode code 796 = .ok (.invokevirtual 100, 3) := by decide +kernel
theorem dL_799 : decode code 799 = .ok (.pop, 1) := by decide +kernel
theorem dL_800 : decode code 800 = .ok (.goto 1154, 3) := by decide +kernel
set_option maxHeartbeats 4000000 in
set_option maxRecDepth 100000 in
theorem lc_20 {p : Program} {l : Launch} {e : Env} {s : State} {m : MethodId} {below : List Frame} {meth : Method} {c : Code} {b L : Nat} {xs : Nat → Int32} {D : va_G} {K : Nat → ClassId} {ay ax : Nat → Nat} {mm : Option Nat} {N cells slots : Nat} {v ar : sI} {al : sL} {v' ar' : sI} {al' : sL} {H : Heap} {locs : List Loc} {ls : Array Slot} {tk tv : Nat → Nat} {i : Int} (hi : 0 ≤ i ∧ i + 6 ≤ (L : Int) ∧ L ≤ 3072) (F : lawF p s m meth c b L xs D K tk tv) (C : lawI s D K ay ax mm N cells slots v ar al v' ar' al' H locs) (hl : lv_has ls 4 [(3, .int (iI i)), (2, .ref (ay 0)), (1, .ref (ax 0)), (0, .ref b)]) (kk : lawK p l e s m below meth c b D K ay i) : W p l e room_1 s m #[Value.ref b] below meth c H locs cells slots (lw_Z below #[Value.ref b] s) (F0 m 790 ls []) := by
  obtain ⟨C0, hE, hK, hT, hTR⟩ := F
  obtain ⟨hx, hb, hr, hml, hown, hts, hX, hbl, hlocks, hgv⟩ := id C0
  have hbA : ¬ lawA s b := Nat.not_le.mpr hbl
  obtain ⟨hNX, hNY, hAX, hAY, hdis, hPX, hPY, hS, hXI, hYI, hmd, hR⟩ := C
  have hcc := lawM_c hmd
  have hNN := lawM_N hmd
  have cont : ∀ (ax : Nat → Nat) (mm : Option Nat) (N cells slots : Nat) (v ar : sI) (al : sL) (H : Heap) (locs : List Loc) (ls : Array Slot) (r : Int32), apart ax N → (∀ i, i < N → lawA s (ax i)) → (∀ i j, i < N → j < 21 → ax i ≠ ay j) → va_P D xcl (wW ax (xG ax K mm) N v ar al) H → va_P D xcl (wW ay (yG ay K) 21 v' ar' al') H → va_S (lawA s) s.heap H locs → XI v → lawM ax mm N cells slots → lawR v ar al v' ar' al' → lv_has ls 4 [(3, .int (iI i)), (2, .ref (ay 0)), (1, .ref (ax 0)), (0, .ref b)] → W p l e room_1 s m #[Value.ref b] below meth c H locs cells slots (lw_Z below #[Value.ref b] s) (F0 m 794 ls [.int r]) := by
    intro ax mm N cells slots v ar al H locs ls r hNX hAX hdis hPX hPY hS hXI hmd hR hl
    have hcc := lawM_c hmd
    refine lv_pop hx hb dL_794 rfl ?_
    refine lv_aload_n hx hb dL_795 rfl (lv_at hl 1 rfl) ?_
    refine l_viG (nn := 0) (As := []) (rest := []) hE hS hAY (s_X9_owed l D K ay v' ar' al' hYI  ) wPre_blind (wPre_now hK hNY hPY) (x_recv hK hPY 0 (by decide) (yG_9 rfl) rfl) rfl mw_1758 mw_1759 mw_1760 mw_123 mw_1761 (by decide +kernel) ⟨Nat.le_of_ble_eq_true rfl, Nat.le_of_ble_eq_true rfl⟩ hl.1 rfl (Nat.le_of_ble_eq_true rfl) hcc dL_796 (fun r2 v2 ar2 al2 H2 locs2 hp2 hPY2 hk2 hS2 => ?_)
    have hYI2 : YI v2 ar2 := hp2.2.1
    have hPX2 := w_keep hPX (fun i j hi hj e => hdis j i hj hi e.symm) hk2
    refine lv_pop hx hb dL_799 rfl ?_
    refine lv_goto (tgt := 1954) hx hb dL_800 (by decide) ?_
    exact kk ax mm N cells slots v ar al v2 ar2 al2 H2 locs2 ls ⟨hNX, hNY, hAX, hAY, hdis, hPX2, hPY2, hS2, hXI, hYI2, hmd, R_y hR (hp2.2.2.2.1 1 (by decide)) (hp2.2.2.2.1 2 (by decide)) (hp2.2.2.2.1 11 (by decide))⟩ hl
  refine lv_aload_n hx hb dL_790 rfl (lv_at hl 2 rfl) ?_
  refine x_vp (nn := 0) (As := []) (rest := []) hE (s_X8_owed_0 l D K ax mm N hNN v ar al hXI  ) wPre_blind (wPre_now hK hNX hPX) (x_recv hK hPX 0 (by omega) (xG_8 rfl) rfl) rfl mw_859 mw_860 mw_861 mw_114 mw_862 (by decide +kernel) ⟨Nat.le_of_ble_eq_true rfl, Nat.le_of_ble_eq_true rfl⟩ hl.1 rfl (Nat.le_of_ble_eq_true rfl) hcc dL_791 (fun r1 hr1 => ?_)
  exact cont ax mm N cells slots v ar al H locs ls r1 hNX hAX hdis hPX hPY hS hXI hmd hR hl
theorem dL_803 : decode code 803 = .ok (.aload_n 1, 1) := by decide +kernel
theorem dL_804 : decode code 804 = .ok (.aload_n 0, 1) := by decide +kernel
theorem dL_805 : decode code 805 = .ok (.iload_n 3, 1) := by decide +kernel
theorem dL_806 : decode code 806 = .ok (.iconst 1, 1) := by decide +kernel
theorem dL_807 : decode code 807 = .ok (.iadd, 1) := by decide +kernel
theorem dL_808 : decode code 808 = .ok (.iaload, 1) := by decide +kernel
theorem dL_809 : decode code 809 = .ok (.invokevirtual 101, 3) := by decide +kernel
theorem dL_812 : decode code 812 = .ok (.pop, 1) := by decide +kernel
theorem dL_813 : decode code 813 = .ok (.aload_n 2, 1) := by decide +kernel
theorem dL_814 : decode code 814 = .ok (.aload_n 0, 1) := by decide +kernel
theorem dL_815 : decode code 815 = .ok (.iload_n 3, 1) := by decide +kernel
theorem dL_816 : decode code 816 = .ok (.iconst 1, 1) := by decide +kernel
theorem dL_817 : decode code 817 = .ok (.iadd, 1) := by decide +kernel
theorem dL_818 : decode code 818 = .ok (.iaload, 1) := by decide +kernel
theorem dL_819 : decode code 819 = .ok (.invokevirtual 104, 3) := by decide +kernel
theorem dL_822 : decode code 822 = .ok (.pop, 1) := by decide +kernel
theorem dL_823 : decode code 823 = .ok (.goto 1131, 3) := by decide +kernel
set_option maxHeartbeats 4000000 in
set_option maxRecDepth 100000 in
theorem lc_21 {p : Program} {l : Launch} {e : Env} {s : State} {m : MethodId} {below : List Frame} {meth : Method} {c : Code} {b L : Nat} {xs : Nat → Int32} {D : va_G} {K : Nat → ClassId} {ay ax : Nat → Nat} {mm : Option Nat} {N cells slots : Nat} {v ar : sI} {al : sL} {v' ar' : sI} {al' : sL} {H : Heap} {locs : List Loc} {ls : Array Slot} {tk tv : Nat → Nat} {i : Int} (hi : 0 ≤ i ∧ i + 6 ≤ (L : Int) ∧ L ≤ 3072) (F : lawF p s m meth c b L xs D K tk tv) (C : lawI s D K ay ax mm N cells slots v ar al v' ar' al' H locs) (hl : lv_has ls 4 [(3, .int (iI i)), (2, .ref (ay 0)), (1, .ref (ax 0)), (0, .ref b)]) (kk : lawK p l e s m below meth c b D K ay i) : W p l e room_1 s m #[Value.ref b] below meth c H locs cells slots (lw_Z below #[Value.ref b] s) (F0 m 803 ls []) := by
  obtain ⟨C0, hE, hK, hT, hTR⟩ := F
  obtain ⟨hx, hb, hr, hml, hown, hts, hX, hbl, hlocks, hgv⟩ := id C0
  have hbA : ¬ lawA s b := Nat.not_le.mpr hbl
  obtain ⟨hNX, hNY, hAX, hAY, hdis, hPX, hPY, hS, hXI, hYI, hmd, hR⟩ := C
  have hcc := lawM_c hmd
  have hNN := lawM_N hmd
  obtain ⟨z1, hz1, ez1⟩ := iI_of (xs (iI (i + 1)).toNatClampNeg)
  have cont : ∀ (ax : Nat → Nat) (mm : Option Nat) (N cells slots : Nat) (v ar : sI) (al : sL) (H : Heap) (locs : List Loc) (ls : Array Slot) (r : Int32), apart ax N → (∀ i, i < N → lawA s (ax i)) → (∀ i j, i < N → j < 21 → ax i ≠ ay j) → va_P D xcl (wW ax (xG ax K mm) N v ar al) H → va_P D xcl (wW ay (yG ay K) 21 v' ar' al') H → va_S (lawA s) s.heap H locs → XI v → lawM ax mm N cells slots → lawR v ar al v' ar' al' → lv_has ls 4 [(3, .int (iI i)), (2, .ref (ay 0)), (1, .ref (ax 0)), (0, .ref b)] → W p l e room_1 s m #[Value.ref b] below meth c H locs cells slots (lw_Z below #[Value.ref b] s) (F0 m 812 ls [.int r]) := by
    intro ax mm N cells slots v ar al H locs ls r hNX hAX hdis hPX hPY hS hXI hmd hR hl
    have hcc := lawM_c hmd
    refine lv_pop hx hb dL_812 rfl ?_
    refine lv_aload_n hx hb dL_813 rfl (lv_at hl 1 rfl) ?_
    refine lv_aload_n hx hb dL_814 rfl (lv_at hl 3 rfl) ?_
    refine lv_iload_n hx hb dL_815 rfl (lv_at hl 0 rfl) ?_
    refine lv_iconst (v := iI (1)) hx hb dL_816 (by decide) ?_
    refine lv_iadd hx hb dL_817 ?_
    refine x_top (y := iI (i + 1)) (iI_add _ _) ?_
    refine va_sld (i := iI (i + 1)) hx hb hX hbl hbA hS (iI_in (n := L) (by omega)) dL_818 ?_
    refine x_top ez1 ?_
    refine l_viG (nn := 1) (As := [.int (iI (z1))]) (rest := []) hE hS hAY (s_X9_due l D K ay v' ar' al' hYI  (z1) (by omega)) wPre_blind (wPre_now hK hNY hPY) (x_recv hK hPY 0 (by decide) (yG_9 rfl) rfl) rfl mw_1766 mw_1767 mw_1768 mw_123 mw_1769 (by decide +kernel) ⟨Nat.le_of_ble_eq_true rfl, Nat.le_of_ble_eq_true rfl⟩ hl.1 rfl (Nat.le_of_ble_eq_true rfl) hcc dL_819 (fun r2 v2 ar2 al2 H2 locs2 hp2 hPY2 hk2 hS2 => ?_)
    have hYI2 : YI v2 ar2 := hp2.2.1
    have hPX2 := w_keep hPX (fun i j hi hj e => hdis j i hj hi e.symm) hk2
    refine lv_pop hx hb dL_822 rfl ?_
    refine lv_goto (tgt := 1954) hx hb dL_823 (by decide) ?_
    exact kk ax mm N cells slots v ar al v2 ar2 al2 H2 locs2 ls ⟨hNX, hNY, hAX, hAY, hdis, hPX2, hPY2, hS2, hXI, hYI2, hmd, R_y hR (hp2.2.2.2.1 1 (by decide)) (hp2.2.2.2.1 2 (by decide)) (hp2.2.2.2.1 11 (by decide))⟩ hl
  refine lv_aload_n hx hb dL_803 rfl (lv_at hl 2 rfl) ?_
  refine lv_aload_n hx hb dL_804 rfl (lv_at hl 3 rfl) ?_
  refine lv_iload_n hx hb dL_805 rfl (lv_at hl 0 rfl) ?_
  refine lv_iconst (v := iI (1)) hx hb dL_806 (by decide) ?_
  refine lv_iadd hx hb dL_807 ?_
  refine x_top (y := iI (i + 1)) (iI_add _ _) ?_
  refine va_sld (i := iI (i + 1)) hx hb hX hbl hbA hS (iI_in (n := L) (by omega)) dL_808 ?_
  refine x_top ez1 ?_
  refine x_vp (nn := 1) (As := [.int (iI (z1))]) (rest := []) hE (s_X8_due_0 l D K ax mm N hNN v ar al hXI  (z1) (by omega)) wPre_blind (wPre_now hK hNX hPX) (x_recv hK hPX 0 (by omega) (xG_8 rfl) rfl) rfl mw_864 mw_865 mw_866 mw_114 mw_867 (by decide +kernel) ⟨Nat.le_of_ble_eq_true rfl, Nat.le_of_ble_eq_true rfl⟩ hl.1 rfl (Nat.le_of_ble_eq_true rfl) hcc dL_809 (fun r1 hr1 => ?_)
  exact cont ax mm N cells slots v ar al H locs ls r1 hNX hAX hdis hPX hPY hS hXI hmd hR hl
theorem dL_826 : decode code 826 = .ok (.aload_n 1, 1) := by decide +kernel
theorem dL_827 : decode code 827 = .ok (.invokevirtual 105, 3) := by decide +kernel
theorem dL_830 : decode code 830 = .ok (.pop, 1) := by decide +kernel
theorem dL_831 : decode code 831 = .ok (.aload_n 2, 1) := by decide +kernel
theorem dL_832 : decode code 832 = .ok (.invokevirtual 108, 3) := by decide +kernel
theorem dL_835 : decode code 835 = .ok (.pop, 1) := by decide +kernel
theorem dL_836 : decode code 836 = .ok (.goto 1118, 3) := by decide +kernel
set_option maxHeartbeats 4000000 in
set_option maxRecDepth 100000 in
theorem lc_22 {p : Program} {l : Launch} {e : Env} {s : State} {m : MethodId} {below : List Frame} {meth : Method} {c : Code} {b L : Nat} {xs : Nat → Int32} {D : va_G} {K : Nat → ClassId} {ay ax : Nat → Nat} {mm : Option Nat} {N cells slots : Nat} {v ar : sI} {al : sL} {v' ar' : sI} {al' : sL} {H : Heap} {locs : List Loc} {ls : Array Slot} {tk tv : Nat → Nat} {i : Int} (hi : 0 ≤ i ∧ i + 6 ≤ (L : Int) ∧ L ≤ 3072) (F : lawF p s m meth c b L xs D K tk tv) (C : lawI s D K ay ax mm N cells slots v ar al v' ar' al' H locs) (hl : lv_has ls 4 [(3, .int (iI i)), (2, .ref (ay 0)), (1, .ref (ax 0)), (0, .ref b)]) (kk : lawK p l e s m below meth c b D K ay i) : W p l e room_1 s m #[Value.ref b] below meth c H locs cells slots (lw_Z below #[Value.ref b] s) (F0 m 826 ls []) := by
  obtain ⟨C0, hE, hK, hT, hTR⟩ := F
  obtain ⟨hx, hb, hr, hml, hown, hts, hX, hbl, hlocks, hgv⟩ := id C0
  have hbA : ¬ lawA s b := Nat.not_le.mpr hbl
  obtain ⟨hNX, hNY, hAX, hAY, hdis, hPX, hPY, hS, hXI, hYI, hmd, hR⟩ := C
  have hcc := lawM_c hmd
  have hNN := lawM_N hmd
  have cont : ∀ (ax : Nat → Nat) (mm : Option Nat) (N cells slots : Nat) (v ar : sI) (al : sL) (H : Heap) (locs : List Loc) (ls : Array Slot) (r : Int32), apart ax N → (∀ i, i < N → lawA s (ax i)) → (∀ i j, i < N → j < 21 → ax i ≠ ay j) → va_P D xcl (wW ax (xG ax K mm) N v ar al) H → va_P D xcl (wW ay (yG ay K) 21 v' ar' al') H → va_S (lawA s) s.heap H locs → XI v → lawM ax mm N cells slots → lawR v ar al v' ar' al' → lv_has ls 4 [(3, .int (iI i)), (2, .ref (ay 0)), (1, .ref (ax 0)), (0, .ref b)] → W p l e room_1 s m #[Value.ref b] below meth c H locs cells slots (lw_Z below #[Value.ref b] s) (F0 m 830 ls [.int r]) := by
    intro ax mm N cells slots v ar al H locs ls r hNX hAX hdis hPX hPY hS hXI hmd hR hl
    have hcc := lawM_c hmd
    refine lv_pop hx hb dL_830 rfl ?_
    refine lv_aload_n hx hb dL_831 rfl (lv_at hl 1 rfl) ?_
    refine l_viG (nn := 0) (As := []) (rest := []) hE hS hAY (s_X9_whole l D K ay v' ar' al' hYI  ) wPre_blind (wPre_now hK hNY hPY) (x_recv hK hPY 0 (by decide) (yG_9 rfl) rfl) rfl mw_1770 mw_1771 mw_1772 mw_123 mw_1773 (by decide +kernel) ⟨Nat.le_of_ble_eq_true rfl, Nat.le_of_ble_eq_true rfl⟩ hl.1 rfl (Nat.le_of_ble_eq_true rfl) hcc dL_832 (fun r2 v2 ar2 al2 H2 locs2 hp2 hPY2 hk2 hS2 => ?_)
    have hYI2 : YI v2 ar2 := hp2.2.1
    have hPX2 := w_keep hPX (fun i j hi hj e => hdis j i hj hi e.symm) hk2
    refine lv_pop hx hb dL_835 rfl ?_
    refine lv_goto (tgt := 1954) hx hb dL_836 (by decide) ?_
    exact kk ax mm N cells slots v ar al v2 ar2 al2 H2 locs2 ls ⟨hNX, hNY, hAX, hAY, hdis, hPX2, hPY2, hS2, hXI, hYI2, hmd, R_y hR (hp2.2.2.2.1 1 (by decide)) (hp2.2.2.2.1 2 (by decide)) (hp2.2.2.2.1 11 (by decide))⟩ hl
  refine lv_aload_n hx hb dL_826 rfl (lv_at hl 2 rfl) ?_
  refine x_vp (nn := 0) (As := []) (rest := []) hE (s_X8_whole_0 l D K ax mm N hNN v ar al hXI  ) wPre_blind (wPre_now hK hNX hPX) (x_recv hK hPX 0 (by omega) (xG_8 rfl) rfl) rfl mw_868 mw_869 mw_870 mw_114 mw_871 (by decide +kernel) ⟨Nat.le_of_ble_eq_true rfl, Nat.le_of_ble_eq_true rfl⟩ hl.1 rfl (Nat.le_of_ble_eq_true rfl) hcc dL_827 (fun r1 hr1 => ?_)
  exact cont ax mm N cells slots v ar al H locs ls r1 hNX hAX hdis hPX hPY hS hXI hmd hR hl
theorem dL_839 : decode code 839 = .ok (.aload_n 1, 1) := by decide +kernel
theorem dL_840 : decode code 840 = .ok (.invokevirtual 109, 3) := by decide +kernel
theorem dL_843 : decode code 843 = .ok (.pop, 1) := by decide +kernel
theorem dL_844 : decode code 844 = .ok (.aload_n 2, 1) := by decide +kernel
theorem dL_845 : decode code 845 = .ok (.invokevirtual 112, 3) := by decide +kernel
theorem dL_848 : decode code 848 = .ok (.pop, 1) := by decide +kernel
theorem dL_849 : decode code 849 = .ok (.goto 1105, 3) := by decide +kernel
set_option maxHeartbeats 4000000 in
set_option maxRecDepth 100000 in
theorem lc_23 {p : Program} {l : Launch} {e : Env} {s : State} {m : MethodId} {below : List Frame} {meth : Method} {c : Code} {b L : Nat} {xs : Nat → Int32} {D : va_G} {K : Nat → ClassId} {ay ax : Nat → Nat} {mm : Option Nat} {N cells slots : Nat} {v ar : sI} {al : sL} {v' ar' : sI} {al' : sL} {H : Heap} {locs : List Loc} {ls : Array Slot} {tk tv : Nat → Nat} {i : Int} (hi : 0 ≤ i ∧ i + 6 ≤ (L : Int) ∧ L ≤ 3072) (F : lawF p s m meth c b L xs D K tk tv) (C : lawI s D K ay ax mm N cells slots v ar al v' ar' al' H locs) (hl : lv_has ls 4 [(3, .int (iI i)), (2, .ref (ay 0)), (1, .ref (ax 0)), (0, .ref b)]) (kk : lawK p l e s m below meth c b D K ay i) : W p l e room_1 s m #[Value.ref b] below meth c H locs cells slots (lw_Z below #[Value.ref b] s) (F0 m 839 ls []) := by
  obtain ⟨C0, hE, hK, hT, hTR⟩ := F
  obtain ⟨hx, hb, hr, hml, hown, hts, hX, hbl, hlocks, hgv⟩ := id C0
  have hbA : ¬ lawA s b := Nat.not_le.mpr hbl
  obtain ⟨hNX, hNY, hAX, hAY, hdis, hPX, hPY, hS, hXI, hYI, hmd, hR⟩ := C
  have hcc := lawM_c hmd
  have hNN := lawM_N hmd
  have cont : ∀ (ax : Nat → Nat) (mm : Option Nat) (N cells slots : Nat) (v ar : sI) (al : sL) (H : Heap) (locs : List Loc) (ls : Array Slot) (r : Int32), apart ax N → (∀ i, i < N → lawA s (ax i)) → (∀ i j, i < N → j < 21 → ax i ≠ ay j) → va_P D xcl (wW ax (xG ax K mm) N v ar al) H → va_P D xcl (wW ay (yG ay K) 21 v' ar' al') H → va_S (lawA s) s.heap H locs → XI v → lawM ax mm N cells slots → lawR v ar al v' ar' al' → lv_has ls 4 [(3, .int (iI i)), (2, .ref (ay 0)), (1, .ref (ax 0)), (0, .ref b)] → W p l e room_1 s m #[Value.ref b] below meth c H locs cells slots (lw_Z below #[Value.ref b] s) (F0 m 843 ls [.int r]) := by
    intro ax mm N cells slots v ar al H locs ls r hNX hAX hdis hPX hPY hS hXI hmd hR hl
    have hcc := lawM_c hmd
    refine lv_pop hx hb dL_843 rfl ?_
    refine lv_aload_n hx hb dL_844 rfl (lv_at hl 1 rfl) ?_
    refine l_viG (nn := 0) (As := []) (rest := []) hE hS hAY (s_X9_points l D K ay v' ar' al' hYI  ) wPre_blind (wPre_now hK hNY hPY) (x_recv hK hPY 0 (by decide) (yG_9 rfl) rfl) rfl mw_1778 mw_1779 mw_1780 mw_123 mw_1781 (by decide +kernel) ⟨Nat.le_of_ble_eq_true rfl, Nat.le_of_ble_eq_true rfl⟩ hl.1 rfl (Nat.le_of_ble_eq_true rfl) hcc dL_845 (fun r2 v2 ar2 al2 H2 locs2 hp2 hPY2 hk2 hS2 => ?_)
    have hYI2 : YI v2 ar2 := hp2.2.1
    have hPX2 := w_keep hPX (fun i j hi hj e => hdis j i hj hi e.symm) hk2
    refine lv_pop hx hb dL_848 rfl ?_
    refine lv_goto (tgt := 1954) hx hb dL_849 (by decide) ?_
    exact kk ax mm N cells slots v ar al v2 ar2 al2 H2 locs2 ls ⟨hNX, hNY, hAX, hAY, hdis, hPX2, hPY2, hS2, hXI, hYI2, hmd, R_y hR (hp2.2.2.2.1 1 (by decide)) (hp2.2.2.2.1 2 (by decide)) (hp2.2.2.2.1 11 (by decide))⟩ hl
  refine lv_aload_n hx hb dL_839 rfl (lv_at hl 2 rfl) ?_
  refine x_vp (nn := 0) (As := []) (rest := []) hE (s_X8_points_0 l D K ax mm N hNN v ar al hXI  ) wPre_blind (wPre_now hK hNX hPX) (x_recv hK hPX 0 (by omega) (xG_8 rfl) rfl) rfl mw_876 mw_877 mw_878 mw_114 mw_879 (by decide +kernel) ⟨Nat.le_of_ble_eq_true rfl, Nat.le_of_ble_eq_true rfl⟩ hl.1 rfl (Nat.le_of_ble_eq_true rfl) hcc dL_840 (fun r1 hr1 => ?_)
  exact cont ax mm N cells slots v ar al H locs ls r1 hNX hAX hdis hPX hPY hS hXI hmd hR hl
theorem dL_852 : decode code 852 = .ok (.aload_n 1, 1) := by decide +kernel
theorem dL_853 : decode code 853 = .ok (.aload_n 0, 1) := by decide +kernel
theorem dL_854 : decode code 854 = .ok (.iload_n 3, 1) := by decide +kernel
theorem dL_855 : decode code 855 = .ok (.iconst 1, 1) := by decide +kernel
theorem dL_856 : decode code 856 = .ok (.iadd, 1) := by decide +kernel
theorem dL_857 : decode code 857 = .ok (.iaload, 1) := by decide +kernel
theorem dL_858 : decode code 858 = .ok (.invokevirtual 113, 3) := by decide +kernel
theorem dL_861 : decode code 861 = .ok (.pop, 1) := by decide +kernel
theorem dL_862 : decode code 862 = .ok (.aload_n 2, 1) := by decide +kernel
theorem dL_863 : decode code 863 = .ok (.aload_n 0, 1) := by decide +kernel
theorem dL_864 : decode code 864 = .ok (.iload_n 3, 1) := by decide +kernel
theorem dL_865 : decode code 865 = .ok (.iconst 1, 1) := by decide +kernel
theorem dL_866 : decode code 866 = .ok (.iadd, 1) := by decide +kernel
theorem dL_867 : decode code 867 = .ok (.iaload, 1) := by decide +kernel
theorem dL_868 : decode code 868 = .ok (.invokevirtual 116, 3) := by decide +kernel
theorem dL_871 : decode code 871 = .ok (.pop, 1) := by decide +kernel
theorem dL_872 : decode code 872 = .ok (.goto 1082, 3) := by decide +kernel
set_option maxHeartbeats 4000000 in
set_option maxRecDepth 100000 in
theorem lc_24 {p : Program} {l : Launch} {e : Env} {s : State} {m : MethodId} {below : List Frame} {meth : Method} {c : Code} {b L : Nat} {xs : Nat → Int32} {D : va_G} {K : Nat → ClassId} {ay ax : Nat → Nat} {mm : Option Nat} {N cells slots : Nat} {v ar : sI} {al : sL} {v' ar' : sI} {al' : sL} {H : Heap} {locs : List Loc} {ls : Array Slot} {tk tv : Nat → Nat} {i : Int} (hi : 0 ≤ i ∧ i + 6 ≤ (L : Int) ∧ L ≤ 3072) (F : lawF p s m meth c b L xs D K tk tv) (C : lawI s D K ay ax mm N cells slots v ar al v' ar' al' H locs) (hl : lv_has ls 4 [(3, .int (iI i)), (2, .ref (ay 0)), (1, .ref (ax 0)), (0, .ref b)]) (kk : lawK p l e s m below meth c b D K ay i) : W p l e room_1 s m #[Value.ref b] below meth c H locs cells slots (lw_Z below #[Value.ref b] s) (F0 m 852 ls []) := by
  obtain ⟨C0, hE, hK, hT, hTR⟩ := F
  obtain ⟨hx, hb, hr, hml, hown, hts, hX, hbl, hlocks, hgv⟩ := id C0
  have hbA : ¬ lawA s b := Nat.not_le.mpr hbl
  obtain ⟨hNX, hNY, hAX, hAY, hdis, hPX, hPY, hS, hXI, hYI, hmd, hR⟩ := C
  have hcc := lawM_c hmd
  have hNN := lawM_N hmd
  obtain ⟨z1, hz1, ez1⟩ := iI_of (xs (iI (i + 1)).toNatClampNeg)
  have cont : ∀ (ax : Nat → Nat) (mm : Option Nat) (N cells slots : Nat) (v ar : sI) (al : sL) (H : Heap) (locs : List Loc) (ls : Array Slot) (r : Int32), apart ax N → (∀ i, i < N → lawA s (ax i)) → (∀ i j, i < N → j < 21 → ax i ≠ ay j) → va_P D xcl (wW ax (xG ax K mm) N v ar al) H → va_P D xcl (wW ay (yG ay K) 21 v' ar' al') H → va_S (lawA s) s.heap H locs → XI v → lawM ax mm N cells slots → lawR v ar al v' ar' al' → lv_has ls 4 [(3, .int (iI i)), (2, .ref (ay 0)), (1, .ref (ax 0)), (0, .ref b)] → W p l e room_1 s m #[Value.ref b] below meth c H locs cells slots (lw_Z below #[Value.ref b] s) (F0 m 861 ls [.int r]) := by
    intro ax mm N cells slots v ar al H locs ls r hNX hAX hdis hPX hPY hS hXI hmd hR hl
    have hcc := lawM_c hmd
    refine lv_pop hx hb dL_861 rfl ?_
    refine lv_aload_n hx hb dL_862 rfl (lv_at hl 1 rfl) ?_
    refine lv_aload_n hx hb dL_863 rfl (lv_at hl 3 rfl) ?_
    refine lv_iload_n hx hb dL_864 rfl (lv_at hl 0 rfl) ?_
    refine lv_iconst (v := iI (1)) hx hb dL_865 (by decide) ?_
    refine lv_iadd hx hb dL_866 ?_
    refine x_top (y := iI (i + 1)) (iI_add _ _) ?_
    refine va_sld (i := iI (i + 1)) hx hb hX hbl hbA hS (iI_in (n := L) (by omega)) dL_867 ?_
    refine x_top ez1 ?_
    refine l_viG (nn := 1) (As := [.int (iI (z1))]) (rest := []) hE hS hAY (s_X9_share l D K ay v' ar' al' hYI  (z1) (by omega)) wPre_blind (wPre_now hK hNY hPY) (x_recv hK hPY 0 (by decide) (yG_9 rfl) rfl) rfl mw_1782 mw_1783 mw_1784 mw_123 mw_1785 (by decide +kernel) ⟨Nat.le_of_ble_eq_true rfl, Nat.le_of_ble_eq_true rfl⟩ hl.1 rfl (Nat.le_of_ble_eq_true rfl) hcc dL_868 (fun r2 v2 ar2 al2 H2 locs2 hp2 hPY2 hk2 hS2 => ?_)
    have hYI2 : YI v2 ar2 := hp2.2.1
    have hPX2 := w_keep hPX (fun i j hi hj e => hdis j i hj hi e.symm) hk2
    refine lv_pop hx hb dL_871 rfl ?_
    refine lv_goto (tgt := 1954) hx hb dL_872 (by decide) ?_
    exact kk ax mm N cells slots v ar al v2 ar2 al2 H2 locs2 ls ⟨hNX, hNY, hAX, hAY, hdis, hPX2, hPY2, hS2, hXI, hYI2, hmd, R_y hR (hp2.2.2.2.1 1 (by decide)) (hp2.2.2.2.1 2 (by decide)) (hp2.2.2.2.1 11 (by decide))⟩ hl
  refine lv_aload_n hx hb dL_852 rfl (lv_at hl 2 rfl) ?_
  refine lv_aload_n hx hb dL_853 rfl (lv_at hl 3 rfl) ?_
  refine lv_iload_n hx hb dL_854 rfl (lv_at hl 0 rfl) ?_
  refine lv_iconst (v := iI (1)) hx hb dL_855 (by decide) ?_
  refine lv_iadd hx hb dL_856 ?_
  refine x_top (y := iI (i + 1)) (iI_add _ _) ?_
  refine va_sld (i := iI (i + 1)) hx hb hX hbl hbA hS (iI_in (n := L) (by omega)) dL_857 ?_
  refine x_top ez1 ?_
  refine x_vp (nn := 1) (As := [.int (iI (z1))]) (rest := []) hE (s_X8_share_0 l D K ax mm N hNN v ar al hXI  (z1) (by omega)) wPre_blind (wPre_now hK hNX hPX) (x_recv hK hPX 0 (by omega) (xG_8 rfl) rfl) rfl mw_880 mw_881 mw_882 mw_114 mw_883 (by decide +kernel) ⟨Nat.le_of_ble_eq_true rfl, Nat.le_of_ble_eq_true rfl⟩ hl.1 rfl (Nat.le_of_ble_eq_true rfl) hcc dL_858 (fun r1 hr1 => ?_)
  exact cont ax mm N cells slots v ar al H locs ls r1 hNX hAX hdis hPX hPY hS hXI hmd hR hl
theorem dL_875 : decode code 875 = .ok (.aload_n 1, 1) := by decide +kernel
theorem dL_876 : decode code 876 = .ok (.aload_n 0, 1) := by decide +kernel
theorem dL_877 : decode code 877 = .ok (.iload_n 3, 1) := by decide +kernel
theorem dL_878 : decode code 878 = .ok (.iconst 1, 1) := by decide +kernel
theorem dL_879 : decode code 879 = .ok (.iadd, 1) := by decide +kernel
theorem dL_880 : decode code 880 = .ok (.iaload, 1) := by decide +kernel
theorem dL_881 : decode code 881 = .ok (.invokevirtual 117, 3) := by decide +kernel
theorem dL_884 : decode code 884 = .ok (.pop, 1) := by decide +kernel
theorem dL_885 : decode code 885 = .ok (.aload_n 2, 1) := by decide +kernel
theorem dL_886 : decode code 886 = .ok (.aload_n 0, 1) := by decide +kernel
theorem dL_887 : decode code 887 = .ok (.iload_n 3, 1) := by decide +kernel
theorem dL_888 : decode code 888 = .ok (.iconst 1, 1) := by decide +kernel
theorem dL_889 : decode code 889 = .ok (.iadd, 1) := by decide +kernel
theorem dL_890 : decode code 890 = .ok (.iaload, 1) := by decide +kernel
theorem dL_891 : decode code 891 = .ok (.invokevirtual 120, 3) := by decide +kernel
theorem dL_894 : decode code 894 = .ok (.pop, 1) := by decide +kernel
theorem dL_895 : decode code 895 = .ok (.goto 1059, 3) := by decide +kernel
set_option maxHeartbeats 4000000 in
set_option maxRecDepth 100000 in
theorem lc_25 {p : Program} {l : Launch} {e : Env} {s : State} {m : MethodId} {below : List Frame} {meth : Method} {c : Code} {b L : Nat} {xs : Nat → Int32} {D : va_G} {K : Nat → ClassId} {ay ax : Nat → Nat} {mm : Option Nat} {N cells slots : Nat} {v ar : sI} {al : sL} {v' ar' : sI} {al' : sL} {H : Heap} {locs : List Loc} {ls : Array Slot} {tk tv : Nat → Nat} {i : Int} (hi : 0 ≤ i ∧ i + 6 ≤ (L : Int) ∧ L ≤ 3072) (F : lawF p s m meth c b L xs D K tk tv) (C : lawI s D K ay ax mm N cells slots v ar al v' ar' al' H locs) (hl : lv_has ls 4 [(3, .int (iI i)), (2, .ref (ay 0)), (1, .ref (ax 0)), (0, .ref b)]) (kk : lawK p l e s m below meth c b D K ay i) : W p l e room_1 s m #[Value.ref b] below meth c H locs cells slots (lw_Z below #[Value.ref b] s) (F0 m 875 ls []) := by
  obtain ⟨C0, hE, hK, hT, hTR⟩ := F
  obtain ⟨hx, hb, hr, hml, hown, hts, hX, hbl, hlocks, hgv⟩ := id C0
  have hbA : ¬ lawA s b := Nat.not_le.mpr hbl
  obtain ⟨hNX, hNY, hAX, hAY, hdis, hPX, hPY, hS, hXI, hYI, hmd, hR⟩ := C
  have hcc := lawM_c hmd
  have hNN := lawM_N hmd
  obtain ⟨z1, hz1, ez1⟩ := iI_of (xs (iI (i + 1)).toNatClampNeg)
  have cont : ∀ (ax : Nat → Nat) (mm : Option Nat) (N cells slots : Nat) (v ar : sI) (al : sL) (H : Heap) (locs : List Loc) (ls : Array Slot) (r : Int32), apart ax N → (∀ i, i < N → lawA s (ax i)) → (∀ i j, i < N → j < 21 → ax i ≠ ay j) → va_P D xcl (wW ax (xG ax K mm) N v ar al) H → va_P D xcl (wW ay (yG ay K) 21 v' ar' al') H → va_S (lawA s) s.heap H locs → XI v → lawM ax mm N cells slots → lawR v ar al v' ar' al' → lv_has ls 4 [(3, .int (iI i)), (2, .ref (ay 0)), (1, .ref (ax 0)), (0, .ref b)] → W p l e room_1 s m #[Value.ref b] below meth c H locs cells slots (lw_Z below #[Value.ref b] s) (F0 m 884 ls [.int r]) := by
    intro ax mm N cells slots v ar al H locs ls r hNX hAX hdis hPX hPY hS hXI hmd hR hl
    have hcc := lawM_c hmd
    refine lv_pop hx hb dL_884 rfl ?_
    refine lv_aload_n hx hb dL_885 rfl (lv_at hl 1 rfl) ?_
    refine lv_aload_n hx hb dL_886 rfl (lv_at hl 3 rfl) ?_
    refine lv_iload_n hx hb dL_887 rfl (lv_at hl 0 rfl) ?_
    refine lv_iconst (v := iI (1)) hx hb dL_888 (by decide) ?_
    refine lv_iadd hx hb dL_889 ?_
    refine x_top (y := iI (i + 1)) (iI_add _ _) ?_
    refine va_sld (i := iI (i + 1)) hx hb hX hbl hbA hS (iI_in (n := L) (by omega)) dL_890 ?_
    refine x_top ez1 ?_
    refine l_viG (nn := 1) (As := [.int (iI (z1))]) (rest := []) hE hS hAY (s_X9_left l D K ay v' ar' al' hYI  (z1) (by omega)) wPre_blind (wPre_now hK hNY hPY) (x_recv hK hPY 0 (by decide) (yG_9 rfl) rfl) rfl mw_1790 mw_1791 mw_1792 mw_123 mw_1793 (by decide +kernel) ⟨Nat.le_of_ble_eq_true rfl, Nat.le_of_ble_eq_true rfl⟩ hl.1 rfl (Nat.le_of_ble_eq_true rfl) hcc dL_891 (fun r2 v2 ar2 al2 H2 locs2 hp2 hPY2 hk2 hS2 => ?_)
    have hYI2 : YI v2 ar2 := hp2.2.1
    have hPX2 := w_keep hPX (fun i j hi hj e => hdis j i hj hi e.symm) hk2
    refine lv_pop hx hb dL_894 rfl ?_
    refine lv_goto (tgt := 1954) hx hb dL_895 (by decide) ?_
    exact kk ax mm N cells slots v ar al v2 ar2 al2 H2 locs2 ls ⟨hNX, hNY, hAX, hAY, hdis, hPX2, hPY2, hS2, hXI, hYI2, hmd, R_y hR (hp2.2.2.2.1 1 (by decide)) (hp2.2.2.2.1 2 (by decide)) (hp2.2.2.2.1 11 (by decide))⟩ hl
  refine lv_aload_n hx hb dL_875 rfl (lv_at hl 2 rfl) ?_
  refine lv_aload_n hx hb dL_876 rfl (lv_at hl 3 rfl) ?_
  refine lv_iload_n hx hb dL_877 rfl (lv_at hl 0 rfl) ?_
  refine lv_iconst (v := iI (1)) hx hb dL_878 (by decide) ?_
  refine lv_iadd hx hb dL_879 ?_
  refine x_top (y := iI (i + 1)) (iI_add _ _) ?_
  refine va_sld (i := iI (i + 1)) hx hb hX hbl hbA hS (iI_in (n := L) (by omega)) dL_880 ?_
  refine x_top ez1 ?_
  refine x_vp (nn := 1) (As := [.int (iI (z1))]) (rest := []) hE (s_X8_left_0 l D K ax mm N hNN v ar al hXI  (z1) (by omega)) wPre_blind (wPre_now hK hNX hPX) (x_recv hK hPX 0 (by omega) (xG_8 rfl) rfl) rfl mw_895 mw_896 mw_897 mw_114 mw_898 (by decide +kernel) ⟨Nat.le_of_ble_eq_true rfl, Nat.le_of_ble_eq_true rfl⟩ hl.1 rfl (Nat.le_of_ble_eq_true rfl) hcc dL_881 (fun r1 hr1 => ?_)
  exact cont ax mm N cells slots v ar al H locs ls r1 hNX hAX hdis hPX hPY hS hXI hmd hR hl
theorem dL_898 : decode code 898 = .ok (.aload_n 1, 1) := by decide +kernel
theorem dL_899 : decode code 899 = .ok (.invokevirtual 121, 3) := by decide +kernel
theorem dL_902 : decode code 902 = .ok (.pop, 1) := by decide +kernel
theorem dL_903 : decode code 903 = .ok (.aload_n 2, 1) := by decide +kernel
theorem dL_904 : decode code 904 = .ok (.invokevirtual 124, 3) := by decide +kernel
theorem dL_907 : decode code 907 = .ok (.pop, 1) := by decide +kernel
theorem dL_908 : decode code 908 = .ok (.goto 1046, 3) := by decide +kernel
set_option maxHeartbeats 4000000 in
set_option maxRecDepth 100000 in
theorem lc_26 {p : Program} {l : Launch} {e : Env} {s : State} {m : MethodId} {below : List Frame} {meth : Method} {c : Code} {b L : Nat} {xs : Nat → Int32} {D : va_G} {K : Nat → ClassId} {ay ax : Nat → Nat} {mm : Option Nat} {N cells slots : Nat} {v ar : sI} {al : sL} {v' ar' : sI} {al' : sL} {H : Heap} {locs : List Loc} {ls : Array Slot} {tk tv : Nat → Nat} {i : Int} (hi : 0 ≤ i ∧ i + 6 ≤ (L : Int) ∧ L ≤ 3072) (F : lawF p s m meth c b L xs D K tk tv) (C : lawI s D K ay ax mm N cells slots v ar al v' ar' al' H locs) (hl : lv_has ls 4 [(3, .int (iI i)), (2, .ref (ay 0)), (1, .ref (ax 0)), (0, .ref b)]) (kk : lawK p l e s m below meth c b D K ay i) : W p l e room_1 s m #[Value.ref b] below meth c H locs cells slots (lw_Z below #[Value.ref b] s) (F0 m 898 ls []) := by
  obtain ⟨C0, hE, hK, hT, hTR⟩ := F
  obtain ⟨hx, hb, hr, hml, hown, hts, hX, hbl, hlocks, hgv⟩ := id C0
  have hbA : ¬ lawA s b := Nat.not_le.mpr hbl
  obtain ⟨hNX, hNY, hAX, hAY, hdis, hPX, hPY, hS, hXI, hYI, hmd, hR⟩ := C
  have hcc := lawM_c hmd
  have hNN := lawM_N hmd
  have cont : ∀ (ax : Nat → Nat) (mm : Option Nat) (N cells slots : Nat) (v ar : sI) (al : sL) (H : Heap) (locs : List Loc) (ls : Array Slot) (r : Int32), apart ax N → (∀ i, i < N → lawA s (ax i)) → (∀ i j, i < N → j < 21 → ax i ≠ ay j) → va_P D xcl (wW ax (xG ax K mm) N v ar al) H → va_P D xcl (wW ay (yG ay K) 21 v' ar' al') H → va_S (lawA s) s.heap H locs → XI v → lawM ax mm N cells slots → lawR v ar al v' ar' al' → lv_has ls 4 [(3, .int (iI i)), (2, .ref (ay 0)), (1, .ref (ax 0)), (0, .ref b)] → W p l e room_1 s m #[Value.ref b] below meth c H locs cells slots (lw_Z below #[Value.ref b] s) (F0 m 902 ls [.int r]) := by
    intro ax mm N cells slots v ar al H locs ls r hNX hAX hdis hPX hPY hS hXI hmd hR hl
    have hcc := lawM_c hmd
    refine lv_pop hx hb dL_902 rfl ?_
    refine lv_aload_n hx hb dL_903 rfl (lv_at hl 1 rfl) ?_
    refine l_viG (nn := 0) (As := []) (rest := []) hE hS hAY (s_X9_longest l D K ay v' ar' al' hYI  ) wPre_blind (wPre_now hK hNY hPY) (x_recv hK hPY 0 (by decide) (yG_9 rfl) rfl) rfl mw_1794 mw_1795 mw_1796 mw_123 mw_1797 (by decide +kernel) ⟨Nat.le_of_ble_eq_true rfl, Nat.le_of_ble_eq_true rfl⟩ hl.1 rfl (Nat.le_of_ble_eq_true rfl) hcc dL_904 (fun r2 v2 ar2 al2 H2 locs2 hp2 hPY2 hk2 hS2 => ?_)
    have hYI2 : YI v2 ar2 := hp2.2.1
    have hPX2 := w_keep hPX (fun i j hi hj e => hdis j i hj hi e.symm) hk2
    refine lv_pop hx hb dL_907 rfl ?_
    refine lv_goto (tgt := 1954) hx hb dL_908 (by decide) ?_
    exact kk ax mm N cells slots v ar al v2 ar2 al2 H2 locs2 ls ⟨hNX, hNY, hAX, hAY, hdis, hPX2, hPY2, hS2, hXI, hYI2, hmd, R_y hR (hp2.2.2.2.1 1 (by decide)) (hp2.2.2.2.1 2 (by decide)) (hp2.2.2.2.1 11 (by decide))⟩ hl
  refine lv_aload_n hx hb dL_898 rfl (lv_at hl 2 rfl) ?_
  refine l_viG (nn := 0) (As := []) (rest := []) hE hS hAX (s_X8_longest_0 l D K ax mm N hNN v ar al hXI   ) wPre_blind (wPre_now hK hNX hPX) (x_recv hK hPX 0 (by omega) (xG_8 rfl) rfl) rfl mw_900 mw_901 mw_902 mw_114 mw_903 (by decide +kernel) ⟨Nat.le_of_ble_eq_true rfl, Nat.le_of_ble_eq_true rfl⟩ hl.1 rfl (Nat.le_of_ble_eq_true rfl) hcc dL_899 (fun r1 v1 ar1 al1 H1 locs1 hp1 hPX1 hk1 hS1 => ?_)
  exact cont ax mm N cells slots v1 ar1 al1 H1 locs1 ls r1 hNX hAX hdis hPX1 (w_keep hPY hdis hk1) hS1 hp1.2.1 hmd (R_x hR (fun i j h => hp1.2.2 i j (fl_out (by decide) h))) hl
