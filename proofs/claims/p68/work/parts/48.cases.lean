theorem dL_1729 : decode code 1729 = .ok (.aload_n 1, 1) := by decide +kernel
theorem dL_1730 : decode code 1730 = .ok (.aload_n 0, 1) := by decide +kernel
theorem dL_1731 : decode code 1731 = .ok (.iload_n 3, 1) := by decide +kernel
theorem dL_1732 : decode code 1732 = .ok (.iconst 1, 1) := by decide +kernel
theorem dL_1733 : decode code 1733 = .ok (.iadd, 1) := by decide +kernel
theorem dL_1734 : decode code 1734 = .ok (.iaload, 1) := by decide +kernel
theorem dL_1735 : decode code 1735 = .ok (.invokevirtual 269, 3) := by decide +kernel
theorem dL_1738 : decode code 1738 = .ok (.pop, 1) := by decide +kernel
theorem dL_1739 : decode code 1739 = .ok (.aload_n 2, 1) := by decide +kernel
theorem dL_1740 : decode code 1740 = .ok (.aload_n 0, 1) := by decide +kernel
theorem dL_1741 : decode code 1741 = .ok (.iload_n 3, 1) := by decide +kernel
theorem dL_1742 : decode code 1742 = .ok (.iconst 1, 1) := by decide +kernel
theorem dL_1743 : decode code 1743 = .ok (.iadd, 1) := by decide +kernel
theorem dL_1744 : decode code 1744 = .ok (.iaload, 1) := by decide +kernel
theorem dL_1745 : decode code 1745 = .ok (.invokevirtual 272, 3) := by decide +kernel
theorem dL_1748 : decode code 1748 = .ok (.pop, 1) := by decide +kernel
theorem dL_1749 : decode code 1749 = .ok (.goto 205, 3) := by decide +kernel
set_option maxHeartbeats 4000000 in
set_option maxRecDepth 100000 in
theorem lc_63 {p : Program} {l : Launch} {e : Env} {s : State} {m : MethodId} {below : List Frame} {meth : Method} {c : Code} {b L : Nat} {xs : Nat → Int32} {D : va_G} {K : Nat → ClassId} {ay ax : Nat → Nat} {mm : Option Nat} {N cells slots : Nat} {v ar : sI} {al : sL} {v' ar' : sI} {al' : sL} {H : Heap} {locs : List Loc} {ls : Array Slot} {tk tv : Nat → Nat} {i : Int} (hi : 0 ≤ i ∧ i + 6 ≤ (L : Int) ∧ L ≤ 3072) (F : lawF p s m meth c b L xs D K tk tv) (C : lawI s D K ay ax mm N cells slots v ar al v' ar' al' H locs) (hl : lv_has ls 4 [(3, .int (iI i)), (2, .ref (ay 0)), (1, .ref (ax 0)), (0, .ref b)]) (kk : lawK p l e s m below meth c b D K ay i) : W p l e room_1 s m #[Value.ref b] below meth c H locs cells slots (lw_Z below #[Value.ref b] s) (F0 m 1729 ls []) := by
  obtain ⟨C0, hE, hK, hT, hTR⟩ := F
  obtain ⟨hx, hb, hr, hml, hown, hts, hX, hbl, hlocks, hgv⟩ := id C0
  have hbA : ¬ lawA s b := Nat.not_le.mpr hbl
  obtain ⟨hNX, hNY, hAX, hAY, hdis, hPX, hPY, hS, hXI, hYI, hmd, hR⟩ := C
  have hcc := lawM_c hmd
  have hNN := lawM_N hmd
  obtain ⟨z1, hz1, ez1⟩ := iI_of (xs (iI (i + 1)).toNatClampNeg)
  obtain ⟨vo, evo⟩ : ∃ vo : sI, vo = v := ⟨v, rfl⟩
  have hRo : lawR vo ar al v' ar' al' := by rw [evo]; exact hR
  have cont : ∀ (ax : Nat → Nat) (mm : Option Nat) (N cells slots : Nat) (v ar : sI) (al : sL) (H : Heap) (locs : List Loc) (ls : Array Slot) (r : Int32), apart ax N → (∀ i, i < N → lawA s (ax i)) → (∀ i j, i < N → j < 21 → ax i ≠ ay j) → va_P D xcl (wW ax (xG ax K mm) N v ar al) H → va_P D xcl (wW ay (yG ay K) 21 v' ar' al') H → va_S (lawA s) s.heap H locs → XI v → lawM ax mm N cells slots → KPx (z1) vo v → lv_has ls 4 [(3, .int (iI i)), (2, .ref (ay 0)), (1, .ref (ax 0)), (0, .ref b)] → W p l e room_1 s m #[Value.ref b] below meth c H locs cells slots (lw_Z below #[Value.ref b] s) (F0 m 1738 ls [.int r]) := by
    intro ax mm N cells slots v ar al H locs ls r hNX hAX hdis hPX hPY hS hXI hmd hR hl
    have hcc := lawM_c hmd
    refine lv_pop hx hb dL_1738 rfl ?_
    refine lv_aload_n hx hb dL_1739 rfl (lv_at hl 1 rfl) ?_
    refine lv_aload_n hx hb dL_1740 rfl (lv_at hl 3 rfl) ?_
    refine lv_iload_n hx hb dL_1741 rfl (lv_at hl 0 rfl) ?_
    refine lv_iconst (v := iI (1)) hx hb dL_1742 (by decide) ?_
    refine lv_iadd hx hb dL_1743 ?_
    refine x_top (y := iI (i + 1)) (iI_add _ _) ?_
    refine va_sld (i := iI (i + 1)) hx hb hX hbl hbA hS (iI_in (n := L) (by omega)) dL_1744 ?_
    refine x_top ez1 ?_
    refine l_viG (nn := 1) (As := [.int (iI (z1))]) (rest := []) hE hS hAY (s_X9_keep_f l D K ay v' ar' al' hYI  (z1) (by omega)) wPre_blind (wPre_now hK hNY hPY) (x_recv hK hPY 0 (by decide) (yG_9 rfl) rfl) rfl mw_2068 mw_2069 mw_2070 mw_123 mw_2071 (by decide +kernel) ⟨Nat.le_of_ble_eq_true rfl, Nat.le_of_ble_eq_true rfl⟩ hl.1 rfl (Nat.le_of_ble_eq_true rfl) hcc dL_1745 (fun r2 v2 ar2 al2 H2 locs2 hp2 hPY2 hk2 hS2 => ?_)
    have hYI2 : YI v2 ar2 := hp2.2.1
    have hPX2 := w_keep hPX (fun i j hi hj e => hdis j i hj hi e.symm) hk2
    refine lv_pop hx hb dL_1748 rfl ?_
    refine lv_goto (tgt := 1954) hx hb dL_1749 (by decide) ?_
    exact kk ax mm N cells slots v ar al v2 ar2 al2 H2 locs2 ls ⟨hNX, hNY, hAX, hAY, hdis, hPX2, hPY2, hS2, hXI, hYI2, hmd, R_keep hRo hR hp2.2.2.2.2.2 (hp2.2.2.2.1 1 (by decide)) (hp2.2.2.2.1 2 (by decide))⟩ hl
  refine lv_aload_n hx hb dL_1729 rfl (lv_at hl 2 rfl) ?_
  refine lv_aload_n hx hb dL_1730 rfl (lv_at hl 3 rfl) ?_
  refine lv_iload_n hx hb dL_1731 rfl (lv_at hl 0 rfl) ?_
  refine lv_iconst (v := iI (1)) hx hb dL_1732 (by decide) ?_
  refine lv_iadd hx hb dL_1733 ?_
  refine x_top (y := iI (i + 1)) (iI_add _ _) ?_
  refine va_sld (i := iI (i + 1)) hx hb hX hbl hbA hS (iI_in (n := L) (by omega)) dL_1734 ?_
  refine x_top ez1 ?_
  refine l_viG (nn := 1) (As := [.int (iI (z1))]) (rest := []) hE hS hAX (k_X8_keep_0 l D K ax mm N hNN v ar al hXI   (z1) (by omega)) wPre_blind (wPre_now hK hNX hPX) (x_recv hK hPX 0 (by omega) (xG_8 rfl) rfl) rfl mw_1291 mw_1292 mw_1293 mw_114 mw_1294 (by decide +kernel) ⟨Nat.le_of_ble_eq_true rfl, Nat.le_of_ble_eq_true rfl⟩ hl.1 rfl (Nat.le_of_ble_eq_true rfl) hcc dL_1735 (fun r1 v1 ar1 al1 H1 locs1 hp1 hPX1 hk1 hS1 => ?_)
  exact cont ax mm N cells slots v1 ar1 al1 H1 locs1 ls r1 hNX hAX hdis hPX1 (w_keep hPY hdis hk1) hS1 hp1.2.1 hmd (by rw [evo]; exact hp1.2.2.2) hl
theorem dL_1752 : decode code 1752 = .ok (.aload_n 1, 1) := by decide +kernel
theorem dL_1753 : decode code 1753 = .ok (.aload_n 0, 1) := by decide +kernel
theorem dL_1754 : decode code 1754 = .ok (.iload_n 3, 1) := by decide +kernel
theorem dL_1755 : decode code 1755 = .ok (.iconst 1, 1) := by decide +kernel
theorem dL_1756 : decode code 1756 = .ok (.iadd, 1) := by decide +kernel
theorem dL_1757 : decode code 1757 = .ok (.iaload, 1) := by decide +kernel
theorem dL_1758 : decode code 1758 = .ok (.invokevirtual 273, 3) := by decide +kernel
theorem dL_1761 : decode code 1761 = .ok (.pop, 1) := by decide +kernel
theorem dL_1762 : decode code 1762 = .ok (.aload_n 2, 1) := by decide +kernel
theorem dL_1763 : decode code 1763 = .ok (.aload_n 0, 1) := by decide +kernel
theorem dL_1764 : decode code 1764 = .ok (.iload_n 3, 1) := by decide +kernel
theorem dL_1765 : decode code 1765 = .ok (.iconst 1, 1) := by decide +kernel
theorem dL_1766 : decode code 1766 = .ok (.iadd, 1) := by decide +kernel
theorem dL_1767 : decode code 1767 = .ok (.iaload, 1) := by decide +kernel
theorem dL_1768 : decode code 1768 = .ok (.invokevirtual 276, 3) := by decide +kernel
theorem dL_1771 : decode code 1771 = .ok (.pop, 1) := by decide +kernel
theorem dL_1772 : decode code 1772 = .ok (.goto 182, 3) := by decide +kernel
set_option maxHeartbeats 4000000 in
set_option maxRecDepth 100000 in
theorem lc_64 {p : Program} {l : Launch} {e : Env} {s : State} {m : MethodId} {below : List Frame} {meth : Method} {c : Code} {b L : Nat} {xs : Nat → Int32} {D : va_G} {K : Nat → ClassId} {ay ax : Nat → Nat} {mm : Option Nat} {N cells slots : Nat} {v ar : sI} {al : sL} {v' ar' : sI} {al' : sL} {H : Heap} {locs : List Loc} {ls : Array Slot} {tk tv : Nat → Nat} {i : Int} (hi : 0 ≤ i ∧ i + 6 ≤ (L : Int) ∧ L ≤ 3072) (F : lawF p s m meth c b L xs D K tk tv) (C : lawI s D K ay ax mm N cells slots v ar al v' ar' al' H locs) (hl : lv_has ls 4 [(3, .int (iI i)), (2, .ref (ay 0)), (1, .ref (ax 0)), (0, .ref b)]) (kk : lawK p l e s m below meth c b D K ay i) : W p l e room_1 s m #[Value.ref b] below meth c H locs cells slots (lw_Z below #[Value.ref b] s) (F0 m 1752 ls []) := by
  obtain ⟨C0, hE, hK, hT, hTR⟩ := F
  obtain ⟨hx, hb, hr, hml, hown, hts, hX, hbl, hlocks, hgv⟩ := id C0
  have hbA : ¬ lawA s b := Nat.not_le.mpr hbl
  obtain ⟨hNX, hNY, hAX, hAY, hdis, hPX, hPY, hS, hXI, hYI, hmd, hR⟩ := C
  have hcc := lawM_c hmd
  have hNN := lawM_N hmd
  obtain ⟨z1, hz1, ez1⟩ := iI_of (xs (iI (i + 1)).toNatClampNeg)
  obtain ⟨xw_1, hxw_1, exw_1⟩ := iI_of (v 75 2)
  obtain ⟨xw_2, hxw_2, exw_2⟩ := iI_of (v 94 2)
  obtain ⟨xw_3, hxw_3, exw_3⟩ := iI_of (v 113 2)
  have cont : ∀ (ax : Nat → Nat) (mm : Option Nat) (N cells slots : Nat) (v ar : sI) (al : sL) (H : Heap) (locs : List Loc) (ls : Array Slot) (r : Int32), apart ax N → (∀ i, i < N → lawA s (ax i)) → (∀ i j, i < N → j < 21 → ax i ≠ ay j) → va_P D xcl (wW ax (xG ax K mm) N v ar al) H → va_P D xcl (wW ay (yG ay K) 21 v' ar' al') H → va_S (lawA s) s.heap H locs → XI v → lawM ax mm N cells slots → lawR v ar al v' ar' al' → lv_has ls 4 [(3, .int (iI i)), (2, .ref (ay 0)), (1, .ref (ax 0)), (0, .ref b)] → W p l e room_1 s m #[Value.ref b] below meth c H locs cells slots (lw_Z below #[Value.ref b] s) (F0 m 1761 ls [.int r]) := by
    intro ax mm N cells slots v ar al H locs ls r hNX hAX hdis hPX hPY hS hXI hmd hR hl
    have hcc := lawM_c hmd
    refine lv_pop hx hb dL_1761 rfl ?_
    refine lv_aload_n hx hb dL_1762 rfl (lv_at hl 1 rfl) ?_
    refine lv_aload_n hx hb dL_1763 rfl (lv_at hl 3 rfl) ?_
    refine lv_iload_n hx hb dL_1764 rfl (lv_at hl 0 rfl) ?_
    refine lv_iconst (v := iI (1)) hx hb dL_1765 (by decide) ?_
    refine lv_iadd hx hb dL_1766 ?_
    refine x_top (y := iI (i + 1)) (iI_add _ _) ?_
    refine va_sld (i := iI (i + 1)) hx hb hX hbl hbA hS (iI_in (n := L) (by omega)) dL_1767 ?_
    refine x_top ez1 ?_
    refine l_viG (nn := 1) (As := [.int (iI (z1))]) (rest := []) hE hS hAY (s_X9_back l D K ay v' ar' al' hYI  (z1) (by omega)) wPre_blind (wPre_now hK hNY hPY) (x_recv hK hPY 0 (by decide) (yG_9 rfl) rfl) rfl mw_2072 mw_2073 mw_2074 mw_123 mw_2075 (by decide +kernel) ⟨Nat.le_of_ble_eq_true rfl, Nat.le_of_ble_eq_true rfl⟩ hl.1 rfl (Nat.le_of_ble_eq_true rfl) hcc dL_1768 (fun r2 v2 ar2 al2 H2 locs2 hp2 hPY2 hk2 hS2 => ?_)
    have hYI2 : YI v2 ar2 := hp2.2.1
    have hPX2 := w_keep hPX (fun i j hi hj e => hdis j i hj hi e.symm) hk2
    refine lv_pop hx hb dL_1771 rfl ?_
    refine lv_goto (tgt := 1954) hx hb dL_1772 (by decide) ?_
    exact kk ax mm N cells slots v ar al v2 ar2 al2 H2 locs2 ls ⟨hNX, hNY, hAX, hAY, hdis, hPX2, hPY2, hS2, hXI, hYI2, hmd, R_y hR (hp2.2.2.2.1 1 (by decide)) (hp2.2.2.2.1 2 (by decide)) (hp2.2.2.2.1 11 (by decide))⟩ hl
  refine lv_aload_n hx hb dL_1752 rfl (lv_at hl 2 rfl) ?_
  refine lv_aload_n hx hb dL_1753 rfl (lv_at hl 3 rfl) ?_
  refine lv_iload_n hx hb dL_1754 rfl (lv_at hl 0 rfl) ?_
  refine lv_iconst (v := iI (1)) hx hb dL_1755 (by decide) ?_
  refine lv_iadd hx hb dL_1756 ?_
  refine x_top (y := iI (i + 1)) (iI_add _ _) ?_
  refine va_sld (i := iI (i + 1)) hx hb hX hbl hbA hS (iI_in (n := L) (by omega)) dL_1757 ?_
  refine x_top ez1 ?_
  refine l_viG (nn := 1) (As := [.int (iI (z1))]) (rest := []) hE hS hAX (s_X8_back_0 l D K ax mm N hNN v ar al hXI  (xw_1) hxw_1 exw_1 (xw_2) hxw_2 exw_2 (xw_3) hxw_3 exw_3 (z1) (by omega)) wPre_blind (wPre_now hK hNX hPX) (x_recv hK hPX 0 (by omega) (xG_8 rfl) rfl) rfl mw_1295 mw_1296 mw_1297 mw_114 mw_1298 (by decide +kernel) ⟨Nat.le_of_ble_eq_true rfl, Nat.le_of_ble_eq_true rfl⟩ hl.1 rfl (Nat.le_of_ble_eq_true rfl) hcc dL_1758 (fun r1 v1 ar1 al1 H1 locs1 hp1 hPX1 hk1 hS1 => ?_)
  exact cont ax mm N cells slots v1 ar1 al1 H1 locs1 ls r1 hNX hAX hdis hPX1 (w_keep hPY hdis hk1) hS1 hp1.2.1 hmd (R_x hR (fun i j h => hp1.2.2 i j (fl_out (by decide) h))) hl
theorem dL_1775 : decode code 1775 = .ok (.aload_n 1, 1) := by decide +kernel
theorem dL_1776 : decode code 1776 = .ok (.aload_n 0, 1) := by decide +kernel
theorem dL_1777 : decode code 1777 = .ok (.iload_n 3, 1) := by decide +kernel
theorem dL_1778 : decode code 1778 = .ok (.iconst 1, 1) := by decide +kernel
theorem dL_1779 : decode code 1779 = .ok (.iadd, 1) := by decide +kernel
theorem dL_1780 : decode code 1780 = .ok (.iaload, 1) := by decide +kernel
theorem dL_1781 : decode code 1781 = .ok (.aload_n 0, 1) := by decide +kernel
theorem dL_1782 : decode code 1782 = .ok (.iload_n 3, 1) := by decide +kernel
theorem dL_1783 : decode code 1783 = .ok (.iconst 2, 1) := by decide +kernel
theorem dL_1784 : decode code 1784 = .ok (.iadd, 1) := by decide +kernel
theorem dL_1785 : decode code 1785 = .ok (.iaload, 1) := by decide +kernel
theorem dL_1786 : decode code 1786 = .ok (.aload_n 0, 1) := by decide +kernel
theorem dL_1787 : decode code 1787 = .ok (.iload_n 3, 1) := by decide +kernel
theorem dL_1788 : decode code 1788 = .ok (.iconst 3, 1) := by decide +kernel
theorem dL_1789 : decode code 1789 = .ok (.iadd, 1) := by decide +kernel
theorem dL_1790 : decode code 1790 = .ok (.iaload, 1) := by decide +kernel
theorem dL_1791 : decode code 1791 = .ok (.invokevirtual 277, 3) := by decide +kernel
theorem dL_1794 : decode code 1794 = .ok (.pop, 1) := by decide +kernel
theorem dL_1795 : decode code 1795 = .ok (.aload_n 2, 1) := by decide +kernel
theorem dL_1796 : decode code 1796 = .ok (.aload_n 0, 1) := by decide +kernel
theorem dL_1797 : decode code 1797 = .ok (.iload_n 3, 1) := by decide +kernel
theorem dL_1798 : decode code 1798 = .ok (.iconst 1, 1) := by decide +kernel
theorem dL_1799 : decode code 1799 = .ok (.iadd, 1) := by decide +kernel
theorem dL_1800 : decode code 1800 = .ok (.iaload, 1) := by decide +kernel
theorem dL_1801 : decode code 1801 = .ok (.aload_n 0, 1) := by decide +kernel
theorem dL_1802 : decode code 1802 = .ok (.iload_n 3, 1) := by decide +kernel
theorem dL_1803 : decode code 1803 = .ok (.iconst 2, 1) := by decide +kernel
theorem dL_1804 : decode code 1804 = .ok (.iadd, 1) := by decide +kernel
theorem dL_1805 : decode code 1805 = .ok (.iaload, 1) := by decide +kernel
theorem dL_1806 : decode code 1806 = .ok (.aload_n 0, 1) := by decide +kernel
theorem dL_1807 : decode code 1807 = .ok (.iload_n 3, 1) := by decide +kernel
theorem dL_1808 : decode code 1808 = .ok (.iconst 3, 1) := by decide +kernel
theorem dL_1809 : decode code 1809 = .ok (.iadd, 1) := by decide +kernel
theorem dL_1810 : decode code 1810 = .ok (.iaload, 1) := by decide +kernel
theorem dL_1811 : decode code 1811 = .ok (.invokevirtual 281, 3) := by decide +kernel
theorem dL_1814 : decode code 1814 = .ok (.pop, 1) := by decide +kernel
theorem dL_1815 : decode code 1815 = .ok (.goto 139, 3) := by decide +kernel
set_option maxHeartbeats 4000000 in
set_option maxRecDepth 100000 in
theorem lc_65 {p : Program} {l : Launch} {e : Env} {s : State} {m : MethodId} {below : List Frame} {meth : Method} {c : Code} {b L : Nat} {xs : Nat → Int32} {D : va_G} {K : Nat → ClassId} {ay ax : Nat → Nat} {mm : Option Nat} {N cells slots : Nat} {v ar : sI} {al : sL} {v' ar' : sI} {al' : sL} {H : Heap} {locs : List Loc} {ls : Array Slot} {tk tv : Nat → Nat} {i : Int} (hi : 0 ≤ i ∧ i + 6 ≤ (L : Int) ∧ L ≤ 3072) (F : lawF p s m meth c b L xs D K tk tv) (C : lawI s D K ay ax mm N cells slots v ar al v' ar' al' H locs) (hl : lv_has ls 4 [(3, .int (iI i)), (2, .ref (ay 0)), (1, .ref (ax 0)), (0, .ref b)]) (kk : lawK p l e s m below meth c b D K ay i) : W p l e room_1 s m #[Value.ref b] below meth c H locs cells slots (lw_Z below #[Value.ref b] s) (F0 m 1775 ls []) := by
  obtain ⟨C0, hE, hK, hT, hTR⟩ := F
  obtain ⟨hx, hb, hr, hml, hown, hts, hX, hbl, hlocks, hgv⟩ := id C0
  have hbA : ¬ lawA s b := Nat.not_le.mpr hbl
  obtain ⟨hNX, hNY, hAX, hAY, hdis, hPX, hPY, hS, hXI, hYI, hmd, hR⟩ := C
  have hcc := lawM_c hmd
  have hNN := lawM_N hmd
  obtain ⟨z1, hz1, ez1⟩ := iI_of (xs (iI (i + 1)).toNatClampNeg)
  obtain ⟨z2, hz2, ez2⟩ := iI_of (xs (iI (i + 2)).toNatClampNeg)
  obtain ⟨z3, hz3, ez3⟩ := iI_of (xs (iI (i + 3)).toNatClampNeg)
  obtain ⟨vo, evo⟩ : ∃ vo : sI, vo = v := ⟨v, rfl⟩
  have hRo : lawR vo ar al v' ar' al' := by rw [evo]; exact hR
  have cont : ∀ (ax : Nat → Nat) (mm : Option Nat) (N cells slots : Nat) (v ar : sI) (al : sL) (H : Heap) (locs : List Loc) (ls : Array Slot) (r : Int32), apart ax N → (∀ i, i < N → lawA s (ax i)) → (∀ i j, i < N → j < 21 → ax i ≠ ay j) → va_P D xcl (wW ax (xG ax K mm) N v ar al) H → va_P D xcl (wW ay (yG ay K) 21 v' ar' al') H → va_S (lawA s) s.heap H locs → XI v → lawM ax mm N cells slots → RPx (z1) (z2) (z3) vo v → lv_has ls 4 [(3, .int (iI i)), (2, .ref (ay 0)), (1, .ref (ax 0)), (0, .ref b)] → W p l e room_1 s m #[Value.ref b] below meth c H locs cells slots (lw_Z below #[Value.ref b] s) (F0 m 1794 ls [.int r]) := by
    intro ax mm N cells slots v ar al H locs ls r hNX hAX hdis hPX hPY hS hXI hmd hR hl
    have hcc := lawM_c hmd
    refine lv_pop hx hb dL_1794 rfl ?_
    refine lv_aload_n hx hb dL_1795 rfl (lv_at hl 1 rfl) ?_
    refine lv_aload_n hx hb dL_1796 rfl (lv_at hl 3 rfl) ?_
    refine lv_iload_n hx hb dL_1797 rfl (lv_at hl 0 rfl) ?_
    refine lv_iconst (v := iI (1)) hx hb dL_1798 (by decide) ?_
    refine lv_iadd hx hb dL_1799 ?_
    refine x_top (y := iI (i + 1)) (iI_add _ _) ?_
    refine va_sld (i := iI (i + 1)) hx hb hX hbl hbA hS (iI_in (n := L) (by omega)) dL_1800 ?_
    refine x_top ez1 ?_
    refine lv_aload_n hx hb dL_1801 rfl (lv_at hl 3 rfl) ?_
    refine lv_iload_n hx hb dL_1802 rfl (lv_at hl 0 rfl) ?_
    refine lv_iconst (v := iI (2)) hx hb dL_1803 (by decide) ?_
    refine lv_iadd hx hb dL_1804 ?_
    refine x_top (y := iI (i + 2)) (iI_add _ _) ?_
    refine va_sld (i := iI (i + 2)) hx hb hX hbl hbA hS (iI_in (n := L) (by omega)) dL_1805 ?_
    refine x_top ez2 ?_
    refine lv_aload_n hx hb dL_1806 rfl (lv_at hl 3 rfl) ?_
    refine lv_iload_n hx hb dL_1807 rfl (lv_at hl 0 rfl) ?_
    refine lv_iconst (v := iI (3)) hx hb dL_1808 (by decide) ?_
    refine lv_iadd hx hb dL_1809 ?_
    refine x_top (y := iI (i + 3)) (iI_add _ _) ?_
    refine va_sld (i := iI (i + 3)) hx hb hX hbl hbA hS (iI_in (n := L) (by omega)) dL_1810 ?_
    refine x_top ez3 ?_
    refine l_viG (nn := 3) (As := [.int (iI (z1)), .int (iI (z2)), .int (iI (z3))]) (rest := []) hE hS hAY (s_X9_row_f l D K ay v' ar' al' hYI  (z1) (by omega) (z2) (by omega) (z3) (by omega)) wPre_blind (wPre_now hK hNY hPY) (x_recv hK hPY 0 (by decide) (yG_9 rfl) rfl) rfl mw_1486 mw_1487 mw_1488 mw_123 mw_1489 (by decide +kernel) ⟨Nat.le_of_ble_eq_true rfl, Nat.le_of_ble_eq_true rfl⟩ hl.1 rfl (Nat.le_of_ble_eq_true rfl) hcc dL_1811 (fun r2 v2 ar2 al2 H2 locs2 hp2 hPY2 hk2 hS2 => ?_)
    have hYI2 : YI v2 ar2 := hp2.2.1
    have hPX2 := w_keep hPX (fun i j hi hj e => hdis j i hj hi e.symm) hk2
    refine lv_pop hx hb dL_1814 rfl ?_
    refine lv_goto (tgt := 1954) hx hb dL_1815 (by decide) ?_
    exact kk ax mm N cells slots v ar al v2 ar2 al2 H2 locs2 ls ⟨hNX, hNY, hAX, hAY, hdis, hPX2, hPY2, hS2, hXI, hYI2, hmd, R_row hRo hR hp2.2.2.2.2.2 (hp2.2.2.2.1 11 (by decide))⟩ hl
  refine lv_aload_n hx hb dL_1775 rfl (lv_at hl 2 rfl) ?_
  refine lv_aload_n hx hb dL_1776 rfl (lv_at hl 3 rfl) ?_
  refine lv_iload_n hx hb dL_1777 rfl (lv_at hl 0 rfl) ?_
  refine lv_iconst (v := iI (1)) hx hb dL_1778 (by decide) ?_
  refine lv_iadd hx hb dL_1779 ?_
  refine x_top (y := iI (i + 1)) (iI_add _ _) ?_
  refine va_sld (i := iI (i + 1)) hx hb hX hbl hbA hS (iI_in (n := L) (by omega)) dL_1780 ?_
  refine x_top ez1 ?_
  refine lv_aload_n hx hb dL_1781 rfl (lv_at hl 3 rfl) ?_
  refine lv_iload_n hx hb dL_1782 rfl (lv_at hl 0 rfl) ?_
  refine lv_iconst (v := iI (2)) hx hb dL_1783 (by decide) ?_
  refine lv_iadd hx hb dL_1784 ?_
  refine x_top (y := iI (i + 2)) (iI_add _ _) ?_
  refine va_sld (i := iI (i + 2)) hx hb hX hbl hbA hS (iI_in (n := L) (by omega)) dL_1785 ?_
  refine x_top ez2 ?_
  refine lv_aload_n hx hb dL_1786 rfl (lv_at hl 3 rfl) ?_
  refine lv_iload_n hx hb dL_1787 rfl (lv_at hl 0 rfl) ?_
  refine lv_iconst (v := iI (3)) hx hb dL_1788 (by decide) ?_
  refine lv_iadd hx hb dL_1789 ?_
  refine x_top (y := iI (i + 3)) (iI_add _ _) ?_
  refine va_sld (i := iI (i + 3)) hx hb hX hbl hbA hS (iI_in (n := L) (by omega)) dL_1790 ?_
  refine x_top ez3 ?_
  refine l_viG (nn := 3) (As := [.int (iI (z1)), .int (iI (z2)), .int (iI (z3))]) (rest := []) hE hS hAX (k_X8_row_0 l D K ax mm N hNN v ar al hXI   (z1) (by omega) (z2) (by omega) (z3) (by omega)) wPre_blind (wPre_now hK hNX hPX) (x_recv hK hPX 0 (by omega) (xG_8 rfl) rfl) rfl mw_1299 mw_1300 mw_1301 mw_114 mw_1302 (by decide +kernel) ⟨Nat.le_of_ble_eq_true rfl, Nat.le_of_ble_eq_true rfl⟩ hl.1 rfl (Nat.le_of_ble_eq_true rfl) hcc dL_1791 (fun r1 v1 ar1 al1 H1 locs1 hp1 hPX1 hk1 hS1 => ?_)
  exact cont ax mm N cells slots v1 ar1 al1 H1 locs1 ls r1 hNX hAX hdis hPX1 (w_keep hPY hdis hk1) hS1 hp1.2.1 hmd (by rw [evo]; exact hp1.2.2.2) hl
theorem dL_1818 : decode code 1818 = .ok (.aload_n 1, 1) := by decide +kernel
theorem dL_1819 : decode code 1819 = .ok (.aload_n 0, 1) := by decide +kernel
theorem dL_1820 : decode code 1820 = .ok (.iload_n 3, 1) := by decide +kernel
theorem dL_1821 : decode code 1821 = .ok (.iconst 1, 1) := by decide +kernel
theorem dL_1822 : decode code 1822 = .ok (.iadd, 1) := by decide +kernel
theorem dL_1823 : decode code 1823 = .ok (.iaload, 1) := by decide +kernel
theorem dL_1824 : decode code 1824 = .ok (.aload_n 0, 1) := by decide +kernel
theorem dL_1825 : decode code 1825 = .ok (.iload_n 3, 1) := by decide +kernel
theorem dL_1826 : decode code 1826 = .ok (.iconst 2, 1) := by decide +kernel
theorem dL_1827 : decode code 1827 = .ok (.iadd, 1) := by decide +kernel
theorem dL_1828 : decode code 1828 = .ok (.iaload, 1) := by decide +kernel
theorem dL_1829 : decode code 1829 = .ok (.aload_n 0, 1) := by decide +kernel
theorem dL_1830 : decode code 1830 = .ok (.iload_n 3, 1) := by decide +kernel
theorem dL_1831 : decode code 1831 = .ok (.iconst 3, 1) := by decide +kernel
theorem dL_1832 : decode code 1832 = .ok (.iadd, 1) := by decide +kernel
theorem dL_1833 : decode code 1833 = .ok (.iaload, 1) := by decide +kernel
theorem dL_1834 : decode code 1834 = .ok (.i2l, 1) := by decide +kernel
theorem dL_1835 : decode code 1835 = .ok (.bipush 32, 2) := by decide +kernel
theorem dL_1837 : decode code 1837 = .ok (.lshl, 1) := by decide +kernel
theorem dL_1838 : decode code 1838 = .ok (.aload_n 0, 1) := by decide +kernel
theorem dL_1839 : decode code 1839 = .ok (.iload_n 3, 1) := by decide +kernel
theorem dL_1840 : decode code 1840 = .ok (.iconst 4, 1) := by decide +kernel
theorem dL_1841 : decode code 1841 = .ok (.iadd, 1) := by decide +kernel
theorem dL_1842 : decode code 1842 = .ok (.iaload, 1) := by decide +kernel
theorem dL_1843 : decode code 1843 = .ok (.i2l, 1) := by decide +kernel
theorem dL_1844 : decode code 1844 = .ok (.ldc2_w 282, 3) := by decide +kernel
theorem dL_1847 : decode code 1847 = .ok (.land, 1) := by decide +kernel
theorem dL_1848 : decode code 1848 = .ok (.lor, 1) := by decide +kernel
theorem dL_1849 : decode code 1849 = .ok (.invokevirtual 284, 3) := by decide +kernel
theorem dL_1852 : decode code 1852 = .ok (.aload_n 2, 1) := by decide +kernel
theorem dL_1853 : decode code 1853 = .ok (.aload_n 0, 1) := by decide +kernel
theorem dL_1854 : decode code 1854 = .ok (.iload_n 3, 1) := by decide +kernel
theorem dL_1855 : decode code 1855 = .ok (.iconst 1, 1) := by decide +kernel
theorem dL_1856 : decode code 1856 = .ok (.iadd, 1) := by decide +kernel
theorem dL_1857 : decode code 1857 = .ok (.iaload, 1) := by decide +kernel
theorem dL_1858 : decode code 1858 = .ok (.aload_n 0, 1) := by decide +kernel
theorem dL_1859 : decode code 1859 = .ok (.iload_n 3, 1) := by decide +kernel
theorem dL_1860 : decode code 1860 = .ok (.iconst 2, 1) := by decide +kernel
theorem dL_1861 : decode code 1861 = .ok (.iadd, 1) := by decide +kernel
theorem dL_1862 : decode code 1862 = .ok (.iaload, 1) := by decide +kernel
theorem dL_1863 : decode code 1863 = .ok (.aload_n 0, 1) := by decide +kernel
theorem dL_1864 : decode code 1864 = .ok (.iload_n 3, 1) := by decide +kernel
theorem dL_1865 : decode code 1865 = .ok (.iconst 3, 1) := by decide +kernel
theorem dL_1866 : decode code 1866 = .ok (.iadd, 1) := by decide +kernel
theorem dL_1867 : decode code 1867 = .ok (.iaload, 1) := by decide +kernel
theorem dL_1868 : decode code 1868 = .ok (.i2l, 1) := by decide +kernel
theorem dL_1869 : decode code 1869 = .ok (.bipush 32, 2) := by decide +kernel
theorem dL_1871 : decode code 1871 = .ok (.lshl, 1) := by decide +kernel
theorem dL_1872 : decode code 1872 = .ok (.aload_n 0, 1) := by decide +kernel
theorem dL_1873 : decode code 1873 = .ok (.iload_n 3, 1) := by decide +kernel
theorem dL_1874 : decode code 1874 = .ok (.iconst 4, 1) := by decide +kernel
theorem dL_1875 : decode code 1875 = .ok (.iadd, 1) := by decide +kernel
theorem dL_1876 : decode code 1876 = .ok (.iaload, 1) := by decide +kernel
theorem dL_1877 : decode code 1877 = .ok (.i2l, 1) := by decide +kernel
theorem dL_1878 : decode code 1878 = .ok (.ldc2_w 282, 3) := by decide +kernel
theorem dL_1881 : decode code 1881 = .ok (.land, 1) := by decide +kernel
theorem dL_1882 : decode code 1882 = .ok (.lor, 1) := by decide +kernel
theorem dL_1883 : decode code 1883 = .ok (.invokevirtual 288, 3) := by decide +kernel
theorem dL_1886 : decode code 1886 = .ok (.if_icmp .eq 68, 3) := by decide +kernel
set_option maxHeartbeats 4000000 in
set_option maxRecDepth 100000 in
theorem lc_66 {p : Program} {l : Launch} {e : Env} {s : State} {m : MethodId} {below : List Frame} {meth : Method} {c : Code} {b L : Nat} {xs : Nat → Int32} {D : va_G} {K : Nat → ClassId} {ay ax : Nat → Nat} {mm : Option Nat} {N cells slots : Nat} {v ar : sI} {al : sL} {v' ar' : sI} {al' : sL} {H : Heap} {locs : List Loc} {ls : Array Slot} {tk tv : Nat → Nat} {i : Int} (hi : 0 ≤ i ∧ i + 6 ≤ (L : Int) ∧ L ≤ 3072) (F : lawF p s m meth c b L xs D K tk tv) (C : lawI s D K ay ax mm N cells slots v ar al v' ar' al' H locs) (hl : lv_has ls 4 [(3, .int (iI i)), (2, .ref (ay 0)), (1, .ref (ax 0)), (0, .ref b)]) (kk : lawK p l e s m below meth c b D K ay i) : W p l e room_1 s m #[Value.ref b] below meth c H locs cells slots (lw_Z below #[Value.ref b] s) (F0 m 1818 ls []) := by
  obtain ⟨C0, hE, hK, hT, hTR⟩ := F
  obtain ⟨hx, hb, hr, hml, hown, hts, hX, hbl, hlocks, hgv⟩ := id C0
  have hbA : ¬ lawA s b := Nat.not_le.mpr hbl
  obtain ⟨hNX, hNY, hAX, hAY, hdis, hPX, hPY, hS, hXI, hYI, hmd, hR⟩ := C
  have hcc := lawM_c hmd
  have hNN := lawM_N hmd
  obtain ⟨z1, hz1, ez1⟩ := iI_of (xs (iI (i + 1)).toNatClampNeg)
  obtain ⟨z2, hz2, ez2⟩ := iI_of (xs (iI (i + 2)).toNatClampNeg)
  obtain ⟨z3, hz3, ez3⟩ := iI_of (xs (iI (i + 3)).toNatClampNeg)
  obtain ⟨z4, hz4, ez4⟩ := lI_of (lI (z3) <<< ((iI (32)).toInt64 &&& 63))
  obtain ⟨z5, hz5, ez5⟩ := iI_of (xs (iI (i + 4)).toNatClampNeg)
  obtain ⟨z6, hz6, ez6⟩ := lI_of (lI (z5) &&& lI (4294967295))
  obtain ⟨z7, hz7, ez7⟩ := lI_of (lI (z4) ||| lI (z6))
  obtain ⟨xw_1, hxw_1, exw_1⟩ := XI_get hXI 67 2 (-1) (60) (by decide)
  obtain ⟨xw_2, hxw_2, exw_2⟩ := XI_get hXI 69 2 (-1) (60) (by decide)
  obtain ⟨xw_3, hxw_3, exw_3⟩ := XI_get hXI 71 2 (-1) (60) (by decide)
  obtain ⟨xw_4, hxw_4, exw_4⟩ := XI_get hXI 73 2 (-1) (60) (by decide)
  obtain ⟨g1, hg1, eg1⟩ := YI_a1 hYI ((iI (z1)).toNatClampNeg)
  obtain ⟨g2, hg2, eg2⟩ := YI_a2 hYI ((iI (z1)).toNatClampNeg)
  have hget := R_write hR exw_1 hxw_1 exw_2 hxw_2 exw_3 hxw_3 exw_4 hxw_4 eg1 hg1 eg2 hg2
  have cont : ∀ (ax : Nat → Nat) (mm : Option Nat) (N cells slots : Nat) (v ar : sI) (al : sL) (H : Heap) (locs : List Loc) (ls : Array Slot) (r : Int) (hrr : -2147483648 ≤ r ∧ r ≤ 2147483647) (hrc : ((((z1) < 0 ∨ 3 < (z1)) ∧ r = -2) ∨ ((z1) = 0 ∧ ((xw_1 < 0 ∧ r = -6) ∨ (0 ≤ xw_1 ∧ ((z2) < 0 ∨ xw_1 ≤ (z2)) ∧ r = -7) ∨ (0 ≤ (z2) ∧ (z2) < xw_1 ∧ r = 0))) ∨ ((z1) = 1 ∧ ((xw_2 < 0 ∧ r = -6) ∨ (0 ≤ xw_2 ∧ ((z2) < 0 ∨ xw_2 ≤ (z2)) ∧ r = -7) ∨ (0 ≤ (z2) ∧ (z2) < xw_2 ∧ r = 0))) ∨ ((z1) = 2 ∧ ((xw_3 < 0 ∧ r = -6) ∨ (0 ≤ xw_3 ∧ ((z2) < 0 ∨ xw_3 ≤ (z2)) ∧ r = -7) ∨ (0 ≤ (z2) ∧ (z2) < xw_3 ∧ r = 0))) ∨ ((z1) = 3 ∧ ((xw_4 < 0 ∧ r = -6) ∨ (0 ≤ xw_4 ∧ ((z2) < 0 ∨ xw_4 ≤ (z2)) ∧ r = -7) ∨ (0 ≤ (z2) ∧ (z2) < xw_4 ∧ r = 0))))), apart ax N → (∀ i, i < N → lawA s (ax i)) → (∀ i j, i < N → j < 21 → ax i ≠ ay j) → va_P D xcl (wW ax (xG ax K mm) N v ar al) H → va_P D xcl (wW ay (yG ay K) 21 v' ar' al') H → va_S (lawA s) s.heap H locs → XI v → lawM ax mm N cells slots → lawR v ar al v' ar' al' → lv_has ls 4 [(3, .int (iI i)), (2, .ref (ay 0)), (1, .ref (ax 0)), (0, .ref b)] → W p l e room_1 s m #[Value.ref b] below meth c H locs cells slots (lw_Z below #[Value.ref b] s) (F0 m 1852 ls [.int (iI (r))]) := by
    intro ax mm N cells slots v ar al H locs ls r hrr hrc hNX hAX hdis hPX hPY hS hXI hmd hR hl
    have hcc := lawM_c hmd
    refine lv_aload_n hx hb dL_1852 rfl (lv_at hl 1 rfl) ?_
    refine lv_aload_n hx hb dL_1853 rfl (lv_at hl 3 rfl) ?_
    refine lv_iload_n hx hb dL_1854 rfl (lv_at hl 0 rfl) ?_
    refine lv_iconst (v := iI (1)) hx hb dL_1855 (by decide) ?_
    refine lv_iadd hx hb dL_1856 ?_
    refine x_top (y := iI (i + 1)) (iI_add _ _) ?_
    refine va_sld (i := iI (i + 1)) hx hb hX hbl hbA hS (iI_in (n := L) (by omega)) dL_1857 ?_
    refine x_top ez1 ?_
    refine lv_aload_n hx hb dL_1858 rfl (lv_at hl 3 rfl) ?_
    refine lv_iload_n hx hb dL_1859 rfl (lv_at hl 0 rfl) ?_
    refine lv_iconst (v := iI (2)) hx hb dL_1860 (by decide) ?_
    refine lv_iadd hx hb dL_1861 ?_
    refine x_top (y := iI (i + 2)) (iI_add _ _) ?_
    refine va_sld (i := iI (i + 2)) hx hb hX hbl hbA hS (iI_in (n := L) (by omega)) dL_1862 ?_
    refine x_top ez2 ?_
    refine lv_aload_n hx hb dL_1863 rfl (lv_at hl 3 rfl) ?_
    refine lv_iload_n hx hb dL_1864 rfl (lv_at hl 0 rfl) ?_
    refine lv_iconst (v := iI (3)) hx hb dL_1865 (by decide) ?_
    refine lv_iadd hx hb dL_1866 ?_
    refine x_top (y := iI (i + 3)) (iI_add _ _) ?_
    refine va_sld (i := iI (i + 3)) hx hb hX hbl hbA hS (iI_in (n := L) (by omega)) dL_1867 ?_
    refine x_top ez3 ?_
    refine lv_i2l (v := lI (z3)) hx hb dL_1868 (iI_i2l (by omega)) ?_
    refine lv_bipush (v := iI (32)) hx hb dL_1869 (by decide) ?_
    refine lv_lshl (v := lI (z4)) hx hb dL_1871 ez4 ?_
    refine lv_aload_n hx hb dL_1872 rfl (lv_at hl 3 rfl) ?_
    refine lv_iload_n hx hb dL_1873 rfl (lv_at hl 0 rfl) ?_
    refine lv_iconst (v := iI (4)) hx hb dL_1874 (by decide) ?_
    refine lv_iadd hx hb dL_1875 ?_
    refine x_top (y := iI (i + 4)) (iI_add _ _) ?_
    refine va_sld (i := iI (i + 4)) hx hb hX hbl hbA hS (iI_in (n := L) (by omega)) dL_1876 ?_
    refine x_top ez5 ?_
    refine lv_i2l (v := lI (z5)) hx hb dL_1877 (iI_i2l (by omega)) ?_
    refine lv_ldc2 (v := 4294967295) hx hb hE.2.2.2.1 (hE.2.2.2.2 _ mw_2076) dL_1878 ?_
    refine x_topl (y := lI (4294967295)) (by decide) ?_
    refine lv_land hx hb dL_1881 ?_
    refine x_topl ez6 ?_
    refine lv_lor hx hb dL_1882 ?_
    refine x_topl ez7 ?_
    refine l_viG (nn := 3) (As := [.int (iI (z1)), .int (iI (z2)), .long (lI (z7))]) (rest := [.int (iI (r))]) hE hS hAY (s_X9_write_f l D K ay v' ar' al' hYI  (z1) (by omega) (z2) (by omega) (z7) (by omega) (g1) hg1 (g2) hg2 eg1 eg2) wPre_blind (wPre_now hK hNY hPY) (x_recv hK hPY 0 (by decide) (yG_9 rfl) rfl) rfl mw_1497 mw_1498 mw_1499 mw_123 mw_1500 (by decide +kernel) ⟨Nat.le_of_ble_eq_true rfl, Nat.le_of_ble_eq_true rfl⟩ hl.1 rfl (Nat.le_of_ble_eq_true rfl) hcc dL_1883 (fun r2 v2 ar2 al2 H2 locs2 hp2 hPY2 hk2 hS2 => ?_)
    have hYI2 : YI v2 ar2 := hp2.2.1
    have hPX2 := w_keep hPX (fun i j hi hj e => hdis j i hj hi e.symm) hk2
    obtain ⟨z2, hz2, er2⟩ := hp2.1
    have er2 : r2 = iI z2 := er2
    rw [er2]
    have hz2 := hz2
    refine s_icmp_eq (a := r) (b := z2) (tgt := 1954) hx hb (by omega) (by omega) dL_1886 (by decide) (fun _ => ?_) (fun c => False.elim (by omega))
    exact kk ax mm N cells slots v ar al v2 ar2 al2 H2 locs2 ls ⟨hNX, hNY, hAX, hAY, hdis, hPX2, hPY2, hS2, hXI, hYI2, hmd, R_y hR (hp2.2.2.2.1 1 (by decide)) (hp2.2.2.2.1 2 (by decide)) (hp2.2.2.2.1 11 (by decide))⟩ hl
  refine lv_aload_n hx hb dL_1818 rfl (lv_at hl 2 rfl) ?_
  refine lv_aload_n hx hb dL_1819 rfl (lv_at hl 3 rfl) ?_
  refine lv_iload_n hx hb dL_1820 rfl (lv_at hl 0 rfl) ?_
  refine lv_iconst (v := iI (1)) hx hb dL_1821 (by decide) ?_
  refine lv_iadd hx hb dL_1822 ?_
  refine x_top (y := iI (i + 1)) (iI_add _ _) ?_
  refine va_sld (i := iI (i + 1)) hx hb hX hbl hbA hS (iI_in (n := L) (by omega)) dL_1823 ?_
  refine x_top ez1 ?_
  refine lv_aload_n hx hb dL_1824 rfl (lv_at hl 3 rfl) ?_
  refine lv_iload_n hx hb dL_1825 rfl (lv_at hl 0 rfl) ?_
  refine lv_iconst (v := iI (2)) hx hb dL_1826 (by decide) ?_
  refine lv_iadd hx hb dL_1827 ?_
  refine x_top (y := iI (i + 2)) (iI_add _ _) ?_
  refine va_sld (i := iI (i + 2)) hx hb hX hbl hbA hS (iI_in (n := L) (by omega)) dL_1828 ?_
  refine x_top ez2 ?_
  refine lv_aload_n hx hb dL_1829 rfl (lv_at hl 3 rfl) ?_
  refine lv_iload_n hx hb dL_1830 rfl (lv_at hl 0 rfl) ?_
  refine lv_iconst (v := iI (3)) hx hb dL_1831 (by decide) ?_
  refine lv_iadd hx hb dL_1832 ?_
  refine x_top (y := iI (i + 3)) (iI_add _ _) ?_
  refine va_sld (i := iI (i + 3)) hx hb hX hbl hbA hS (iI_in (n := L) (by omega)) dL_1833 ?_
  refine x_top ez3 ?_
  refine lv_i2l (v := lI (z3)) hx hb dL_1834 (iI_i2l (by omega)) ?_
  refine lv_bipush (v := iI (32)) hx hb dL_1835 (by decide) ?_
  refine lv_lshl (v := lI (z4)) hx hb dL_1837 ez4 ?_
  refine lv_aload_n hx hb dL_1838 rfl (lv_at hl 3 rfl) ?_
  refine lv_iload_n hx hb dL_1839 rfl (lv_at hl 0 rfl) ?_
  refine lv_iconst (v := iI (4)) hx hb dL_1840 (by decide) ?_
  refine lv_iadd hx hb dL_1841 ?_
  refine x_top (y := iI (i + 4)) (iI_add _ _) ?_
  refine va_sld (i := iI (i + 4)) hx hb hX hbl hbA hS (iI_in (n := L) (by omega)) dL_1842 ?_
  refine x_top ez5 ?_
  refine lv_i2l (v := lI (z5)) hx hb dL_1843 (iI_i2l (by omega)) ?_
  refine lv_ldc2 (v := 4294967295) hx hb hE.2.2.2.1 (hE.2.2.2.2 _ mw_2076) dL_1844 ?_
  refine x_topl (y := lI (4294967295)) (by decide) ?_
  refine lv_land hx hb dL_1847 ?_
  refine x_topl ez6 ?_
  refine lv_lor hx hb dL_1848 ?_
  refine x_topl ez7 ?_
  refine l_viG (nn := 3) (As := [.int (iI (z1)), .int (iI (z2)), .long (lI (z7))]) (rest := []) hE hS hAX (s_X8_write_0 l D K ax mm N hNN v ar al hXI  (xw_1) hxw_1 exw_1 (xw_2) hxw_2 exw_2 (xw_3) hxw_3 exw_3 (xw_4) hxw_4 exw_4 (z1) (by omega) (z2) (by omega) (z7) (by omega)) wPre_blind (wPre_now hK hNX hPX) (x_recv hK hPX 0 (by omega) (xG_8 rfl) rfl) rfl mw_1310 mw_1311 mw_1312 mw_114 mw_1313 (by decide +kernel) ⟨Nat.le_of_ble_eq_true rfl, Nat.le_of_ble_eq_true rfl⟩ hl.1 rfl (Nat.le_of_ble_eq_true rfl) hcc dL_1849 (fun r1 v1 ar1 al1 H1 locs1 hp1 hPX1 hk1 hS1 => ?_)
  obtain ⟨zr, hzr, er⟩ := hp1.1
  have er : r1 = iI zr := er
  rw [er]
  exact cont ax mm N cells slots v1 ar1 al1 H1 locs1 ls zr (by omega) hzr hNX hAX hdis hPX1 (w_keep hPY hdis hk1) hS1 hp1.2.1 hmd (R_x hR (fun i j h => hp1.2.2 i j (fl_out (by decide) h))) hl
theorem dL_1891 : decode code 1891 = .ok (.aload_n 1, 1) := by decide +kernel
theorem dL_1892 : decode code 1892 = .ok (.aload_n 0, 1) := by decide +kernel
theorem dL_1893 : decode code 1893 = .ok (.iload_n 3, 1) := by decide +kernel
theorem dL_1894 : decode code 1894 = .ok (.iconst 1, 1) := by decide +kernel
theorem dL_1895 : decode code 1895 = .ok (.iadd, 1) := by decide +kernel
theorem dL_1896 : decode code 1896 = .ok (.iaload, 1) := by decide +kernel
theorem dL_1897 : decode code 1897 = .ok (.aload_n 0, 1) := by decide +kernel
theorem dL_1898 : decode code 1898 = .ok (.iload_n 3, 1) := by decide +kernel
theorem dL_1899 : decode code 1899 = .ok (.iconst 2, 1) := by decide +kernel
theorem dL_1900 : decode code 1900 = .ok (.iadd, 1) := by decide +kernel
theorem dL_1901 : decode code 1901 = .ok (.iaload, 1) := by decide +kernel
theorem dL_1902 : decode code 1902 = .ok (.aload_n 0, 1) := by decide +kernel
theorem dL_1903 : decode code 1903 = .ok (.iload_n 3, 1) := by decide +kernel
theorem dL_1904 : decode code 1904 = .ok (.iconst 3, 1) := by decide +kernel
theorem dL_1905 : decode code 1905 = .ok (.iadd, 1) := by decide +kernel
theorem dL_1906 : decode code 1906 = .ok (.iaload, 1) := by decide +kernel
theorem dL_1907 : decode code 1907 = .ok (.aload_n 0, 1) := by decide +kernel
theorem dL_1908 : decode code 1908 = .ok (.iload_n 3, 1) := by decide +kernel
theorem dL_1909 : decode code 1909 = .ok (.iconst 4, 1) := by decide +kernel
theorem dL_1910 : decode code 1910 = .ok (.iadd, 1) := by decide +kernel
theorem dL_1911 : decode code 1911 = .ok (.iaload, 1) := by decide +kernel
theorem dL_1912 : decode code 1912 = .ok (.aload_n 0, 1) := by decide +kernel
theorem dL_1913 : decode code 1913 = .ok (.iload_n 3, 1) := by decide +kernel
theorem dL_1914 : decode code 1914 = .ok (.iconst 5, 1) := by decide +kernel
theorem dL_1915 : decode code 1915 = .ok (.iadd, 1) := by decide +kernel
theorem dL_1916 : decode code 1916 = .ok (.iaload, 1) := by decide +kernel
theorem dL_1917 : decode code 1917 = .ok (.invokevirtual 289, 3) := by decide +kernel
theorem dL_1920 : decode code 1920 = .ok (.pop, 1) := by decide +kernel
theorem dL_1921 : decode code 1921 = .ok (.aload_n 2, 1) := by decide +kernel
theorem dL_1922 : decode code 1922 = .ok (.aload_n 0, 1) := by decide +kernel
theorem dL_1923 : decode code 1923 = .ok (.iload_n 3, 1) := by decide +kernel
theorem dL_1924 : decode code 1924 = .ok (.iconst 1, 1) := by decide +kernel
theorem dL_1925 : decode code 1925 = .ok (.iadd, 1) := by decide +kernel
theorem dL_1926 : decode code 1926 = .ok (.iaload, 1) := by decide +kernel
theorem dL_1927 : decode code 1927 = .ok (.aload_n 0, 1) := by decide +kernel
theorem dL_1928 : decode code 1928 = .ok (.iload_n 3, 1) := by decide +kernel
theorem dL_1929 : decode code 1929 = .ok (.iconst 2, 1) := by decide +kernel
theorem dL_1930 : decode code 1930 = .ok (.iadd, 1) := by decide +kernel
theorem dL_1931 : decode code 1931 = .ok (.iaload, 1) := by decide +kernel
theorem dL_1932 : decode code 1932 = .ok (.aload_n 0, 1) := by decide +kernel
theorem dL_1933 : decode code 1933 = .ok (.iload_n 3, 1) := by decide +kernel
theorem dL_1934 : decode code 1934 = .ok (.iconst 3, 1) := by decide +kernel
theorem dL_1935 : decode code 1935 = .ok (.iadd, 1) := by decide +kernel
theorem dL_1936 : decode code 1936 = .ok (.iaload, 1) := by decide +kernel
theorem dL_1937 : decode code 1937 = .ok (.aload_n 0, 1) := by decide +kernel
theorem dL_1938 : decode code 1938 = .ok (.iload_n 3, 1) := by decide +kernel
theorem dL_1939 : decode code 1939 = .ok (.iconst 4, 1) := by decide +kernel
theorem dL_1940 : decode code 1940 = .ok (.iadd, 1) := by decide +kernel
theorem dL_1941 : decode code 1941 = .ok (.iaload, 1) := by decide +kernel
theorem dL_1942 : decode code 1942 = .ok (.aload_n 0, 1) := by decide +kernel
theorem dL_1943 : decode code 1943 = .ok (.iload_n 3, 1) := by decide +kernel
theorem dL_1944 : decode code 1944 = .ok (.iconst 5, 1) := by decide +kernel
theorem dL_1945 : decode code 1945 = .ok (.iadd, 1) := by decide +kernel
theorem dL_1946 : decode code 1946 = .ok (.iaload, 1) := by decide +kernel
theorem dL_1947 : decode code 1947 = .ok (.invokevirtual 292, 3) := by decide +kernel
theorem dL_1950 : decode code 1950 = .ok (.pop, 1) := by decide +kernel
theorem dL_1951 : decode code 1951 = .ok (.goto 3, 3) := by decide +kernel
set_option maxHeartbeats 4000000 in
set_option maxRecDepth 100000 in
theorem lc_67 {p : Program} {l : Launch} {e : Env} {s : State} {m : MethodId} {below : List Frame} {meth : Method} {c : Code} {b L : Nat} {xs : Nat → Int32} {D : va_G} {K : Nat → ClassId} {ay ax : Nat → Nat} {mm : Option Nat} {N cells slots : Nat} {v ar : sI} {al : sL} {v' ar' : sI} {al' : sL} {H : Heap} {locs : List Loc} {ls : Array Slot} {tk tv : Nat → Nat} {i : Int} (hi : 0 ≤ i ∧ i + 6 ≤ (L : Int) ∧ L ≤ 3072) (F : lawF p s m meth c b L xs D K tk tv) (C : lawI s D K ay ax mm N cells slots v ar al v' ar' al' H locs) (hl : lv_has ls 4 [(3, .int (iI i)), (2, .ref (ay 0)), (1, .ref (ax 0)), (0, .ref b)]) (kk : lawK p l e s m below meth c b D K ay i) : W p l e room_1 s m #[Value.ref b] below meth c H locs cells slots (lw_Z below #[Value.ref b] s) (F0 m 1891 ls []) := by
  obtain ⟨C0, hE, hK, hT, hTR⟩ := F
  obtain ⟨hx, hb, hr, hml, hown, hts, hX, hbl, hlocks, hgv⟩ := id C0
  have hbA : ¬ lawA s b := Nat.not_le.mpr hbl
  obtain ⟨hNX, hNY, hAX, hAY, hdis, hPX, hPY, hS, hXI, hYI, hmd, hR⟩ := C
  have hcc := lawM_c hmd
  have hNN := lawM_N hmd
  obtain ⟨z1, hz1, ez1⟩ := iI_of (xs (iI (i + 1)).toNatClampNeg)
  obtain ⟨z2, hz2, ez2⟩ := iI_of (xs (iI (i + 2)).toNatClampNeg)
  obtain ⟨z3, hz3, ez3⟩ := iI_of (xs (iI (i + 3)).toNatClampNeg)
  obtain ⟨z4, hz4, ez4⟩ := iI_of (xs (iI (i + 4)).toNatClampNeg)
  obtain ⟨z5, hz5, ez5⟩ := iI_of (xs (iI (i + 5)).toNatClampNeg)
  have cont : ∀ (ax : Nat → Nat) (mm : Option Nat) (N cells slots : Nat) (v ar : sI) (al : sL) (H : Heap) (locs : List Loc) (ls : Array Slot) (r : Int32), apart ax N → (∀ i, i < N → lawA s (ax i)) → (∀ i j, i < N → j < 21 → ax i ≠ ay j) → va_P D xcl (wW ax (xG ax K mm) N v ar al) H → va_P D xcl (wW ay (yG ay K) 21 v' ar' al') H → va_S (lawA s) s.heap H locs → XI v → lawM ax mm N cells slots → lawR v ar al v' ar' al' → lv_has ls 4 [(3, .int (iI i)), (2, .ref (ay 0)), (1, .ref (ax 0)), (0, .ref b)] → W p l e room_1 s m #[Value.ref b] below meth c H locs cells slots (lw_Z below #[Value.ref b] s) (F0 m 1920 ls [.int r]) := by
    intro ax mm N cells slots v ar al H locs ls r hNX hAX hdis hPX hPY hS hXI hmd hR hl
    have hcc := lawM_c hmd
    refine lv_pop hx hb dL_1920 rfl ?_
    refine lv_aload_n hx hb dL_1921 rfl (lv_at hl 1 rfl) ?_
    refine lv_aload_n hx hb dL_1922 rfl (lv_at hl 3 rfl) ?_
    refine lv_iload_n hx hb dL_1923 rfl (lv_at hl 0 rfl) ?_
    refine lv_iconst (v := iI (1)) hx hb dL_1924 (by decide) ?_
    refine lv_iadd hx hb dL_1925 ?_
    refine x_top (y := iI (i + 1)) (iI_add _ _) ?_
    refine va_sld (i := iI (i + 1)) hx hb hX hbl hbA hS (iI_in (n := L) (by omega)) dL_1926 ?_
    refine x_top ez1 ?_
    refine lv_aload_n hx hb dL_1927 rfl (lv_at hl 3 rfl) ?_
    refine lv_iload_n hx hb dL_1928 rfl (lv_at hl 0 rfl) ?_
    refine lv_iconst (v := iI (2)) hx hb dL_1929 (by decide) ?_
    refine lv_iadd hx hb dL_1930 ?_
    refine x_top (y := iI (i + 2)) (iI_add _ _) ?_
    refine va_sld (i := iI (i + 2)) hx hb hX hbl hbA hS (iI_in (n := L) (by omega)) dL_1931 ?_
    refine x_top ez2 ?_
    refine lv_aload_n hx hb dL_1932 rfl (lv_at hl 3 rfl) ?_
    refine lv_iload_n hx hb dL_1933 rfl (lv_at hl 0 rfl) ?_
    refine lv_iconst (v := iI (3)) hx hb dL_1934 (by decide) ?_
    refine lv_iadd hx hb dL_1935 ?_
    refine x_top (y := iI (i + 3)) (iI_add _ _) ?_
    refine va_sld (i := iI (i + 3)) hx hb hX hbl hbA hS (iI_in (n := L) (by omega)) dL_1936 ?_
    refine x_top ez3 ?_
    refine lv_aload_n hx hb dL_1937 rfl (lv_at hl 3 rfl) ?_
    refine lv_iload_n hx hb dL_1938 rfl (lv_at hl 0 rfl) ?_
    refine lv_iconst (v := iI (4)) hx hb dL_1939 (by decide) ?_
    refine lv_iadd hx hb dL_1940 ?_
    refine x_top (y := iI (i + 4)) (iI_add _ _) ?_
    refine va_sld (i := iI (i + 4)) hx hb hX hbl hbA hS (iI_in (n := L) (by omega)) dL_1941 ?_
    refine x_top ez4 ?_
    refine lv_aload_n hx hb dL_1942 rfl (lv_at hl 3 rfl) ?_
    refine lv_iload_n hx hb dL_1943 rfl (lv_at hl 0 rfl) ?_
    refine lv_iconst (v := iI (5)) hx hb dL_1944 (by decide) ?_
    refine lv_iadd hx hb dL_1945 ?_
    refine x_top (y := iI (i + 5)) (iI_add _ _) ?_
    refine va_sld (i := iI (i + 5)) hx hb hX hbl hbA hS (iI_in (n := L) (by omega)) dL_1946 ?_
    refine x_top ez5 ?_
    refine l_viG (nn := 5) (As := [.int (iI (z1)), .int (iI (z2)), .int (iI (z3)), .int (iI (z4)), .int (iI (z5))]) (rest := []) hE hS hAY (s_X9_paste l D K ay v' ar' al' hYI  (z1) (by omega) (z2) (by omega) (z3) (by omega) (z4) (by omega) (z5) (by omega)) wPre_blind (wPre_now hK hNY hPY) (x_recv hK hPY 0 (by decide) (yG_9 rfl) rfl) rfl mw_1504 mw_1505 mw_1506 mw_123 mw_1507 (by decide +kernel) ⟨Nat.le_of_ble_eq_true rfl, Nat.le_of_ble_eq_true rfl⟩ hl.1 rfl (Nat.le_of_ble_eq_true rfl) hcc dL_1947 (fun r2 v2 ar2 al2 H2 locs2 hp2 hPY2 hk2 hS2 => ?_)
    have hYI2 : YI v2 ar2 := hp2.2.1
    have hPX2 := w_keep hPX (fun i j hi hj e => hdis j i hj hi e.symm) hk2
    refine lv_pop hx hb dL_1950 rfl ?_
    refine lv_goto (tgt := 1954) hx hb dL_1951 (by decide) ?_
    exact kk ax mm N cells slots v ar al v2 ar2 al2 H2 locs2 ls ⟨hNX, hNY, hAX, hAY, hdis, hPX2, hPY2, hS2, hXI, hYI2, hmd, R_y hR (hp2.2.2.2.1 1 (by decide)) (hp2.2.2.2.1 2 (by decide)) (hp2.2.2.2.1 11 (by decide))⟩ hl
  refine lv_aload_n hx hb dL_1891 rfl (lv_at hl 2 rfl) ?_
  refine lv_aload_n hx hb dL_1892 rfl (lv_at hl 3 rfl) ?_
  refine lv_iload_n hx hb dL_1893 rfl (lv_at hl 0 rfl) ?_
  refine lv_iconst (v := iI (1)) hx hb dL_1894 (by decide) ?_
  refine lv_iadd hx hb dL_1895 ?_
  refine x_top (y := iI (i + 1)) (iI_add _ _) ?_
  refine va_sld (i := iI (i + 1)) hx hb hX hbl hbA hS (iI_in (n := L) (by omega)) dL_1896 ?_
  refine x_top ez1 ?_
  refine lv_aload_n hx hb dL_1897 rfl (lv_at hl 3 rfl) ?_
  refine lv_iload_n hx hb dL_1898 rfl (lv_at hl 0 rfl) ?_
  refine lv_iconst (v := iI (2)) hx hb dL_1899 (by decide) ?_
  refine lv_iadd hx hb dL_1900 ?_
  refine x_top (y := iI (i + 2)) (iI_add _ _) ?_
  refine va_sld (i := iI (i + 2)) hx hb hX hbl hbA hS (iI_in (n := L) (by omega)) dL_1901 ?_
  refine x_top ez2 ?_
  refine lv_aload_n hx hb dL_1902 rfl (lv_at hl 3 rfl) ?_
  refine lv_iload_n hx hb dL_1903 rfl (lv_at hl 0 rfl) ?_
  refine lv_iconst (v := iI (3)) hx hb dL_1904 (by decide) ?_
  refine lv_iadd hx hb dL_1905 ?_
  refine x_top (y := iI (i + 3)) (iI_add _ _) ?_
  refine va_sld (i := iI (i + 3)) hx hb hX hbl hbA hS (iI_in (n := L) (by omega)) dL_1906 ?_
  refine x_top ez3 ?_
  refine lv_aload_n hx hb dL_1907 rfl (lv_at hl 3 rfl) ?_
  refine lv_iload_n hx hb dL_1908 rfl (lv_at hl 0 rfl) ?_
  refine lv_iconst (v := iI (4)) hx hb dL_1909 (by decide) ?_
  refine lv_iadd hx hb dL_1910 ?_
  refine x_top (y := iI (i + 4)) (iI_add _ _) ?_
  refine va_sld (i := iI (i + 4)) hx hb hX hbl hbA hS (iI_in (n := L) (by omega)) dL_1911 ?_
  refine x_top ez4 ?_
  refine lv_aload_n hx hb dL_1912 rfl (lv_at hl 3 rfl) ?_
  refine lv_iload_n hx hb dL_1913 rfl (lv_at hl 0 rfl) ?_
  refine lv_iconst (v := iI (5)) hx hb dL_1914 (by decide) ?_
  refine lv_iadd hx hb dL_1915 ?_
  refine x_top (y := iI (i + 5)) (iI_add _ _) ?_
  refine va_sld (i := iI (i + 5)) hx hb hX hbl hbA hS (iI_in (n := L) (by omega)) dL_1916 ?_
  refine x_top ez5 ?_
  refine l_viG (nn := 5) (As := [.int (iI (z1)), .int (iI (z2)), .int (iI (z3)), .int (iI (z4)), .int (iI (z5))]) (rest := []) hE hS hAX (s_X8_paste_0 l D K ax mm N hNN v ar al hXI   (z1) (by omega) (z2) (by omega) (z3) (by omega) (z4) (by omega) (z5) (by omega)) wPre_blind (wPre_now hK hNX hPX) (x_recv hK hPX 0 (by omega) (xG_8 rfl) rfl) rfl mw_1318 mw_1319 mw_1320 mw_114 mw_1321 (by decide +kernel) ⟨Nat.le_of_ble_eq_true rfl, Nat.le_of_ble_eq_true rfl⟩ hl.1 rfl (Nat.le_of_ble_eq_true rfl) hcc dL_1917 (fun r1 v1 ar1 al1 H1 locs1 hp1 hPX1 hk1 hS1 => ?_)
  exact cont ax mm N cells slots v1 ar1 al1 H1 locs1 ls r1 hNX hAX hdis hPX1 (w_keep hPY hdis hk1) hS1 hp1.2.1 hmd (R_x hR (fun i j h => hp1.2.2 i j (fl_out (by decide) h))) hl
