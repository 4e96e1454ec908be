theorem dL_1729 : decode code 1729 = .ok (.aload_n 1, 1) := by decide +kernel
theorem dL_1730 : decode code 1730 = .ok (.aload_n 0, 1) := by decide +kernel
theorem dL_1731 : decode code 1731 = .ok (.iload_n 3, 1) := by decide +kernel
theorem dL_1732 : decode code 1732 = .ok (.iconst 1, 1) := by decide +kernel
theorem dL_1733 : decode code 1733 = .ok (.iadd, 1) := by decide +kernel
theorem dL_1734 : decode code 1734 = .ok (.iaload, 1) := by decide +kernel
theorem dL_1735 : decode code 1735 = .ok (.invokevirtual 269, 3) := by decide +kernel
theorem dL_1738 : decode code 1738 = .ok (.aload_n 2, 1) := by decide +kernel
theorem dL_1739 : decode code 1739 = .ok (.aload_n 0, 1) := by decide +kernel
theorem dL_1740 : decode code 1740 = .ok (.iload_n 3, 1) := by decide +kernel
theorem dL_1741 : decode code 1741 = .ok (.iconst 1, 1) := by decide +kernel
theorem dL_1742 : decode code 1742 = .ok (.iadd, 1) := by decide +kernel
theorem dL_1743 : decode code 1743 = .ok (.iaload, 1) := by decide +kernel
theorem dL_1744 : decode code 1744 = .ok (.invokevirtual 272, 3) := by decide +kernel
theorem dL_1747 : decode code 1747 = .ok (.if_icmp .eq 207, 3) := by decide +kernel
set_option maxHeartbeats 4000000 in
set_option maxRecDepth 100000 in
theorem lc_63 {p : Program} {l : Launch} {e : Env} {s : State} {m : MethodId} {below : List Frame} {meth : Method} {c : Code} {b : Nat} {xs : Nat → Int32} {D : va_G} {K : Nat → ClassId} {ax ay : Nat → Nat} {H : Heap} {locs : List Loc} {ls : Array Slot} (C : lawC p s m meth c b xs D K ax ay H locs ls) : W p l e room_1 s m #[Value.ref b] below meth c H locs 153 180094 (lw_Z below #[Value.ref b] s) (F0 m 1729 ls []) := by
  obtain ⟨C0, hE, hK, hNX, hNY, hAX, hAY, hdis, hPX, hPY, hS, hl⟩ := C
  obtain ⟨hx, hb, hr, hml, hown, hts, hX, hbl, hlocks, hgv⟩ := id C0
  have hbA : ¬ lawA s b := Nat.not_le.mpr hbl
  refine lv_aload_n hx hb dL_1729 rfl (lv_at hl 2 rfl) ?_
  refine lv_aload_n hx hb dL_1730 rfl (lv_at hl 3 rfl) ?_
  refine lv_iload_n hx hb dL_1731 rfl (lv_at hl 0 rfl) ?_
  refine lv_iconst (v := 1) hx hb dL_1732 (by decide) ?_
  refine lv_iadd hx hb dL_1733 ?_
  refine x_top (y := 1) (by decide) ?_
  refine va_sld (i := 1) hx hb hX hbl hbA hS (by unfold vp_in; decide) dL_1734 ?_
  refine l_vi (nn := 1) (As := [.int (xs (1 : Int32).toNatClampNeg)]) (rest := []) hE hK hNX hPX hS hAX (k_X8_keep l D K ax none (xs (1 : Int32).toNatClampNeg)) (x_recv hK hPX 0 (by decide) (xG_8 rfl) rfl) rfl mw_1291 mw_1292 mw_1293 mw_114 mw_1294 (by decide +kernel) ⟨Nat.le_of_ble_eq_true rfl, Nat.le_of_ble_eq_true rfl⟩ hl.1 rfl (Nat.le_of_ble_eq_true rfl) ⟨Nat.le_of_ble_eq_true rfl, Nat.le_of_ble_eq_true rfl⟩ dL_1735 (fun r1 u1 H locs hr1 hk1 hS => ?_)
  have hPY := w_keep hPY hdis hk1
  have hr1 : r1 = (fKeep (xs (1 : Int32).toNatClampNeg)) := hr1
  rw [hr1]
  refine lv_aload_n hx hb dL_1738 rfl (lv_at hl 1 rfl) ?_
  refine lv_aload_n hx hb dL_1739 rfl (lv_at hl 3 rfl) ?_
  refine lv_iload_n hx hb dL_1740 rfl (lv_at hl 0 rfl) ?_
  refine lv_iconst (v := 1) hx hb dL_1741 (by decide) ?_
  refine lv_iadd hx hb dL_1742 ?_
  refine x_top (y := 1) (by decide) ?_
  refine va_sld (i := 1) hx hb hX hbl hbA hS (by unfold vp_in; decide) dL_1743 ?_
  refine l_vi (nn := 1) (As := [.int (xs (1 : Int32).toNatClampNeg)]) (rest := [.int (fKeep (xs (1 : Int32).toNatClampNeg))]) hE hK hNY hPY hS hAY (k_X9_keep l D K ay (xs (1 : Int32).toNatClampNeg)) (x_recv hK hPY 0 (by decide) (yG_9 rfl) rfl) rfl mw_2068 mw_2069 mw_2070 mw_123 mw_2071 (by decide +kernel) ⟨Nat.le_of_ble_eq_true rfl, Nat.le_of_ble_eq_true rfl⟩ hl.1 rfl (Nat.le_of_ble_eq_true rfl) ⟨Nat.le_of_ble_eq_true rfl, Nat.le_of_ble_eq_true rfl⟩ dL_1744 (fun r2 u2 H locs hr2 hk2 hS => ?_)
  have hr2 : r2 = (fKeep (xs (1 : Int32).toNatClampNeg)) := hr2
  rw [hr2]
  refine lv_icmp_eq (tgt := 1954) hx hb dL_1747 (by decide) (fun _ => ?_) (fun h => absurd rfl h)
  exact lawtail C0 hS hl
theorem dL_1752 : decode code 1752 = .ok (.aload_n 1, 1) := by decide +kernel
theorem dL_1753 : decode code 1753 = .ok (.aload_n 0, 1) := by decide +kernel
theorem dL_1754 : decode code 1754 = .ok (.iload_n 3, 1) := by decide +kernel
theorem dL_1755 : decode code 1755 = .ok (.iconst 1, 1) := by decide +kernel
theorem dL_1756 : decode code 1756 = .ok (.iadd, 1) := by decide +kernel
theorem dL_1757 : decode code 1757 = .ok (.iaload, 1) := by decide +kernel
theorem dL_1758 : decode code 1758 = .ok (.invokevirtual 273, 3) := by decide +kernel
theorem dL_1761 : decode code 1761 = .ok (.aload_n 2, 1) := by decide +kernel
theorem dL_1762 : decode code 1762 = .ok (.aload_n 0, 1) := by decide +kernel
theorem dL_1763 : decode code 1763 = .ok (.iload_n 3, 1) := by decide +kernel
theorem dL_1764 : decode code 1764 = .ok (.iconst 1, 1) := by decide +kernel
theorem dL_1765 : decode code 1765 = .ok (.iadd, 1) := by decide +kernel
theorem dL_1766 : decode code 1766 = .ok (.iaload, 1) := by decide +kernel
theorem dL_1767 : decode code 1767 = .ok (.invokevirtual 276, 3) := by decide +kernel
theorem dL_1770 : decode code 1770 = .ok (.if_icmp .eq 184, 3) := by decide +kernel
set_option maxHeartbeats 4000000 in
set_option maxRecDepth 100000 in
theorem lc_64 {p : Program} {l : Launch} {e : Env} {s : State} {m : MethodId} {below : List Frame} {meth : Method} {c : Code} {b : Nat} {xs : Nat → Int32} {D : va_G} {K : Nat → ClassId} {ax ay : Nat → Nat} {H : Heap} {locs : List Loc} {ls : Array Slot} (C : lawC p s m meth c b xs D K ax ay H locs ls) : W p l e room_1 s m #[Value.ref b] below meth c H locs 153 180094 (lw_Z below #[Value.ref b] s) (F0 m 1752 ls []) := by
  obtain ⟨C0, hE, hK, hNX, hNY, hAX, hAY, hdis, hPX, hPY, hS, hl⟩ := C
  obtain ⟨hx, hb, hr, hml, hown, hts, hX, hbl, hlocks, hgv⟩ := id C0
  have hbA : ¬ lawA s b := Nat.not_le.mpr hbl
  refine lv_aload_n hx hb dL_1752 rfl (lv_at hl 2 rfl) ?_
  refine lv_aload_n hx hb dL_1753 rfl (lv_at hl 3 rfl) ?_
  refine lv_iload_n hx hb dL_1754 rfl (lv_at hl 0 rfl) ?_
  refine lv_iconst (v := 1) hx hb dL_1755 (by decide) ?_
  refine lv_iadd hx hb dL_1756 ?_
  refine x_top (y := 1) (by decide) ?_
  refine va_sld (i := 1) hx hb hX hbl hbA hS (by unfold vp_in; decide) dL_1757 ?_
  refine x_vp (nn := 1) (As := [.int (xs (1 : Int32).toNatClampNeg)]) (rest := []) hE (k_X8_back l D K ax none (xs (1 : Int32).toNatClampNeg)) wPre_blind (wPre_now hK hNX hPX) (x_recv hK hPX 0 (by decide) (xG_8 rfl) rfl) rfl mw_1295 mw_1296 mw_1297 mw_114 mw_1298 (by decide +kernel) ⟨Nat.le_of_ble_eq_true rfl, Nat.le_of_ble_eq_true rfl⟩ hl.1 rfl (Nat.le_of_ble_eq_true rfl) ⟨Nat.le_of_ble_eq_true rfl, Nat.le_of_ble_eq_true rfl⟩ dL_1758 (fun r1 hr1 => ?_)
  have hr1 : r1 = (fBack (xs (1 : Int32).toNatClampNeg)) := hr1
  rw [hr1]
  refine lv_aload_n hx hb dL_1761 rfl (lv_at hl 1 rfl) ?_
  refine lv_aload_n hx hb dL_1762 rfl (lv_at hl 3 rfl) ?_
  refine lv_iload_n hx hb dL_1763 rfl (lv_at hl 0 rfl) ?_
  refine lv_iconst (v := 1) hx hb dL_1764 (by decide) ?_
  refine lv_iadd hx hb dL_1765 ?_
  refine x_top (y := 1) (by decide) ?_
  refine va_sld (i := 1) hx hb hX hbl hbA hS (by unfold vp_in; decide) dL_1766 ?_
  refine l_vi (nn := 1) (As := [.int (xs (1 : Int32).toNatClampNeg)]) (rest := [.int (fBack (xs (1 : Int32).toNatClampNeg))]) hE hK hNY hPY hS hAY (k_X9_back l D K ay (xs (1 : Int32).toNatClampNeg)) (x_recv hK hPY 0 (by decide) (yG_9 rfl) rfl) rfl mw_2072 mw_2073 mw_2074 mw_123 mw_2075 (by decide +kernel) ⟨Nat.le_of_ble_eq_true rfl, Nat.le_of_ble_eq_true rfl⟩ hl.1 rfl (Nat.le_of_ble_eq_true rfl) ⟨Nat.le_of_ble_eq_true rfl, Nat.le_of_ble_eq_true rfl⟩ dL_1767 (fun r2 u2 H locs hr2 hk2 hS => ?_)
  have hr2 : r2 = (fBack (xs (1 : Int32).toNatClampNeg)) := hr2
  rw [hr2]
  refine lv_icmp_eq (tgt := 1954) hx hb dL_1770 (by decide) (fun _ => ?_) (fun h => absurd rfl h)
  exact lawtail C0 hS hl
theorem dL_1775 : decode code 1775 = .ok (.aload_n 1, 1) := by decide +kernel
theorem dL_1776 : decode code 1776 = .ok (.aload_n 0, 1) := by decide +kernel
theorem dL_1777 : decode code 1777 = .ok (.iload_n 3, 1) := by decide +kernel
theorem dL_1778 : decode code 1778 = .ok (.iconst 1, 1) := by decide +kernel
theorem dL_1779 : decode code 1779 = .ok (.iadd, 1) := by decide +kernel
theorem dL_1780 : decode code 1780 = .ok (.iaload, 1) := by decide +kernel
theorem dL_1781 : decode code 1781 = .ok (.aload_n 0, 1) := by decide +kernel
theorem dL_1782 : decode code 1782 = .ok (.iload_n 3, 1) := by decide +kernel
theorem dL_1783 : decode code 1783 = .ok (.iconst 2, 1) := by decide +kernel
theorem dL_1784 : decode code 1784 = .ok (.iadd, 1) := by decide +kernel
theorem dL_1785 : decode code 1785 = .ok (.iaload, 1) := by decide +kernel
theorem dL_1786 : decode code 1786 = .ok (.aload_n 0, 1) := by decide +kernel
theorem dL_1787 : decode code 1787 = .ok (.iload_n 3, 1) := by decide +kernel
theorem dL_1788 : decode code 1788 = .ok (.iconst 3, 1) := by decide +kernel
theorem dL_1789 : decode code 1789 = .ok (.iadd, 1) := by decide +kernel
theorem dL_1790 : decode code 1790 = .ok (.iaload, 1) := by decide +kernel
theorem dL_1791 : decode code 1791 = .ok (.invokevirtual 277, 3) := by decide +kernel
theorem dL_1794 : decode code 1794 = .ok (.aload_n 2, 1) := by decide +kernel
theorem dL_1795 : decode code 1795 = .ok (.aload_n 0, 1) := by decide +kernel
theorem dL_1796 : decode code 1796 = .ok (.iload_n 3, 1) := by decide +kernel
theorem dL_1797 : decode code 1797 = .ok (.iconst 1, 1) := by decide +kernel
theorem dL_1798 : decode code 1798 = .ok (.iadd, 1) := by decide +kernel
theorem dL_1799 : decode code 1799 = .ok (.iaload, 1) := by decide +kernel
theorem dL_1800 : decode code 1800 = .ok (.aload_n 0, 1) := by decide +kernel
theorem dL_1801 : decode code 1801 = .ok (.iload_n 3, 1) := by decide +kernel
theorem dL_1802 : decode code 1802 = .ok (.iconst 2, 1) := by decide +kernel
theorem dL_1803 : decode code 1803 = .ok (.iadd, 1) := by decide +kernel
theorem dL_1804 : decode code 1804 = .ok (.iaload, 1) := by decide +kernel
theorem dL_1805 : decode code 1805 = .ok (.aload_n 0, 1) := by decide +kernel
theorem dL_1806 : decode code 1806 = .ok (.iload_n 3, 1) := by decide +kernel
theorem dL_1807 : decode code 1807 = .ok (.iconst 3, 1) := by decide +kernel
theorem dL_1808 : decode code 1808 = .ok (.iadd, 1) := by decide +kernel
theorem dL_1809 : decode code 1809 = .ok (.iaload, 1) := by decide +kernel
theorem dL_1810 : decode code 1810 = .ok (.invokevirtual 281, 3) := by decide +kernel
theorem dL_1813 : decode code 1813 = .ok (.if_icmp .eq 141, 3) := by decide +kernel
set_option maxHeartbeats 4000000 in
set_option maxRecDepth 100000 in
theorem lc_65 {p : Program} {l : Launch} {e : Env} {s : State} {m : MethodId} {below : List Frame} {meth : Method} {c : Code} {b : Nat} {xs : Nat → Int32} {D : va_G} {K : Nat → ClassId} {ax ay : Nat → Nat} {H : Heap} {locs : List Loc} {ls : Array Slot} (C : lawC p s m meth c b xs D K ax ay H locs ls) : W p l e room_1 s m #[Value.ref b] below meth c H locs 153 180094 (lw_Z below #[Value.ref b] s) (F0 m 1775 ls []) := by
  obtain ⟨C0, hE, hK, hNX, hNY, hAX, hAY, hdis, hPX, hPY, hS, hl⟩ := C
  obtain ⟨hx, hb, hr, hml, hown, hts, hX, hbl, hlocks, hgv⟩ := id C0
  have hbA : ¬ lawA s b := Nat.not_le.mpr hbl
  refine lv_aload_n hx hb dL_1775 rfl (lv_at hl 2 rfl) ?_
  refine lv_aload_n hx hb dL_1776 rfl (lv_at hl 3 rfl) ?_
  refine lv_iload_n hx hb dL_1777 rfl (lv_at hl 0 rfl) ?_
  refine lv_iconst (v := 1) hx hb dL_1778 (by decide) ?_
  refine lv_iadd hx hb dL_1779 ?_
  refine x_top (y := 1) (by decide) ?_
  refine va_sld (i := 1) hx hb hX hbl hbA hS (by unfold vp_in; decide) dL_1780 ?_
  refine lv_aload_n hx hb dL_1781 rfl (lv_at hl 3 rfl) ?_
  refine lv_iload_n hx hb dL_1782 rfl (lv_at hl 0 rfl) ?_
  refine lv_iconst (v := 2) hx hb dL_1783 (by decide) ?_
  refine lv_iadd hx hb dL_1784 ?_
  refine x_top (y := 2) (by decide) ?_
  refine va_sld (i := 2) hx hb hX hbl hbA hS (by unfold vp_in; decide) dL_1785 ?_
  refine lv_aload_n hx hb dL_1786 rfl (lv_at hl 3 rfl) ?_
  refine lv_iload_n hx hb dL_1787 rfl (lv_at hl 0 rfl) ?_
  refine lv_iconst (v := 3) hx hb dL_1788 (by decide) ?_
  refine lv_iadd hx hb dL_1789 ?_
  refine x_top (y := 3) (by decide) ?_
  refine va_sld (i := 3) hx hb hX hbl hbA hS (by unfold vp_in; decide) dL_1790 ?_
  refine l_vi (nn := 3) (As := [.int (xs (1 : Int32).toNatClampNeg), .int (xs (2 : Int32).toNatClampNeg), .int (xs (3 : Int32).toNatClampNeg)]) (rest := []) hE hK hNX hPX hS hAX (k_X8_row l D K ax none (xs (1 : Int32).toNatClampNeg) (xs (2 : Int32).toNatClampNeg) (xs (3 : Int32).toNatClampNeg)) (x_recv hK hPX 0 (by decide) (xG_8 rfl) rfl) rfl mw_1299 mw_1300 mw_1301 mw_114 mw_1302 (by decide +kernel) ⟨Nat.le_of_ble_eq_true rfl, Nat.le_of_ble_eq_true rfl⟩ hl.1 rfl (Nat.le_of_ble_eq_true rfl) ⟨Nat.le_of_ble_eq_true rfl, Nat.le_of_ble_eq_true rfl⟩ dL_1791 (fun r1 u1 H locs hr1 hk1 hS => ?_)
  have hPY := w_keep hPY hdis hk1
  have hr1 : r1 = (fRow (xs (1 : Int32).toNatClampNeg) (xs (2 : Int32).toNatClampNeg) (xs (3 : Int32).toNatClampNeg)) := hr1
  rw [hr1]
  refine lv_aload_n hx hb dL_1794 rfl (lv_at hl 1 rfl) ?_
  refine lv_aload_n hx hb dL_1795 rfl (lv_at hl 3 rfl) ?_
  refine lv_iload_n hx hb dL_1796 rfl (lv_at hl 0 rfl) ?_
  refine lv_iconst (v := 1) hx hb dL_1797 (by decide) ?_
  refine lv_iadd hx hb dL_1798 ?_
  refine x_top (y := 1) (by decide) ?_
  refine va_sld (i := 1) hx hb hX hbl hbA hS (by unfold vp_in; decide) dL_1799 ?_
  refine lv_aload_n hx hb dL_1800 rfl (lv_at hl 3 rfl) ?_
  refine lv_iload_n hx hb dL_1801 rfl (lv_at hl 0 rfl) ?_
  refine lv_iconst (v := 2) hx hb dL_1802 (by decide) ?_
  refine lv_iadd hx hb dL_1803 ?_
  refine x_top (y := 2) (by decide) ?_
  refine va_sld (i := 2) hx hb hX hbl hbA hS (by unfold vp_in; decide) dL_1804 ?_
  refine lv_aload_n hx hb dL_1805 rfl (lv_at hl 3 rfl) ?_
  refine lv_iload_n hx hb dL_1806 rfl (lv_at hl 0 rfl) ?_
  refine lv_iconst (v := 3) hx hb dL_1807 (by decide) ?_
  refine lv_iadd hx hb dL_1808 ?_
  refine x_top (y := 3) (by decide) ?_
  refine va_sld (i := 3) hx hb hX hbl hbA hS (by unfold vp_in; decide) dL_1809 ?_
  refine l_vi (nn := 3) (As := [.int (xs (1 : Int32).toNatClampNeg), .int (xs (2 : Int32).toNatClampNeg), .int (xs (3 : Int32).toNatClampNeg)]) (rest := [.int (fRow (xs (1 : Int32).toNatClampNeg) (xs (2 : Int32).toNatClampNeg) (xs (3 : Int32).toNatClampNeg))]) hE hK hNY hPY hS hAY (k_X9_row l D K ay (xs (1 : Int32).toNatClampNeg) (xs (2 : Int32).toNatClampNeg) (xs (3 : Int32).toNatClampNeg)) (x_recv hK hPY 0 (by decide) (yG_9 rfl) rfl) rfl mw_1486 mw_1487 mw_1488 mw_123 mw_1489 (by decide +kernel) ⟨Nat.le_of_ble_eq_true rfl, Nat.le_of_ble_eq_true rfl⟩ hl.1 rfl (Nat.le_of_ble_eq_true rfl) ⟨Nat.le_of_ble_eq_true rfl, Nat.le_of_ble_eq_true rfl⟩ dL_1810 (fun r2 u2 H locs hr2 hk2 hS => ?_)
  have hr2 : r2 = (fRow (xs (1 : Int32).toNatClampNeg) (xs (2 : Int32).toNatClampNeg) (xs (3 : Int32).toNatClampNeg)) := hr2
  rw [hr2]
  refine lv_icmp_eq (tgt := 1954) hx hb dL_1813 (by decide) (fun _ => ?_) (fun h => absurd rfl h)
  exact lawtail C0 hS hl
theorem dL_1818 : decode code 1818 = .ok (.aload_n 1, 1) := by decide +kernel
theorem dL_1819 : decode code 1819 = .ok (.aload_n 0, 1) := by decide +kernel
theorem dL_1820 : decode code 1820 = .ok (.iload_n 3, 1) := by decide +kernel
theorem dL_1821 : decode code 1821 = .ok (.iconst 1, 1) := by decide +kernel
theorem dL_1822 : decode code 1822 = .ok (.iadd, 1) := by decide +kernel
theorem dL_1823 : decode code 1823 = .ok (.iaload, 1) := by decide +kernel
theorem dL_1824 : decode code 1824 = .ok (.aload_n 0, 1) := by decide +kernel
theorem dL_1825 : decode code 1825 = .ok (.iload_n 3, 1) := by decide +kernel
theorem dL_1826 : decode code 1826 = .ok (.iconst 2, 1) := by decide +kernel
theorem dL_1827 : decode code 1827 = .ok (.iadd, 1) := by decide +kernel
theorem dL_1828 : decode code 1828 = .ok (.iaload, 1) := by decide +kernel
theorem dL_1829 : decode code 1829 = .ok (.aload_n 0, 1) := by decide +kernel
theorem dL_1830 : decode code 1830 = .ok (.iload_n 3, 1) := by decide +kernel
theorem dL_1831 : decode code 1831 = .ok (.iconst 3, 1) := by decide +kernel
theorem dL_1832 : decode code 1832 = .ok (.iadd, 1) := by decide +kernel
theorem dL_1833 : decode code 1833 = .ok (.iaload, 1) := by decide +kernel
theorem dL_1834 : decode code 1834 = .ok (.i2l, 1) := by decide +kernel
theorem dL_1835 : decode code 1835 = .ok (.bipush 32, 2) := by decide +kernel
theorem dL_1837 : decode code 1837 = .ok (.lshl, 1) := by decide +kernel
theorem dL_1838 : decode code 1838 = .ok (.aload_n 0, 1) := by decide +kernel
theorem dL_1839 : decode code 1839 = .ok (.iload_n 3, 1) := by decide +kernel
theorem dL_1840 : decode code 1840 = .ok (.iconst 4, 1) := by decide +kernel
theorem dL_1841 : decode code 1841 = .ok (.iadd, 1) := by decide +kernel
theorem dL_1842 : decode code 1842 = .ok (.iaload, 1) := by decide +kernel
theorem dL_1843 : decode code 1843 = .ok (.i2l, 1) := by decide +kernel
theorem dL_1844 : decode code 1844 = .ok (.ldc2_w 282, 3) := by decide +kernel
theorem dL_1847 : decode code 1847 = .ok (.land, 1) := by decide +kernel
theorem dL_1848 : decode code 1848 = .ok (.lor, 1) := by decide +kernel
theorem dL_1849 : decode code 1849 = .ok (.invokevirtual 284, 3) := by decide +kernel
theorem dL_1852 : decode code 1852 = .ok (.aload_n 2, 1) := by decide +kernel
theorem dL_1853 : decode code 1853 = .ok (.aload_n 0, 1) := by decide +kernel
theorem dL_1854 : decode code 1854 = .ok (.iload_n 3, 1) := by decide +kernel
theorem dL_1855 : decode code 1855 = .ok (.iconst 1, 1) := by decide +kernel
theorem dL_1856 : decode code 1856 = .ok (.iadd, 1) := by decide +kernel
theorem dL_1857 : decode code 1857 = .ok (.iaload, 1) := by decide +kernel
theorem dL_1858 : decode code 1858 = .ok (.aload_n 0, 1) := by decide +kernel
theorem dL_1859 : decode code 1859 = .ok (.iload_n 3, 1) := by decide +kernel
theorem dL_1860 : decode code 1860 = .ok (.iconst 2, 1) := by decide +kernel
theorem dL_1861 : decode code 1861 = .ok (.iadd, 1) := by decide +kernel
theorem dL_1862 : decode code 1862 = .ok (.iaload, 1) := by decide +kernel
theorem dL_1863 : decode code 1863 = .ok (.aload_n 0, 1) := by decide +kernel
theorem dL_1864 : decode code 1864 = .ok (.iload_n 3, 1) := by decide +kernel
theorem dL_1865 : decode code 1865 = .ok (.iconst 3, 1) := by decide +kernel
theorem dL_1866 : decode code 1866 = .ok (.iadd, 1) := by decide +kernel
theorem dL_1867 : decode code 1867 = .ok (.iaload, 1) := by decide +kernel
theorem dL_1868 : decode code 1868 = .ok (.i2l, 1) := by decide +kernel
theorem dL_1869 : decode code 1869 = .ok (.bipush 32, 2) := by decide +kernel
theorem dL_1871 : decode code 1871 = .ok (.lshl, 1) := by decide +kernel
theorem dL_1872 : decode code 1872 = .ok (.aload_n 0, 1) := by decide +kernel
theorem dL_1873 : decode code 1873 = .ok (.iload_n 3, 1) := by decide +kernel
theorem dL_1874 : decode code 1874 = .ok (.iconst 4, 1) := by decide +kernel
theorem dL_1875 : decode code 1875 = .ok (.iadd, 1) := by decide +kernel
theorem dL_1876 : decode code 1876 = .ok (.iaload, 1) := by decide +kernel
theorem dL_1877 : decode code 1877 = .ok (.i2l, 1) := by decide +kernel
theorem dL_1878 : decode code 1878 = .ok (.ldc2_w 282, 3) := by decide +kernel
theorem dL_1881 : decode code 1881 = .ok (.land, 1) := by decide +kernel
theorem dL_1882 : decode code 1882 = .ok (.lor, 1) := by decide +kernel
theorem dL_1883 : decode code 1883 = .ok (.invokevirtual 288, 3) := by decide +kernel
theorem dL_1886 : decode code 1886 = .ok (.if_icmp .eq 68, 3) := by decide +kernel
set_option maxHeartbeats 4000000 in
set_option maxRecDepth 100000 in
theorem lc_66 {p : Program} {l : Launch} {e : Env} {s : State} {m : MethodId} {below : List Frame} {meth : Method} {c : Code} {b : Nat} {xs : Nat → Int32} {D : va_G} {K : Nat → ClassId} {ax ay : Nat → Nat} {H : Heap} {locs : List Loc} {ls : Array Slot} (C : lawC p s m meth c b xs D K ax ay H locs ls) : W p l e room_1 s m #[Value.ref b] below meth c H locs 153 180094 (lw_Z below #[Value.ref b] s) (F0 m 1818 ls []) := by
  obtain ⟨C0, hE, hK, hNX, hNY, hAX, hAY, hdis, hPX, hPY, hS, hl⟩ := C
  obtain ⟨hx, hb, hr, hml, hown, hts, hX, hbl, hlocks, hgv⟩ := id C0
  have hbA : ¬ lawA s b := Nat.not_le.mpr hbl
  refine lv_aload_n hx hb dL_1818 rfl (lv_at hl 2 rfl) ?_
  refine lv_aload_n hx hb dL_1819 rfl (lv_at hl 3 rfl) ?_
  refine lv_iload_n hx hb dL_1820 rfl (lv_at hl 0 rfl) ?_
  refine lv_iconst (v := 1) hx hb dL_1821 (by decide) ?_
  refine lv_iadd hx hb dL_1822 ?_
  refine x_top (y := 1) (by decide) ?_
  refine va_sld (i := 1) hx hb hX hbl hbA hS (by unfold vp_in; decide) dL_1823 ?_
  refine lv_aload_n hx hb dL_1824 rfl (lv_at hl 3 rfl) ?_
  refine lv_iload_n hx hb dL_1825 rfl (lv_at hl 0 rfl) ?_
  refine lv_iconst (v := 2) hx hb dL_1826 (by decide) ?_
  refine lv_iadd hx hb dL_1827 ?_
  refine x_top (y := 2) (by decide) ?_
  refine va_sld (i := 2) hx hb hX hbl hbA hS (by unfold vp_in; decide) dL_1828 ?_
  refine lv_aload_n hx hb dL_1829 rfl (lv_at hl 3 rfl) ?_
  refine lv_iload_n hx hb dL_1830 rfl (lv_at hl 0 rfl) ?_
  refine lv_iconst (v := 3) hx hb dL_1831 (by decide) ?_
  refine lv_iadd hx hb dL_1832 ?_
  refine x_top (y := 3) (by decide) ?_
  refine va_sld (i := 3) hx hb hX hbl hbA hS (by unfold vp_in; decide) dL_1833 ?_
  refine lv_i2l hx hb dL_1834 rfl ?_
  refine lv_bipush (v := 32) hx hb dL_1835 (by decide) ?_
  refine lv_lshl hx hb dL_1837 rfl ?_
  refine lv_aload_n hx hb dL_1838 rfl (lv_at hl 3 rfl) ?_
  refine lv_iload_n hx hb dL_1839 rfl (lv_at hl 0 rfl) ?_
  refine lv_iconst (v := 4) hx hb dL_1840 (by decide) ?_
  refine lv_iadd hx hb dL_1841 ?_
  refine x_top (y := 4) (by decide) ?_
  refine va_sld (i := 4) hx hb hX hbl hbA hS (by unfold vp_in; decide) dL_1842 ?_
  refine lv_i2l hx hb dL_1843 rfl ?_
  refine lv_ldc2 (v := 4294967295) hx hb hE.2.2.2.1 (hE.2.2.2.2 _ mw_2076) dL_1844 ?_
  refine lv_land hx hb dL_1847 ?_
  refine lv_lor hx hb dL_1848 ?_
  refine lv_topl (fun z1 _ => ?_)
  refine x_vp (nn := 3) (As := [.int (xs (1 : Int32).toNatClampNeg), .int (xs (2 : Int32).toNatClampNeg), .long z1]) (rest := []) hE (k_X8_write l D K ax none (xs (1 : Int32).toNatClampNeg) (xs (2 : Int32).toNatClampNeg) z1) wPre_blind (wPre_now hK hNX hPX) (x_recv hK hPX 0 (by decide) (xG_8 rfl) rfl) rfl mw_1310 mw_1311 mw_1312 mw_114 mw_1313 (by decide +kernel) ⟨Nat.le_of_ble_eq_true rfl, Nat.le_of_ble_eq_true rfl⟩ hl.1 rfl (Nat.le_of_ble_eq_true rfl) ⟨Nat.le_of_ble_eq_true rfl, Nat.le_of_ble_eq_true rfl⟩ dL_1849 (fun r1 hr1 => ?_)
  have hr1 : r1 = (fWrite (xs (1 : Int32).toNatClampNeg)) := hr1
  rw [hr1]
  refine lv_aload_n hx hb dL_1852 rfl (lv_at hl 1 rfl) ?_
  refine lv_aload_n hx hb dL_1853 rfl (lv_at hl 3 rfl) ?_
  refine lv_iload_n hx hb dL_1854 rfl (lv_at hl 0 rfl) ?_
  refine lv_iconst (v := 1) hx hb dL_1855 (by decide) ?_
  refine lv_iadd hx hb dL_1856 ?_
  refine x_top (y := 1) (by decide) ?_
  refine va_sld (i := 1) hx hb hX hbl hbA hS (by unfold vp_in; decide) dL_1857 ?_
  refine lv_aload_n hx hb dL_1858 rfl (lv_at hl 3 rfl) ?_
  refine lv_iload_n hx hb dL_1859 rfl (lv_at hl 0 rfl) ?_
  refine lv_iconst (v := 2) hx hb dL_1860 (by decide) ?_
  refine lv_iadd hx hb dL_1861 ?_
  refine x_top (y := 2) (by decide) ?_
  refine va_sld (i := 2) hx hb hX hbl hbA hS (by unfold vp_in; decide) dL_1862 ?_
  refine lv_aload_n hx hb dL_1863 rfl (lv_at hl 3 rfl) ?_
  refine lv_iload_n hx hb dL_1864 rfl (lv_at hl 0 rfl) ?_
  refine lv_iconst (v := 3) hx hb dL_1865 (by decide) ?_
  refine lv_iadd hx hb dL_1866 ?_
  refine x_top (y := 3) (by decide) ?_
  refine va_sld (i := 3) hx hb hX hbl hbA hS (by unfold vp_in; decide) dL_1867 ?_
  refine lv_i2l hx hb dL_1868 rfl ?_
  refine lv_bipush (v := 32) hx hb dL_1869 (by decide) ?_
  refine lv_lshl hx hb dL_1871 rfl ?_
  refine lv_aload_n hx hb dL_1872 rfl (lv_at hl 3 rfl) ?_
  refine lv_iload_n hx hb dL_1873 rfl (lv_at hl 0 rfl) ?_
  refine lv_iconst (v := 4) hx hb dL_1874 (by decide) ?_
  refine lv_iadd hx hb dL_1875 ?_
  refine x_top (y := 4) (by decide) ?_
  refine va_sld (i := 4) hx hb hX hbl hbA hS (by unfold vp_in; decide) dL_1876 ?_
  refine lv_i2l hx hb dL_1877 rfl ?_
  refine lv_ldc2 (v := 4294967295) hx hb hE.2.2.2.1 (hE.2.2.2.2 _ mw_2076) dL_1878 ?_
  refine lv_land hx hb dL_1881 ?_
  refine lv_lor hx hb dL_1882 ?_
  refine lv_topl (fun z2 _ => ?_)
  refine l_vi (nn := 3) (As := [.int (xs (1 : Int32).toNatClampNeg), .int (xs (2 : Int32).toNatClampNeg), .long z2]) (rest := [.int (fWrite (xs (1 : Int32).toNatClampNeg))]) hE hK hNY hPY hS hAY (k_X9_write l D K ay (xs (1 : Int32).toNatClampNeg) (xs (2 : Int32).toNatClampNeg) z2) (x_recv hK hPY 0 (by decide) (yG_9 rfl) rfl) rfl mw_1497 mw_1498 mw_1499 mw_123 mw_1500 (by decide +kernel) ⟨Nat.le_of_ble_eq_true rfl, Nat.le_of_ble_eq_true rfl⟩ hl.1 rfl (Nat.le_of_ble_eq_true rfl) ⟨Nat.le_of_ble_eq_true rfl, Nat.le_of_ble_eq_true rfl⟩ dL_1883 (fun r2 u2 H locs hr2 hk2 hS => ?_)
  have hr2 : r2 = (fWrite (xs (1 : Int32).toNatClampNeg)) := hr2
  rw [hr2]
  refine lv_icmp_eq (tgt := 1954) hx hb dL_1886 (by decide) (fun _ => ?_) (fun h => absurd rfl h)
  exact lawtail C0 hS hl
theorem dL_1891 : decode code 1891 = .ok (.aload_n 1, 1) := by decide +kernel
theorem dL_1892 : decode code 1892 = .ok (.aload_n 0, 1) := by decide +kernel
theorem dL_1893 : decode code 1893 = .ok (.iload_n 3, 1) := by decide +kernel
theorem dL_1894 : decode code 1894 = .ok (.iconst 1, 1) := by decide +kernel
theorem dL_1895 : decode code 1895 = .ok (.iadd, 1) := by decide +kernel
theorem dL_1896 : decode code 1896 = .ok (.iaload, 1) := by decide +kernel
theorem dL_1897 : decode code 1897 = .ok (.aload_n 0, 1) := by decide +kernel
theorem dL_1898 : decode code 1898 = .ok (.iload_n 3, 1) := by decide +kernel
theorem dL_1899 : decode code 1899 = .ok (.iconst 2, 1) := by decide +kernel
theorem dL_1900 : decode code 1900 = .ok (.iadd, 1) := by decide +kernel
theorem dL_1901 : decode code 1901 = .ok (.iaload, 1) := by decide +kernel
theorem dL_1902 : decode code 1902 = .ok (.aload_n 0, 1) := by decide +kernel
theorem dL_1903 : decode code 1903 = .ok (.iload_n 3, 1) := by decide +kernel
theorem dL_1904 : decode code 1904 = .ok (.iconst 3, 1) := by decide +kernel
theorem dL_1905 : decode code 1905 = .ok (.iadd, 1) := by decide +kernel
theorem dL_1906 : decode code 1906 = .ok (.iaload, 1) := by decide +kernel
theorem dL_1907 : decode code 1907 = .ok (.aload_n 0, 1) := by decide +kernel
theorem dL_1908 : decode code 1908 = .ok (.iload_n 3, 1) := by decide +kernel
theorem dL_1909 : decode code 1909 = .ok (.iconst 4, 1) := by decide +kernel
theorem dL_1910 : decode code 1910 = .ok (.iadd, 1) := by decide +kernel
theorem dL_1911 : decode code 1911 = .ok (.iaload, 1) := by decide +kernel
theorem dL_1912 : decode code 1912 = .ok (.aload_n 0, 1) := by decide +kernel
theorem dL_1913 : decode code 1913 = .ok (.iload_n 3, 1) := by decide +kernel
theorem dL_1914 : decode code 1914 = .ok (.iconst 5, 1) := by decide +kernel
theorem dL_1915 : decode code 1915 = .ok (.iadd, 1) := by decide +kernel
theorem dL_1916 : decode code 1916 = .ok (.iaload, 1) := by decide +kernel
theorem dL_1917 : decode code 1917 = .ok (.invokevirtual 289, 3) := by decide +kernel
theorem dL_1920 : decode code 1920 = .ok (.aload_n 2, 1) := by decide +kernel
theorem dL_1921 : decode code 1921 = .ok (.aload_n 0, 1) := by decide +kernel
theorem dL_1922 : decode code 1922 = .ok (.iload_n 3, 1) := by decide +kernel
theorem dL_1923 : decode code 1923 = .ok (.iconst 1, 1) := by decide +kernel
theorem dL_1924 : decode code 1924 = .ok (.iadd, 1) := by decide +kernel
theorem dL_1925 : decode code 1925 = .ok (.iaload, 1) := by decide +kernel
theorem dL_1926 : decode code 1926 = .ok (.aload_n 0, 1) := by decide +kernel
theorem dL_1927 : decode code 1927 = .ok (.iload_n 3, 1) := by decide +kernel
theorem dL_1928 : decode code 1928 = .ok (.iconst 2, 1) := by decide +kernel
theorem dL_1929 : decode code 1929 = .ok (.iadd, 1) := by decide +kernel
theorem dL_1930 : decode code 1930 = .ok (.iaload, 1) := by decide +kernel
theorem dL_1931 : decode code 1931 = .ok (.aload_n 0, 1) := by decide +kernel
theorem dL_1932 : decode code 1932 = .ok (.iload_n 3, 1) := by decide +kernel
theorem dL_1933 : decode code 1933 = .ok (.iconst 3, 1) := by decide +kernel
theorem dL_1934 : decode code 1934 = .ok (.iadd, 1) := by decide +kernel
theorem dL_1935 : decode code 1935 = .ok (.iaload, 1) := by decide +kernel
theorem dL_1936 : decode code 1936 = .ok (.aload_n 0, 1) := by decide +kernel
theorem dL_1937 : decode code 1937 = .ok (.iload_n 3, 1) := by decide +kernel
theorem dL_1938 : decode code 1938 = .ok (.iconst 4, 1) := by decide +kernel
theorem dL_1939 : decode code 1939 = .ok (.iadd, 1) := by decide +kernel
theorem dL_1940 : decode code 1940 = .ok (.iaload, 1) := by decide +kernel
theorem dL_1941 : decode code 1941 = .ok (.aload_n 0, 1) := by decide +kernel
theorem dL_1942 : decode code 1942 = .ok (.iload_n 3, 1) := by decide +kernel
theorem dL_1943 : decode code 1943 = .ok (.iconst 5, 1) := by decide +kernel
theorem dL_1944 : decode code 1944 = .ok (.iadd, 1) := by decide +kernel
theorem dL_1945 : decode code 1945 = .ok (.iaload, 1) := by decide +kernel
theorem dL_1946 : decode code 1946 = .ok (.invokevirtual 292, 3) := by decide +kernel
theorem dL_1949 : decode code 1949 = .ok (.if_icmp .eq 5, 3) := by decide +kernel
set_option maxHeartbeats 4000000 in
set_option maxRecDepth 100000 in
theorem lc_67 {p : Program} {l : Launch} {e : Env} {s : State} {m : MethodId} {below : List Frame} {meth : Method} {c : Code} {b : Nat} {xs : Nat → Int32} {D : va_G} {K : Nat → ClassId} {ax ay : Nat → Nat} {H : Heap} {locs : List Loc} {ls : Array Slot} (C : lawC p s m meth c b xs D K ax ay H locs ls) : W p l e room_1 s m #[Value.ref b] below meth c H locs 153 180094 (lw_Z below #[Value.ref b] s) (F0 m 1891 ls []) := by
  obtain ⟨C0, hE, hK, hNX, hNY, hAX, hAY, hdis, hPX, hPY, hS, hl⟩ := C
  obtain ⟨hx, hb, hr, hml, hown, hts, hX, hbl, hlocks, hgv⟩ := id C0
  have hbA : ¬ lawA s b := Nat.not_le.mpr hbl
  refine lv_aload_n hx hb dL_1891 rfl (lv_at hl 2 rfl) ?_
  refine lv_aload_n hx hb dL_1892 rfl (lv_at hl 3 rfl) ?_
  refine lv_iload_n hx hb dL_1893 rfl (lv_at hl 0 rfl) ?_
  refine lv_iconst (v := 1) hx hb dL_1894 (by decide) ?_
  refine lv_iadd hx hb dL_1895 ?_
  refine x_top (y := 1) (by decide) ?_
  refine va_sld (i := 1) hx hb hX hbl hbA hS (by unfold vp_in; decide) dL_1896 ?_
  refine lv_aload_n hx hb dL_1897 rfl (lv_at hl 3 rfl) ?_
  refine lv_iload_n hx hb dL_1898 rfl (lv_at hl 0 rfl) ?_
  refine lv_iconst (v := 2) hx hb dL_1899 (by decide) ?_
  refine lv_iadd hx hb dL_1900 ?_
  refine x_top (y := 2) (by decide) ?_
  refine va_sld (i := 2) hx hb hX hbl hbA hS (by unfold vp_in; decide) dL_1901 ?_
  refine lv_aload_n hx hb dL_1902 rfl (lv_at hl 3 rfl) ?_
  refine lv_iload_n hx hb dL_1903 rfl (lv_at hl 0 rfl) ?_
  refine lv_iconst (v := 3) hx hb dL_1904 (by decide) ?_
  refine lv_iadd hx hb dL_1905 ?_
  refine x_top (y := 3) (by decide) ?_
  refine va_sld (i := 3) hx hb hX hbl hbA hS (by unfold vp_in; decide) dL_1906 ?_
  refine lv_aload_n hx hb dL_1907 rfl (lv_at hl 3 rfl) ?_
  refine lv_iload_n hx hb dL_1908 rfl (lv_at hl 0 rfl) ?_
  refine lv_iconst (v := 4) hx hb dL_1909 (by decide) ?_
  refine lv_iadd hx hb dL_1910 ?_
  refine x_top (y := 4) (by decide) ?_
  refine va_sld (i := 4) hx hb hX hbl hbA hS (by unfold vp_in; decide) dL_1911 ?_
  refine lv_aload_n hx hb dL_1912 rfl (lv_at hl 3 rfl) ?_
  refine lv_iload_n hx hb dL_1913 rfl (lv_at hl 0 rfl) ?_
  refine lv_iconst (v := 5) hx hb dL_1914 (by decide) ?_
  refine lv_iadd hx hb dL_1915 ?_
  refine x_top (y := 5) (by decide) ?_
  refine va_sld (i := 5) hx hb hX hbl hbA hS (by unfold vp_in; decide) dL_1916 ?_
  refine x_vp (nn := 5) (As := [.int (xs (1 : Int32).toNatClampNeg), .int (xs (2 : Int32).toNatClampNeg), .int (xs (3 : Int32).toNatClampNeg), .int (xs (4 : Int32).toNatClampNeg), .int (xs (5 : Int32).toNatClampNeg)]) (rest := []) hE (k_X8_paste l D K ax none (xs (1 : Int32).toNatClampNeg) (xs (2 : Int32).toNatClampNeg) (xs (3 : Int32).toNatClampNeg) (xs (4 : Int32).toNatClampNeg) (xs (5 : Int32).toNatClampNeg)) wPre_blind (wPre_now hK hNX hPX) (x_recv hK hPX 0 (by decide) (xG_8 rfl) rfl) rfl mw_1318 mw_1319 mw_1320 mw_114 mw_1321 (by decide +kernel) ⟨Nat.le_of_ble_eq_true rfl, Nat.le_of_ble_eq_true rfl⟩ hl.1 rfl (Nat.le_of_ble_eq_true rfl) ⟨Nat.le_of_ble_eq_true rfl, Nat.le_of_ble_eq_true rfl⟩ dL_1917 (fun r1 hr1 => ?_)
  have hr1 : r1 = (fPaste (xs (1 : Int32).toNatClampNeg) (xs (3 : Int32).toNatClampNeg)) := hr1
  rw [hr1]
  refine lv_aload_n hx hb dL_1920 rfl (lv_at hl 1 rfl) ?_
  refine lv_aload_n hx hb dL_1921 rfl (lv_at hl 3 rfl) ?_
  refine lv_iload_n hx hb dL_1922 rfl (lv_at hl 0 rfl) ?_
  refine lv_iconst (v := 1) hx hb dL_1923 (by decide) ?_
  refine lv_iadd hx hb dL_1924 ?_
  refine x_top (y := 1) (by decide) ?_
  refine va_sld (i := 1) hx hb hX hbl hbA hS (by unfold vp_in; decide) dL_1925 ?_
  refine lv_aload_n hx hb dL_1926 rfl (lv_at hl 3 rfl) ?_
  refine lv_iload_n hx hb dL_1927 rfl (lv_at hl 0 rfl) ?_
  refine lv_iconst (v := 2) hx hb dL_1928 (by decide) ?_
  refine lv_iadd hx hb dL_1929 ?_
  refine x_top (y := 2) (by decide) ?_
  refine va_sld (i := 2) hx hb hX hbl hbA hS (by unfold vp_in; decide) dL_1930 ?_
  refine lv_aload_n hx hb dL_1931 rfl (lv_at hl 3 rfl) ?_
  refine lv_iload_n hx hb dL_1932 rfl (lv_at hl 0 rfl) ?_
  refine lv_iconst (v := 3) hx hb dL_1933 (by decide) ?_
  refine lv_iadd hx hb dL_1934 ?_
  refine x_top (y := 3) (by decide) ?_
  refine va_sld (i := 3) hx hb hX hbl hbA hS (by unfold vp_in; decide) dL_1935 ?_
  refine lv_aload_n hx hb dL_1936 rfl (lv_at hl 3 rfl) ?_
  refine lv_iload_n hx hb dL_1937 rfl (lv_at hl 0 rfl) ?_
  refine lv_iconst (v := 4) hx hb dL_1938 (by decide) ?_
  refine lv_iadd hx hb dL_1939 ?_
  refine x_top (y := 4) (by decide) ?_
  refine va_sld (i := 4) hx hb hX hbl hbA hS (by unfold vp_in; decide) dL_1940 ?_
  refine lv_aload_n hx hb dL_1941 rfl (lv_at hl 3 rfl) ?_
  refine lv_iload_n hx hb dL_1942 rfl (lv_at hl 0 rfl) ?_
  refine lv_iconst (v := 5) hx hb dL_1943 (by decide) ?_
  refine lv_iadd hx hb dL_1944 ?_
  refine x_top (y := 5) (by decide) ?_
  refine va_sld (i := 5) hx hb hX hbl hbA hS (by unfold vp_in; decide) dL_1945 ?_
  refine l_vi (nn := 5) (As := [.int (xs (1 : Int32).toNatClampNeg), .int (xs (2 : Int32).toNatClampNeg), .int (xs (3 : Int32).toNatClampNeg), .int (xs (4 : Int32).toNatClampNeg), .int (xs (5 : Int32).toNatClampNeg)]) (rest := [.int (fPaste (xs (1 : Int32).toNatClampNeg) (xs (3 : Int32).toNatClampNeg))]) hE hK hNY hPY hS hAY (k_X9_paste l D K ay (xs (1 : Int32).toNatClampNeg) (xs (2 : Int32).toNatClampNeg) (xs (3 : Int32).toNatClampNeg) (xs (4 : Int32).toNatClampNeg) (xs (5 : Int32).toNatClampNeg)) (x_recv hK hPY 0 (by decide) (yG_9 rfl) rfl) rfl mw_1504 mw_1505 mw_1506 mw_123 mw_1507 (by decide +kernel) ⟨Nat.le_of_ble_eq_true rfl, Nat.le_of_ble_eq_true rfl⟩ hl.1 rfl (Nat.le_of_ble_eq_true rfl) ⟨Nat.le_of_ble_eq_true rfl, Nat.le_of_ble_eq_true rfl⟩ dL_1946 (fun r2 u2 H locs hr2 hk2 hS => ?_)
  have hr2 : r2 = (fPaste (xs (1 : Int32).toNatClampNeg) (xs (3 : Int32).toNatClampNeg)) := hr2
  rw [hr2]
  refine lv_icmp_eq (tgt := 1954) hx hb dL_1949 (by decide) (fun _ => ?_) (fun h => absurd rfl h)
  exact lawtail C0 hS hl
