theorem dL_911 : decode code 911 = .ok (.aload_n 1, 1) := by decide +kernel
theorem dL_912 : decode code 912 = .ok (.invokevirtual 125, 3) := by decide +kernel
theorem dL_915 : decode code 915 = .ok (.aload_n 2, 1) := by decide +kernel
theorem dL_916 : decode code 916 = .ok (.invokevirtual 128, 3) := by decide +kernel
theorem dL_919 : decode code 919 = .ok (.if_icmp .eq 1035, 3) := by decide +kernel
set_option maxHeartbeats 4000000 in
set_option maxRecDepth 100000 in
theorem lc_27 {p : Program} {l : Launch} {e : Env} {s : State} {m : MethodId} {below : List Frame} {meth : Method} {c : Code} {b : Nat} {xs : Nat → Int32} {D : va_G} {K : Nat → ClassId} {ax ay : Nat → Nat} {H : Heap} {locs : List Loc} {ls : Array Slot} (C : lawC p s m meth c b xs D K ax ay H locs ls) : W p l e room_1 s m #[Value.ref b] below meth c H locs 153 180094 (lw_Z below #[Value.ref b] s) (F0 m 911 ls []) := by
  obtain ⟨C0, hE, hK, hNX, hNY, hAX, hAY, hdis, hPX, hPY, hS, hl⟩ := C
  obtain ⟨hx, hb, hr, hml, hown, hts, hX, hbl, hlocks, hgv⟩ := id C0
  have hbA : ¬ lawA s b := Nat.not_le.mpr hbl
  refine lv_aload_n hx hb dL_911 rfl (lv_at hl 2 rfl) ?_
  refine x_vp (nn := 0) (As := []) (rest := []) hE (k_X8_full l D K ax none ) wPre_blind (wPre_now hK hNX hPX) (x_recv hK hPX 0 (by decide) (xG_8 rfl) rfl) rfl mw_953 mw_954 mw_955 mw_114 mw_956 (by decide +kernel) ⟨Nat.le_of_ble_eq_true rfl, Nat.le_of_ble_eq_true rfl⟩ hl.1 rfl (Nat.le_of_ble_eq_true rfl) ⟨Nat.le_of_ble_eq_true rfl, Nat.le_of_ble_eq_true rfl⟩ dL_912 (fun r1 hr1 => ?_)
  have hr1 : r1 = (-2) := hr1
  rw [hr1]
  refine lv_aload_n hx hb dL_915 rfl (lv_at hl 1 rfl) ?_
  refine l_vi (nn := 0) (As := []) (rest := [.int (-2)]) hE hK hNY hPY hS hAY (k_X9_full l D K ay ) (x_recv hK hPY 0 (by decide) (yG_9 rfl) rfl) rfl mw_1826 mw_1827 mw_1828 mw_123 mw_1829 (by decide +kernel) ⟨Nat.le_of_ble_eq_true rfl, Nat.le_of_ble_eq_true rfl⟩ hl.1 rfl (Nat.le_of_ble_eq_true rfl) ⟨Nat.le_of_ble_eq_true rfl, Nat.le_of_ble_eq_true rfl⟩ dL_916 (fun r2 u2 H locs hr2 hk2 hS => ?_)
  have hr2 : r2 = (-2) := hr2
  rw [hr2]
  refine lv_icmp_eq (tgt := 1954) hx hb dL_919 (by decide) (fun _ => ?_) (fun h => absurd rfl h)
  exact lawtail C0 hS hl
theorem dL_924 : decode code 924 = .ok (.aload_n 1, 1) := by decide +kernel
theorem dL_925 : decode code 925 = .ok (.aload_n 0, 1) := by decide +kernel
theorem dL_926 : decode code 926 = .ok (.iload_n 3, 1) := by decide +kernel
theorem dL_927 : decode code 927 = .ok (.iconst 1, 1) := by decide +kernel
theorem dL_928 : decode code 928 = .ok (.iadd, 1) := by decide +kernel
theorem dL_929 : decode code 929 = .ok (.iaload, 1) := by decide +kernel
theorem dL_930 : decode code 930 = .ok (.invokevirtual 129, 3) := by decide +kernel
theorem dL_933 : decode code 933 = .ok (.aload_n 2, 1) := by decide +kernel
theorem dL_934 : decode code 934 = .ok (.aload_n 0, 1) := by decide +kernel
theorem dL_935 : decode code 935 = .ok (.iload_n 3, 1) := by decide +kernel
theorem dL_936 : decode code 936 = .ok (.iconst 1, 1) := by decide +kernel
theorem dL_937 : decode code 937 = .ok (.iadd, 1) := by decide +kernel
theorem dL_938 : decode code 938 = .ok (.iaload, 1) := by decide +kernel
theorem dL_939 : decode code 939 = .ok (.invokevirtual 132, 3) := by decide +kernel
theorem dL_942 : decode code 942 = .ok (.if_icmp .eq 1012, 3) := by decide +kernel
set_option maxHeartbeats 4000000 in
set_option maxRecDepth 100000 in
theorem lc_28 {p : Program} {l : Launch} {e : Env} {s : State} {m : MethodId} {below : List Frame} {meth : Method} {c : Code} {b : Nat} {xs : Nat → Int32} {D : va_G} {K : Nat → ClassId} {ax ay : Nat → Nat} {H : Heap} {locs : List Loc} {ls : Array Slot} (C : lawC p s m meth c b xs D K ax ay H locs ls) : W p l e room_1 s m #[Value.ref b] below meth c H locs 153 180094 (lw_Z below #[Value.ref b] s) (F0 m 924 ls []) := by
  obtain ⟨C0, hE, hK, hNX, hNY, hAX, hAY, hdis, hPX, hPY, hS, hl⟩ := C
  obtain ⟨hx, hb, hr, hml, hown, hts, hX, hbl, hlocks, hgv⟩ := id C0
  have hbA : ¬ lawA s b := Nat.not_le.mpr hbl
  refine lv_aload_n hx hb dL_924 rfl (lv_at hl 2 rfl) ?_
  refine lv_aload_n hx hb dL_925 rfl (lv_at hl 3 rfl) ?_
  refine lv_iload_n hx hb dL_926 rfl (lv_at hl 0 rfl) ?_
  refine lv_iconst (v := 1) hx hb dL_927 (by decide) ?_
  refine lv_iadd hx hb dL_928 ?_
  refine x_top (y := 1) (by decide) ?_
  refine va_sld (i := 1) hx hb hX hbl hbA hS (by unfold vp_in; decide) dL_929 ?_
  refine x_vp (nn := 1) (As := [.int (xs (1 : Int32).toNatClampNeg)]) (rest := []) hE (k_X8_line l D K ax none (xs (1 : Int32).toNatClampNeg)) wPre_blind (wPre_now hK hNX hPX) (x_recv hK hPX 0 (by decide) (xG_8 rfl) rfl) rfl mw_957 mw_958 mw_959 mw_114 mw_960 (by decide +kernel) ⟨Nat.le_of_ble_eq_true rfl, Nat.le_of_ble_eq_true rfl⟩ hl.1 rfl (Nat.le_of_ble_eq_true rfl) ⟨Nat.le_of_ble_eq_true rfl, Nat.le_of_ble_eq_true rfl⟩ dL_930 (fun r1 hr1 => ?_)
  have hr1 : r1 = (-2) := hr1
  rw [hr1]
  refine lv_aload_n hx hb dL_933 rfl (lv_at hl 1 rfl) ?_
  refine lv_aload_n hx hb dL_934 rfl (lv_at hl 3 rfl) ?_
  refine lv_iload_n hx hb dL_935 rfl (lv_at hl 0 rfl) ?_
  refine lv_iconst (v := 1) hx hb dL_936 (by decide) ?_
  refine lv_iadd hx hb dL_937 ?_
  refine x_top (y := 1) (by decide) ?_
  refine va_sld (i := 1) hx hb hX hbl hbA hS (by unfold vp_in; decide) dL_938 ?_
  refine l_vi (nn := 1) (As := [.int (xs (1 : Int32).toNatClampNeg)]) (rest := [.int (-2)]) hE hK hNY hPY hS hAY (k_X9_line l D K ay (xs (1 : Int32).toNatClampNeg)) (x_recv hK hPY 0 (by decide) (yG_9 rfl) rfl) rfl mw_1830 mw_1831 mw_1832 mw_123 mw_1833 (by decide +kernel) ⟨Nat.le_of_ble_eq_true rfl, Nat.le_of_ble_eq_true rfl⟩ hl.1 rfl (Nat.le_of_ble_eq_true rfl) ⟨Nat.le_of_ble_eq_true rfl, Nat.le_of_ble_eq_true rfl⟩ dL_939 (fun r2 u2 H locs hr2 hk2 hS => ?_)
  have hr2 : r2 = (-2) := hr2
  rw [hr2]
  refine lv_icmp_eq (tgt := 1954) hx hb dL_942 (by decide) (fun _ => ?_) (fun h => absurd rfl h)
  exact lawtail C0 hS hl
theorem dL_947 : decode code 947 = .ok (.aload_n 1, 1) := by decide +kernel
theorem dL_948 : decode code 948 = .ok (.invokevirtual 133, 3) := by decide +kernel
theorem dL_951 : decode code 951 = .ok (.aload_n 2, 1) := by decide +kernel
theorem dL_952 : decode code 952 = .ok (.invokevirtual 136, 3) := by decide +kernel
theorem dL_955 : decode code 955 = .ok (.if_icmp .eq 999, 3) := by decide +kernel
set_option maxHeartbeats 4000000 in
set_option maxRecDepth 100000 in
theorem lc_29 {p : Program} {l : Launch} {e : Env} {s : State} {m : MethodId} {below : List Frame} {meth : Method} {c : Code} {b : Nat} {xs : Nat → Int32} {D : va_G} {K : Nat → ClassId} {ax ay : Nat → Nat} {H : Heap} {locs : List Loc} {ls : Array Slot} (C : lawC p s m meth c b xs D K ax ay H locs ls) : W p l e room_1 s m #[Value.ref b] below meth c H locs 153 180094 (lw_Z below #[Value.ref b] s) (F0 m 947 ls []) := by
  obtain ⟨C0, hE, hK, hNX, hNY, hAX, hAY, hdis, hPX, hPY, hS, hl⟩ := C
  obtain ⟨hx, hb, hr, hml, hown, hts, hX, hbl, hlocks, hgv⟩ := id C0
  have hbA : ¬ lawA s b := Nat.not_le.mpr hbl
  refine lv_aload_n hx hb dL_947 rfl (lv_at hl 2 rfl) ?_
  refine x_vp (nn := 0) (As := []) (rest := []) hE (k_X8_best l D K ax none ) wPre_blind (wPre_now hK hNX hPX) (x_recv hK hPX 0 (by decide) (xG_8 rfl) rfl) rfl mw_970 mw_971 mw_972 mw_114 mw_973 (by decide +kernel) ⟨Nat.le_of_ble_eq_true rfl, Nat.le_of_ble_eq_true rfl⟩ hl.1 rfl (Nat.le_of_ble_eq_true rfl) ⟨Nat.le_of_ble_eq_true rfl, Nat.le_of_ble_eq_true rfl⟩ dL_948 (fun r1 hr1 => ?_)
  have hr1 : r1 = (-2) := hr1
  rw [hr1]
  refine lv_aload_n hx hb dL_951 rfl (lv_at hl 1 rfl) ?_
  refine l_vi (nn := 0) (As := []) (rest := [.int (-2)]) hE hK hNY hPY hS hAY (k_X9_best l D K ay ) (x_recv hK hPY 0 (by decide) (yG_9 rfl) rfl) rfl mw_1838 mw_1839 mw_1840 mw_123 mw_1841 (by decide +kernel) ⟨Nat.le_of_ble_eq_true rfl, Nat.le_of_ble_eq_true rfl⟩ hl.1 rfl (Nat.le_of_ble_eq_true rfl) ⟨Nat.le_of_ble_eq_true rfl, Nat.le_of_ble_eq_true rfl⟩ dL_952 (fun r2 u2 H locs hr2 hk2 hS => ?_)
  have hr2 : r2 = (-2) := hr2
  rw [hr2]
  refine lv_icmp_eq (tgt := 1954) hx hb dL_955 (by decide) (fun _ => ?_) (fun h => absurd rfl h)
  exact lawtail C0 hS hl
theorem dL_960 : decode code 960 = .ok (.aload_n 1, 1) := by decide +kernel
theorem dL_961 : decode code 961 = .ok (.aload_n 0, 1) := by decide +kernel
theorem dL_962 : decode code 962 = .ok (.iload_n 3, 1) := by decide +kernel
theorem dL_963 : decode code 963 = .ok (.iconst 1, 1) := by decide +kernel
theorem dL_964 : decode code 964 = .ok (.iadd, 1) := by decide +kernel
theorem dL_965 : decode code 965 = .ok (.iaload, 1) := by decide +kernel
theorem dL_966 : decode code 966 = .ok (.invokevirtual 137, 3) := by decide +kernel
theorem dL_969 : decode code 969 = .ok (.aload_n 2, 1) := by decide +kernel
theorem dL_970 : decode code 970 = .ok (.aload_n 0, 1) := by decide +kernel
theorem dL_971 : decode code 971 = .ok (.iload_n 3, 1) := by decide +kernel
theorem dL_972 : decode code 972 = .ok (.iconst 1, 1) := by decide +kernel
theorem dL_973 : decode code 973 = .ok (.iadd, 1) := by decide +kernel
theorem dL_974 : decode code 974 = .ok (.iaload, 1) := by decide +kernel
theorem dL_975 : decode code 975 = .ok (.invokevirtual 140, 3) := by decide +kernel
theorem dL_978 : decode code 978 = .ok (.if_icmp .eq 976, 3) := by decide +kernel
set_option maxHeartbeats 4000000 in
set_option maxRecDepth 100000 in
theorem lc_30 {p : Program} {l : Launch} {e : Env} {s : State} {m : MethodId} {below : List Frame} {meth : Method} {c : Code} {b : Nat} {xs : Nat → Int32} {D : va_G} {K : Nat → ClassId} {ax ay : Nat → Nat} {H : Heap} {locs : List Loc} {ls : Array Slot} (C : lawC p s m meth c b xs D K ax ay H locs ls) : W p l e room_1 s m #[Value.ref b] below meth c H locs 153 180094 (lw_Z below #[Value.ref b] s) (F0 m 960 ls []) := by
  obtain ⟨C0, hE, hK, hNX, hNY, hAX, hAY, hdis, hPX, hPY, hS, hl⟩ := C
  obtain ⟨hx, hb, hr, hml, hown, hts, hX, hbl, hlocks, hgv⟩ := id C0
  have hbA : ¬ lawA s b := Nat.not_le.mpr hbl
  refine lv_aload_n hx hb dL_960 rfl (lv_at hl 2 rfl) ?_
  refine lv_aload_n hx hb dL_961 rfl (lv_at hl 3 rfl) ?_
  refine lv_iload_n hx hb dL_962 rfl (lv_at hl 0 rfl) ?_
  refine lv_iconst (v := 1) hx hb dL_963 (by decide) ?_
  refine lv_iadd hx hb dL_964 ?_
  refine x_top (y := 1) (by decide) ?_
  refine va_sld (i := 1) hx hb hX hbl hbA hS (by unfold vp_in; decide) dL_965 ?_
  refine x_vp (nn := 1) (As := [.int (xs (1 : Int32).toNatClampNeg)]) (rest := []) hE (k_X8_tale l D K ax none (xs (1 : Int32).toNatClampNeg)) wPre_blind (wPre_now hK hNX hPX) (x_recv hK hPX 0 (by decide) (xG_8 rfl) rfl) rfl mw_974 mw_975 mw_976 mw_114 mw_977 (by decide +kernel) ⟨Nat.le_of_ble_eq_true rfl, Nat.le_of_ble_eq_true rfl⟩ hl.1 rfl (Nat.le_of_ble_eq_true rfl) ⟨Nat.le_of_ble_eq_true rfl, Nat.le_of_ble_eq_true rfl⟩ dL_966 (fun r1 hr1 => ?_)
  have hr1 : r1 = (-2) := hr1
  rw [hr1]
  refine lv_aload_n hx hb dL_969 rfl (lv_at hl 1 rfl) ?_
  refine lv_aload_n hx hb dL_970 rfl (lv_at hl 3 rfl) ?_
  refine lv_iload_n hx hb dL_971 rfl (lv_at hl 0 rfl) ?_
  refine lv_iconst (v := 1) hx hb dL_972 (by decide) ?_
  refine lv_iadd hx hb dL_973 ?_
  refine x_top (y := 1) (by decide) ?_
  refine va_sld (i := 1) hx hb hX hbl hbA hS (by unfold vp_in; decide) dL_974 ?_
  refine l_vi (nn := 1) (As := [.int (xs (1 : Int32).toNatClampNeg)]) (rest := [.int (-2)]) hE hK hNY hPY hS hAY (k_X9_tale l D K ay (xs (1 : Int32).toNatClampNeg)) (x_recv hK hPY 0 (by decide) (yG_9 rfl) rfl) rfl mw_1842 mw_1843 mw_1844 mw_123 mw_1845 (by decide +kernel) ⟨Nat.le_of_ble_eq_true rfl, Nat.le_of_ble_eq_true rfl⟩ hl.1 rfl (Nat.le_of_ble_eq_true rfl) ⟨Nat.le_of_ble_eq_true rfl, Nat.le_of_ble_eq_true rfl⟩ dL_975 (fun r2 u2 H locs hr2 hk2 hS => ?_)
  have hr2 : r2 = (-2) := hr2
  rw [hr2]
  refine lv_icmp_eq (tgt := 1954) hx hb dL_978 (by decide) (fun _ => ?_) (fun h => absurd rfl h)
  exact lawtail C0 hS hl
theorem dL_983 : decode code 983 = .ok (.aload_n 1, 1) := by decide +kernel
theorem dL_984 : decode code 984 = .ok (.aload_n 0, 1) := by decide +kernel
theorem dL_985 : decode code 985 = .ok (.iload_n 3, 1) := by decide +kernel
theorem dL_986 : decode code 986 = .ok (.iconst 1, 1) := by decide +kernel
theorem dL_987 : decode code 987 = .ok (.iadd, 1) := by decide +kernel
theorem dL_988 : decode code 988 = .ok (.iaload, 1) := by decide +kernel
theorem dL_989 : decode code 989 = .ok (.invokevirtual 141, 3) := by decide +kernel
theorem dL_992 : decode code 992 = .ok (.aload_n 2, 1) := by decide +kernel
theorem dL_993 : decode code 993 = .ok (.aload_n 0, 1) := by decide +kernel
theorem dL_994 : decode code 994 = .ok (.iload_n 3, 1) := by decide +kernel
theorem dL_995 : decode code 995 = .ok (.iconst 1, 1) := by decide +kernel
theorem dL_996 : decode code 996 = .ok (.iadd, 1) := by decide +kernel
theorem dL_997 : decode code 997 = .ok (.iaload, 1) := by decide +kernel
theorem dL_998 : decode code 998 = .ok (.invokevirtual 144, 3) := by decide +kernel
theorem dL_1001 : decode code 1001 = .ok (.if_icmp .eq 953, 3) := by decide +kernel
set_option maxHeartbeats 4000000 in
set_option maxRecDepth 100000 in
theorem lc_31 {p : Program} {l : Launch} {e : Env} {s : State} {m : MethodId} {below : List Frame} {meth : Method} {c : Code} {b : Nat} {xs : Nat → Int32} {D : va_G} {K : Nat → ClassId} {ax ay : Nat → Nat} {H : Heap} {locs : List Loc} {ls : Array Slot} (C : lawC p s m meth c b xs D K ax ay H locs ls) : W p l e room_1 s m #[Value.ref b] below meth c H locs 153 180094 (lw_Z below #[Value.ref b] s) (F0 m 983 ls []) := by
  obtain ⟨C0, hE, hK, hNX, hNY, hAX, hAY, hdis, hPX, hPY, hS, hl⟩ := C
  obtain ⟨hx, hb, hr, hml, hown, hts, hX, hbl, hlocks, hgv⟩ := id C0
  have hbA : ¬ lawA s b := Nat.not_le.mpr hbl
  refine lv_aload_n hx hb dL_983 rfl (lv_at hl 2 rfl) ?_
  refine lv_aload_n hx hb dL_984 rfl (lv_at hl 3 rfl) ?_
  refine lv_iload_n hx hb dL_985 rfl (lv_at hl 0 rfl) ?_
  refine lv_iconst (v := 1) hx hb dL_986 (by decide) ?_
  refine lv_iadd hx hb dL_987 ?_
  refine x_top (y := 1) (by decide) ?_
  refine va_sld (i := 1) hx hb hX hbl hbA hS (by unfold vp_in; decide) dL_988 ?_
  refine x_vp (nn := 1) (As := [.int (xs (1 : Int32).toNatClampNeg)]) (rest := []) hE (k_X8_roof l D K ax none (xs (1 : Int32).toNatClampNeg)) wPre_blind (wPre_now hK hNX hPX) (x_recv hK hPX 0 (by decide) (xG_8 rfl) rfl) rfl mw_978 mw_979 mw_980 mw_114 mw_981 (by decide +kernel) ⟨Nat.le_of_ble_eq_true rfl, Nat.le_of_ble_eq_true rfl⟩ hl.1 rfl (Nat.le_of_ble_eq_true rfl) ⟨Nat.le_of_ble_eq_true rfl, Nat.le_of_ble_eq_true rfl⟩ dL_989 (fun r1 hr1 => ?_)
  have hr1 : r1 = (-2) := hr1
  rw [hr1]
  refine lv_aload_n hx hb dL_992 rfl (lv_at hl 1 rfl) ?_
  refine lv_aload_n hx hb dL_993 rfl (lv_at hl 3 rfl) ?_
  refine lv_iload_n hx hb dL_994 rfl (lv_at hl 0 rfl) ?_
  refine lv_iconst (v := 1) hx hb dL_995 (by decide) ?_
  refine lv_iadd hx hb dL_996 ?_
  refine x_top (y := 1) (by decide) ?_
  refine va_sld (i := 1) hx hb hX hbl hbA hS (by unfold vp_in; decide) dL_997 ?_
  refine l_vi (nn := 1) (As := [.int (xs (1 : Int32).toNatClampNeg)]) (rest := [.int (-2)]) hE hK hNY hPY hS hAY (k_X9_roof l D K ay (xs (1 : Int32).toNatClampNeg)) (x_recv hK hPY 0 (by decide) (yG_9 rfl) rfl) rfl mw_1846 mw_1847 mw_1848 mw_123 mw_1849 (by decide +kernel) ⟨Nat.le_of_ble_eq_true rfl, Nat.le_of_ble_eq_true rfl⟩ hl.1 rfl (Nat.le_of_ble_eq_true rfl) ⟨Nat.le_of_ble_eq_true rfl, Nat.le_of_ble_eq_true rfl⟩ dL_998 (fun r2 u2 H locs hr2 hk2 hS => ?_)
  have hr2 : r2 = (-2) := hr2
  rw [hr2]
  refine lv_icmp_eq (tgt := 1954) hx hb dL_1001 (by decide) (fun _ => ?_) (fun h => absurd rfl h)
  exact lawtail C0 hS hl
theorem dL_1006 : decode code 1006 = .ok (.aload_n 1, 1) := by decide +kernel
theorem dL_1007 : decode code 1007 = .ok (.aload_n 0, 1) := by decide +kernel
theorem dL_1008 : decode code 1008 = .ok (.iload_n 3, 1) := by decide +kernel
theorem dL_1009 : decode code 1009 = .ok (.iconst 1, 1) := by decide +kernel
theorem dL_1010 : decode code 1010 = .ok (.iadd, 1) := by decide +kernel
theorem dL_1011 : decode code 1011 = .ok (.iaload, 1) := by decide +kernel
theorem dL_1012 : decode code 1012 = .ok (.aload_n 0, 1) := by decide +kernel
theorem dL_1013 : decode code 1013 = .ok (.iload_n 3, 1) := by decide +kernel
theorem dL_1014 : decode code 1014 = .ok (.iconst 2, 1) := by decide +kernel
theorem dL_1015 : decode code 1015 = .ok (.iadd, 1) := by decide +kernel
theorem dL_1016 : decode code 1016 = .ok (.iaload, 1) := by decide +kernel
theorem dL_1017 : decode code 1017 = .ok (.invokevirtual 145, 3) := by decide +kernel
theorem dL_1020 : decode code 1020 = .ok (.aload_n 2, 1) := by decide +kernel
theorem dL_1021 : decode code 1021 = .ok (.aload_n 0, 1) := by decide +kernel
theorem dL_1022 : decode code 1022 = .ok (.iload_n 3, 1) := by decide +kernel
theorem dL_1023 : decode code 1023 = .ok (.iconst 1, 1) := by decide +kernel
theorem dL_1024 : decode code 1024 = .ok (.iadd, 1) := by decide +kernel
theorem dL_1025 : decode code 1025 = .ok (.iaload, 1) := by decide +kernel
theorem dL_1026 : decode code 1026 = .ok (.aload_n 0, 1) := by decide +kernel
theorem dL_1027 : decode code 1027 = .ok (.iload_n 3, 1) := by decide +kernel
theorem dL_1028 : decode code 1028 = .ok (.iconst 2, 1) := by decide +kernel
theorem dL_1029 : decode code 1029 = .ok (.iadd, 1) := by decide +kernel
theorem dL_1030 : decode code 1030 = .ok (.iaload, 1) := by decide +kernel
theorem dL_1031 : decode code 1031 = .ok (.invokevirtual 148, 3) := by decide +kernel
theorem dL_1034 : decode code 1034 = .ok (.if_icmp .eq 920, 3) := by decide +kernel
set_option maxHeartbeats 4000000 in
set_option maxRecDepth 100000 in
theorem lc_32 {p : Program} {l : Launch} {e : Env} {s : State} {m : MethodId} {below : List Frame} {meth : Method} {c : Code} {b : Nat} {xs : Nat → Int32} {D : va_G} {K : Nat → ClassId} {ax ay : Nat → Nat} {H : Heap} {locs : List Loc} {ls : Array Slot} (C : lawC p s m meth c b xs D K ax ay H locs ls) : W p l e room_1 s m #[Value.ref b] below meth c H locs 153 180094 (lw_Z below #[Value.ref b] s) (F0 m 1006 ls []) := by
  obtain ⟨C0, hE, hK, hNX, hNY, hAX, hAY, hdis, hPX, hPY, hS, hl⟩ := C
  obtain ⟨hx, hb, hr, hml, hown, hts, hX, hbl, hlocks, hgv⟩ := id C0
  have hbA : ¬ lawA s b := Nat.not_le.mpr hbl
  refine lv_aload_n hx hb dL_1006 rfl (lv_at hl 2 rfl) ?_
  refine lv_aload_n hx hb dL_1007 rfl (lv_at hl 3 rfl) ?_
  refine lv_iload_n hx hb dL_1008 rfl (lv_at hl 0 rfl) ?_
  refine lv_iconst (v := 1) hx hb dL_1009 (by decide) ?_
  refine lv_iadd hx hb dL_1010 ?_
  refine x_top (y := 1) (by decide) ?_
  refine va_sld (i := 1) hx hb hX hbl hbA hS (by unfold vp_in; decide) dL_1011 ?_
  refine lv_aload_n hx hb dL_1012 rfl (lv_at hl 3 rfl) ?_
  refine lv_iload_n hx hb dL_1013 rfl (lv_at hl 0 rfl) ?_
  refine lv_iconst (v := 2) hx hb dL_1014 (by decide) ?_
  refine lv_iadd hx hb dL_1015 ?_
  refine x_top (y := 2) (by decide) ?_
  refine va_sld (i := 2) hx hb hX hbl hbA hS (by unfold vp_in; decide) dL_1016 ?_
  refine x_vp (nn := 2) (As := [.int (xs (1 : Int32).toNatClampNeg), .int (xs (2 : Int32).toNatClampNeg)]) (rest := []) hE (k_X8_beam l D K ax none (xs (1 : Int32).toNatClampNeg) (xs (2 : Int32).toNatClampNeg)) wPre_blind (wPre_now hK hNX hPX) (x_recv hK hPX 0 (by decide) (xG_8 rfl) rfl) rfl mw_982 mw_983 mw_984 mw_114 mw_985 (by decide +kernel) ⟨Nat.le_of_ble_eq_true rfl, Nat.le_of_ble_eq_true rfl⟩ hl.1 rfl (Nat.le_of_ble_eq_true rfl) ⟨Nat.le_of_ble_eq_true rfl, Nat.le_of_ble_eq_true rfl⟩ dL_1017 (fun r1 hr1 => ?_)
  have hr1 : r1 = (-2) := hr1
  rw [hr1]
  refine lv_aload_n hx hb dL_1020 rfl (lv_at hl 1 rfl) ?_
  refine lv_aload_n hx hb dL_1021 rfl (lv_at hl 3 rfl) ?_
  refine lv_iload_n hx hb dL_1022 rfl (lv_at hl 0 rfl) ?_
  refine lv_iconst (v := 1) hx hb dL_1023 (by decide) ?_
  refine lv_iadd hx hb dL_1024 ?_
  refine x_top (y := 1) (by decide) ?_
  refine va_sld (i := 1) hx hb hX hbl hbA hS (by unfold vp_in; decide) dL_1025 ?_
  refine lv_aload_n hx hb dL_1026 rfl (lv_at hl 3 rfl) ?_
  refine lv_iload_n hx hb dL_1027 rfl (lv_at hl 0 rfl) ?_
  refine lv_iconst (v := 2) hx hb dL_1028 (by decide) ?_
  refine lv_iadd hx hb dL_1029 ?_
  refine x_top (y := 2) (by decide) ?_
  refine va_sld (i := 2) hx hb hX hbl hbA hS (by unfold vp_in; decide) dL_1030 ?_
  refine l_vi (nn := 2) (As := [.int (xs (1 : Int32).toNatClampNeg), .int (xs (2 : Int32).toNatClampNeg)]) (rest := [.int (-2)]) hE hK hNY hPY hS hAY (k_X9_beam l D K ay (xs (1 : Int32).toNatClampNeg) (xs (2 : Int32).toNatClampNeg)) (x_recv hK hPY 0 (by decide) (yG_9 rfl) rfl) rfl mw_1850 mw_1851 mw_1852 mw_123 mw_1853 (by decide +kernel) ⟨Nat.le_of_ble_eq_true rfl, Nat.le_of_ble_eq_true rfl⟩ hl.1 rfl (Nat.le_of_ble_eq_true rfl) ⟨Nat.le_of_ble_eq_true rfl, Nat.le_of_ble_eq_true rfl⟩ dL_1031 (fun r2 u2 H locs hr2 hk2 hS => ?_)
  have hr2 : r2 = (-2) := hr2
  rw [hr2]
  refine lv_icmp_eq (tgt := 1954) hx hb dL_1034 (by decide) (fun _ => ?_) (fun h => absurd rfl h)
  exact lawtail C0 hS hl
theorem dL_1039 : decode code 1039 = .ok (.aload_n 1, 1) := by decide +kernel
theorem dL_1040 : decode code 1040 = .ok (.aload_n 0, 1) := by decide +kernel
theorem dL_1041 : decode code 1041 = .ok (.iload_n 3, 1) := by decide +kernel
theorem dL_1042 : decode code 1042 = .ok (.iconst 1, 1) := by decide +kernel
theorem dL_1043 : decode code 1043 = .ok (.iadd, 1) := by decide +kernel
theorem dL_1044 : decode code 1044 = .ok (.iaload, 1) := by decide +kernel
theorem dL_1045 : decode code 1045 = .ok (.invokevirtual 149, 3) := by decide +kernel
theorem dL_1048 : decode code 1048 = .ok (.aload_n 2, 1) := by decide +kernel
theorem dL_1049 : decode code 1049 = .ok (.aload_n 0, 1) := by decide +kernel
theorem dL_1050 : decode code 1050 = .ok (.iload_n 3, 1) := by decide +kernel
theorem dL_1051 : decode code 1051 = .ok (.iconst 1, 1) := by decide +kernel
theorem dL_1052 : decode code 1052 = .ok (.iadd, 1) := by decide +kernel
theorem dL_1053 : decode code 1053 = .ok (.iaload, 1) := by decide +kernel
theorem dL_1054 : decode code 1054 = .ok (.invokevirtual 152, 3) := by decide +kernel
theorem dL_1057 : decode code 1057 = .ok (.if_icmp .eq 897, 3) := by decide +kernel
set_option maxHeartbeats 4000000 in
set_option maxRecDepth 100000 in
theorem lc_33 {p : Program} {l : Launch} {e : Env} {s : State} {m : MethodId} {below : List Frame} {meth : Method} {c : Code} {b : Nat} {xs : Nat → Int32} {D : va_G} {K : Nat → ClassId} {ax ay : Nat → Nat} {H : Heap} {locs : List Loc} {ls : Array Slot} (C : lawC p s m meth c b xs D K ax ay H locs ls) : W p l e room_1 s m #[Value.ref b] below meth c H locs 153 180094 (lw_Z below #[Value.ref b] s) (F0 m 1039 ls []) := by
  obtain ⟨C0, hE, hK, hNX, hNY, hAX, hAY, hdis, hPX, hPY, hS, hl⟩ := C
  obtain ⟨hx, hb, hr, hml, hown, hts, hX, hbl, hlocks, hgv⟩ := id C0
  have hbA : ¬ lawA s b := Nat.not_le.mpr hbl
  refine lv_aload_n hx hb dL_1039 rfl (lv_at hl 2 rfl) ?_
  refine lv_aload_n hx hb dL_1040 rfl (lv_at hl 3 rfl) ?_
  refine lv_iload_n hx hb dL_1041 rfl (lv_at hl 0 rfl) ?_
  refine lv_iconst (v := 1) hx hb dL_1042 (by decide) ?_
  refine lv_iadd hx hb dL_1043 ?_
  refine x_top (y := 1) (by decide) ?_
  refine va_sld (i := 1) hx hb hX hbl hbA hS (by unfold vp_in; decide) dL_1044 ?_
  refine x_vp (nn := 1) (As := [.int (xs (1 : Int32).toNatClampNeg)]) (rest := []) hE (k_X8_rows l D K ax none (xs (1 : Int32).toNatClampNeg)) wPre_blind (wPre_now hK hNX hPX) (x_recv hK hPX 0 (by decide) (xG_8 rfl) rfl) rfl mw_986 mw_987 mw_988 mw_114 mw_989 (by decide +kernel) ⟨Nat.le_of_ble_eq_true rfl, Nat.le_of_ble_eq_true rfl⟩ hl.1 rfl (Nat.le_of_ble_eq_true rfl) ⟨Nat.le_of_ble_eq_true rfl, Nat.le_of_ble_eq_true rfl⟩ dL_1045 (fun r1 hr1 => ?_)
  have hr1 : r1 = (-2) := hr1
  rw [hr1]
  refine lv_aload_n hx hb dL_1048 rfl (lv_at hl 1 rfl) ?_
  refine lv_aload_n hx hb dL_1049 rfl (lv_at hl 3 rfl) ?_
  refine lv_iload_n hx hb dL_1050 rfl (lv_at hl 0 rfl) ?_
  refine lv_iconst (v := 1) hx hb dL_1051 (by decide) ?_
  refine lv_iadd hx hb dL_1052 ?_
  refine x_top (y := 1) (by decide) ?_
  refine va_sld (i := 1) hx hb hX hbl hbA hS (by unfold vp_in; decide) dL_1053 ?_
  refine l_vi (nn := 1) (As := [.int (xs (1 : Int32).toNatClampNeg)]) (rest := [.int (-2)]) hE hK hNY hPY hS hAY (k_X9_rows l D K ay (xs (1 : Int32).toNatClampNeg)) (x_recv hK hPY 0 (by decide) (yG_9 rfl) rfl) rfl mw_1854 mw_1855 mw_1856 mw_123 mw_1857 (by decide +kernel) ⟨Nat.le_of_ble_eq_true rfl, Nat.le_of_ble_eq_true rfl⟩ hl.1 rfl (Nat.le_of_ble_eq_true rfl) ⟨Nat.le_of_ble_eq_true rfl, Nat.le_of_ble_eq_true rfl⟩ dL_1054 (fun r2 u2 H locs hr2 hk2 hS => ?_)
  have hr2 : r2 = (-2) := hr2
  rw [hr2]
  refine lv_icmp_eq (tgt := 1954) hx hb dL_1057 (by decide) (fun _ => ?_) (fun h => absurd rfl h)
  exact lawtail C0 hS hl
theorem dL_1062 : decode code 1062 = .ok (.aload_n 1, 1) := by decide +kernel
theorem dL_1063 : decode code 1063 = .ok (.invokevirtual 153, 3) := by decide +kernel
theorem dL_1066 : decode code 1066 = .ok (.aload_n 2, 1) := by decide +kernel
theorem dL_1067 : decode code 1067 = .ok (.invokevirtual 156, 3) := by decide +kernel
theorem dL_1070 : decode code 1070 = .ok (.if_icmp .eq 884, 3) := by decide +kernel
set_option maxHeartbeats 4000000 in
set_option maxRecDepth 100000 in
theorem lc_34 {p : Program} {l : Launch} {e : Env} {s : State} {m : MethodId} {below : List Frame} {meth : Method} {c : Code} {b : Nat} {xs : Nat → Int32} {D : va_G} {K : Nat → ClassId} {ax ay : Nat → Nat} {H : Heap} {locs : List Loc} {ls : Array Slot} (C : lawC p s m meth c b xs D K ax ay H locs ls) : W p l e room_1 s m #[Value.ref b] below meth c H locs 153 180094 (lw_Z below #[Value.ref b] s) (F0 m 1062 ls []) := by
  obtain ⟨C0, hE, hK, hNX, hNY, hAX, hAY, hdis, hPX, hPY, hS, hl⟩ := C
  obtain ⟨hx, hb, hr, hml, hown, hts, hX, hbl, hlocks, hgv⟩ := id C0
  have hbA : ¬ lawA s b := Nat.not_le.mpr hbl
  refine lv_aload_n hx hb dL_1062 rfl (lv_at hl 2 rfl) ?_
  refine x_vp (nn := 0) (As := []) (rest := []) hE (k_X8_wholes l D K ax none ) wPre_blind (wPre_now hK hNX hPX) (x_recv hK hPX 0 (by decide) (xG_8 rfl) rfl) rfl mw_990 mw_991 mw_992 mw_114 mw_993 (by decide +kernel) ⟨Nat.le_of_ble_eq_true rfl, Nat.le_of_ble_eq_true rfl⟩ hl.1 rfl (Nat.le_of_ble_eq_true rfl) ⟨Nat.le_of_ble_eq_true rfl, Nat.le_of_ble_eq_true rfl⟩ dL_1063 (fun r1 hr1 => ?_)
  have hr1 : r1 = (-2) := hr1
  rw [hr1]
  refine lv_aload_n hx hb dL_1066 rfl (lv_at hl 1 rfl) ?_
  refine l_vi (nn := 0) (As := []) (rest := [.int (-2)]) hE hK hNY hPY hS hAY (k_X9_wholes l D K ay ) (x_recv hK hPY 0 (by decide) (yG_9 rfl) rfl) rfl mw_1859 mw_1860 mw_1861 mw_123 mw_1862 (by decide +kernel) ⟨Nat.le_of_ble_eq_true rfl, Nat.le_of_ble_eq_true rfl⟩ hl.1 rfl (Nat.le_of_ble_eq_true rfl) ⟨Nat.le_of_ble_eq_true rfl, Nat.le_of_ble_eq_true rfl⟩ dL_1067 (fun r2 u2 H locs hr2 hk2 hS => ?_)
  have hr2 : r2 = (-2) := hr2
  rw [hr2]
  refine lv_icmp_eq (tgt := 1954) hx hb dL_1070 (by decide) (fun _ => ?_) (fun h => absurd rfl h)
  exact lawtail C0 hS hl
theorem dL_1075 : decode code 1075 = .ok (.aload_n 1, 1) := by decide +kernel
theorem dL_1076 : decode code 1076 = .ok (.aload_n 0, 1) := by decide +kernel
theorem dL_1077 : decode code 1077 = .ok (.iload_n 3, 1) := by decide +kernel
theorem dL_1078 : decode code 1078 = .ok (.iconst 1, 1) := by decide +kernel
theorem dL_1079 : decode code 1079 = .ok (.iadd, 1) := by decide +kernel
theorem dL_1080 : decode code 1080 = .ok (.iaload, 1) := by decide +kernel
theorem dL_1081 : decode code 1081 = .ok (.invokevirtual 157, 3) := by decide +kernel
theorem dL_1084 : decode code 1084 = .ok (.aload_n 2, 1) := by decide +kernel
theorem dL_1085 : decode code 1085 = .ok (.aload_n 0, 1) := by decide +kernel
theorem dL_1086 : decode code 1086 = .ok (.iload_n 3, 1) := by decide +kernel
theorem dL_1087 : decode code 1087 = .ok (.iconst 1, 1) := by decide +kernel
theorem dL_1088 : decode code 1088 = .ok (.iadd, 1) := by decide +kernel
theorem dL_1089 : decode code 1089 = .ok (.iaload, 1) := by decide +kernel
theorem dL_1090 : decode code 1090 = .ok (.invokevirtual 160, 3) := by decide +kernel
theorem dL_1093 : decode code 1093 = .ok (.if_icmp .eq 861, 3) := by decide +kernel
set_option maxHeartbeats 4000000 in
set_option maxRecDepth 100000 in
theorem lc_35 {p : Program} {l : Launch} {e : Env} {s : State} {m : MethodId} {below : List Frame} {meth : Method} {c : Code} {b : Nat} {xs : Nat → Int32} {D : va_G} {K : Nat → ClassId} {ax ay : Nat → Nat} {H : Heap} {locs : List Loc} {ls : Array Slot} (C : lawC p s m meth c b xs D K ax ay H locs ls) : W p l e room_1 s m #[Value.ref b] below meth c H locs 153 180094 (lw_Z below #[Value.ref b] s) (F0 m 1075 ls []) := by
  obtain ⟨C0, hE, hK, hNX, hNY, hAX, hAY, hdis, hPX, hPY, hS, hl⟩ := C
  obtain ⟨hx, hb, hr, hml, hown, hts, hX, hbl, hlocks, hgv⟩ := id C0
  have hbA : ¬ lawA s b := Nat.not_le.mpr hbl
  refine lv_aload_n hx hb dL_1075 rfl (lv_at hl 2 rfl) ?_
  refine lv_aload_n hx hb dL_1076 rfl (lv_at hl 3 rfl) ?_
  refine lv_iload_n hx hb dL_1077 rfl (lv_at hl 0 rfl) ?_
  refine lv_iconst (v := 1) hx hb dL_1078 (by decide) ?_
  refine lv_iadd hx hb dL_1079 ?_
  refine x_top (y := 1) (by decide) ?_
  refine va_sld (i := 1) hx hb hX hbl hbA hS (by unfold vp_in; decide) dL_1080 ?_
  refine x_vp (nn := 1) (As := [.int (xs (1 : Int32).toNatClampNeg)]) (rest := []) hE (k_X8_ends l D K ax none (xs (1 : Int32).toNatClampNeg)) wPre_blind (wPre_now hK hNX hPX) (x_recv hK hPX 0 (by decide) (xG_8 rfl) rfl) rfl mw_998 mw_999 mw_1000 mw_114 mw_1001 (by decide +kernel) ⟨Nat.le_of_ble_eq_true rfl, Nat.le_of_ble_eq_true rfl⟩ hl.1 rfl (Nat.le_of_ble_eq_true rfl) ⟨Nat.le_of_ble_eq_true rfl, Nat.le_of_ble_eq_true rfl⟩ dL_1081 (fun r1 hr1 => ?_)
  have hr1 : r1 = (-2) := hr1
  rw [hr1]
  refine lv_aload_n hx hb dL_1084 rfl (lv_at hl 1 rfl) ?_
  refine lv_aload_n hx hb dL_1085 rfl (lv_at hl 3 rfl) ?_
  refine lv_iload_n hx hb dL_1086 rfl (lv_at hl 0 rfl) ?_
  refine lv_iconst (v := 1) hx hb dL_1087 (by decide) ?_
  refine lv_iadd hx hb dL_1088 ?_
  refine x_top (y := 1) (by decide) ?_
  refine va_sld (i := 1) hx hb hX hbl hbA hS (by unfold vp_in; decide) dL_1089 ?_
  refine l_vi (nn := 1) (As := [.int (xs (1 : Int32).toNatClampNeg)]) (rest := [.int (-2)]) hE hK hNY hPY hS hAY (k_X9_ends l D K ay (xs (1 : Int32).toNatClampNeg)) (x_recv hK hPY 0 (by decide) (yG_9 rfl) rfl) rfl mw_1867 mw_1868 mw_1869 mw_123 mw_1870 (by decide +kernel) ⟨Nat.le_of_ble_eq_true rfl, Nat.le_of_ble_eq_true rfl⟩ hl.1 rfl (Nat.le_of_ble_eq_true rfl) ⟨Nat.le_of_ble_eq_true rfl, Nat.le_of_ble_eq_true rfl⟩ dL_1090 (fun r2 u2 H locs hr2 hk2 hS => ?_)
  have hr2 : r2 = (-2) := hr2
  rw [hr2]
  refine lv_icmp_eq (tgt := 1954) hx hb dL_1093 (by decide) (fun _ => ?_) (fun h => absurd rfl h)
  exact lawtail C0 hS hl
