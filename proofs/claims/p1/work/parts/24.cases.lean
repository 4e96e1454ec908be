theorem dL_1098 : decode code 1098 = .ok (.aload_n 1, 1) := by decide +kernel
theorem dL_1099 : decode code 1099 = .ok (.aload_n 0, 1) := by decide +kernel
theorem dL_1100 : decode code 1100 = .ok (.iload_n 3, 1) := by decide +kernel
theorem dL_1101 : decode code 1101 = .ok (.iconst 1, 1) := by decide +kernel
theorem dL_1102 : decode code 1102 = .ok (.iadd, 1) := by decide +kernel
theorem dL_1103 : decode code 1103 = .ok (.iaload, 1) := by decide +kernel
theorem dL_1104 : decode code 1104 = .ok (.invokevirtual 161, 3) := by decide +kernel
theorem dL_1107 : decode code 1107 = .ok (.aload_n 2, 1) := by decide +kernel
theorem dL_1108 : decode code 1108 = .ok (.aload_n 0, 1) := by decide +kernel
theorem dL_1109 : decode code 1109 = .ok (.iload_n 3, 1) := by decide +kernel
theorem dL_1110 : decode code 1110 = .ok (.iconst 1, 1) := by decide +kernel
theorem dL_1111 : decode code 1111 = .ok (.iadd, 1) := by decide +kernel
theorem dL_1112 : decode code 1112 = .ok (.iaload, 1) := by decide +kernel
theorem dL_1113 : decode code 1113 = .ok (.invokevirtual 164, 3) := by decide +kernel
theorem dL_1116 : decode code 1116 = .ok (.if_icmp .eq 838, 3) := by decide +kernel
set_option maxHeartbeats 4000000 in
set_option maxRecDepth 100000 in
theorem lc_36 {p : Program} {l : Launch} {e : Env} {s : State} {m : MethodId} {below : List Frame} {meth : Method} {c : Code} {b : Nat} {xs : Nat → Int32} {D : va_G} {K : Nat → ClassId} {ax ay : Nat → Nat} {H : Heap} {locs : List Loc} {ls : Array Slot} (C : lawC p s m meth c b xs D K ax ay H locs ls) : W p l e room_1 s m #[Value.ref b] below meth c H locs 153 180094 (lw_Z below #[Value.ref b] s) (F0 m 1098 ls []) := by
  obtain ⟨C0, hE, hK, hNX, hNY, hAX, hAY, hdis, hPX, hPY, hS, hl⟩ := C
  obtain ⟨hx, hb, hr, hml, hown, hts, hX, hbl, hlocks, hgv⟩ := id C0
  have hbA : ¬ lawA s b := Nat.not_le.mpr hbl
  refine lv_aload_n hx hb dL_1098 rfl (lv_at hl 2 rfl) ?_
  refine lv_aload_n hx hb dL_1099 rfl (lv_at hl 3 rfl) ?_
  refine lv_iload_n hx hb dL_1100 rfl (lv_at hl 0 rfl) ?_
  refine lv_iconst (v := 1) hx hb dL_1101 (by decide) ?_
  refine lv_iadd hx hb dL_1102 ?_
  refine x_top (y := 1) (by decide) ?_
  refine va_sld (i := 1) hx hb hX hbl hbA hS (by unfold vp_in; decide) dL_1103 ?_
  refine x_vp (nn := 1) (As := [.int (xs (1 : Int32).toNatClampNeg)]) (rest := []) hE (k_X8_always l D K ax none (xs (1 : Int32).toNatClampNeg)) wPre_blind (wPre_now hK hNX hPX) (x_recv hK hPX 0 (by decide) (xG_8 rfl) rfl) rfl mw_1002 mw_1003 mw_1004 mw_114 mw_1005 (by decide +kernel) ⟨Nat.le_of_ble_eq_true rfl, Nat.le_of_ble_eq_true rfl⟩ hl.1 rfl (Nat.le_of_ble_eq_true rfl) ⟨Nat.le_of_ble_eq_true rfl, Nat.le_of_ble_eq_true rfl⟩ dL_1104 (fun r1 hr1 => ?_)
  have hr1 : r1 = (-2) := hr1
  rw [hr1]
  refine lv_aload_n hx hb dL_1107 rfl (lv_at hl 1 rfl) ?_
  refine lv_aload_n hx hb dL_1108 rfl (lv_at hl 3 rfl) ?_
  refine lv_iload_n hx hb dL_1109 rfl (lv_at hl 0 rfl) ?_
  refine lv_iconst (v := 1) hx hb dL_1110 (by decide) ?_
  refine lv_iadd hx hb dL_1111 ?_
  refine x_top (y := 1) (by decide) ?_
  refine va_sld (i := 1) hx hb hX hbl hbA hS (by unfold vp_in; decide) dL_1112 ?_
  refine l_vi (nn := 1) (As := [.int (xs (1 : Int32).toNatClampNeg)]) (rest := [.int (-2)]) hE hK hNY hPY hS hAY (k_X9_always l D K ay (xs (1 : Int32).toNatClampNeg)) (x_recv hK hPY 0 (by decide) (yG_9 rfl) rfl) rfl mw_1871 mw_1872 mw_1873 mw_123 mw_1874 (by decide +kernel) ⟨Nat.le_of_ble_eq_true rfl, Nat.le_of_ble_eq_true rfl⟩ hl.1 rfl (Nat.le_of_ble_eq_true rfl) ⟨Nat.le_of_ble_eq_true rfl, Nat.le_of_ble_eq_true rfl⟩ dL_1113 (fun r2 u2 H locs hr2 hk2 hS => ?_)
  have hr2 : r2 = (-2) := hr2
  rw [hr2]
  refine lv_icmp_eq (tgt := 1954) hx hb dL_1116 (by decide) (fun _ => ?_) (fun h => absurd rfl h)
  exact lawtail C0 hS hl
theorem dL_1121 : decode code 1121 = .ok (.aload_n 1, 1) := by decide +kernel
theorem dL_1122 : decode code 1122 = .ok (.invokevirtual 165, 3) := by decide +kernel
theorem dL_1125 : decode code 1125 = .ok (.aload_n 2, 1) := by decide +kernel
theorem dL_1126 : decode code 1126 = .ok (.invokevirtual 168, 3) := by decide +kernel
theorem dL_1129 : decode code 1129 = .ok (.if_icmp .eq 825, 3) := by decide +kernel
set_option maxHeartbeats 4000000 in
set_option maxRecDepth 100000 in
theorem lc_37 {p : Program} {l : Launch} {e : Env} {s : State} {m : MethodId} {below : List Frame} {meth : Method} {c : Code} {b : Nat} {xs : Nat → Int32} {D : va_G} {K : Nat → ClassId} {ax ay : Nat → Nat} {H : Heap} {locs : List Loc} {ls : Array Slot} (C : lawC p s m meth c b xs D K ax ay H locs ls) : W p l e room_1 s m #[Value.ref b] below meth c H locs 153 180094 (lw_Z below #[Value.ref b] s) (F0 m 1121 ls []) := by
  obtain ⟨C0, hE, hK, hNX, hNY, hAX, hAY, hdis, hPX, hPY, hS, hl⟩ := C
  obtain ⟨hx, hb, hr, hml, hown, hts, hX, hbl, hlocks, hgv⟩ := id C0
  have hbA : ¬ lawA s b := Nat.not_le.mpr hbl
  refine lv_aload_n hx hb dL_1121 rfl (lv_at hl 2 rfl) ?_
  refine x_vp (nn := 0) (As := []) (rest := []) hE (k_X8_wins l D K ax none ) wPre_blind (wPre_now hK hNX hPX) (x_recv hK hPX 0 (by decide) (xG_8 rfl) rfl) rfl mw_1023 mw_1024 mw_1025 mw_114 mw_1026 (by decide +kernel) ⟨Nat.le_of_ble_eq_true rfl, Nat.le_of_ble_eq_true rfl⟩ hl.1 rfl (Nat.le_of_ble_eq_true rfl) ⟨Nat.le_of_ble_eq_true rfl, Nat.le_of_ble_eq_true rfl⟩ dL_1122 (fun r1 hr1 => ?_)
  have hr1 : r1 = (-2) := hr1
  rw [hr1]
  refine lv_aload_n hx hb dL_1125 rfl (lv_at hl 1 rfl) ?_
  refine l_vi (nn := 0) (As := []) (rest := [.int (-2)]) hE hK hNY hPY hS hAY (k_X9_wins l D K ay ) (x_recv hK hPY 0 (by decide) (yG_9 rfl) rfl) rfl mw_1875 mw_1876 mw_1877 mw_123 mw_1878 (by decide +kernel) ⟨Nat.le_of_ble_eq_true rfl, Nat.le_of_ble_eq_true rfl⟩ hl.1 rfl (Nat.le_of_ble_eq_true rfl) ⟨Nat.le_of_ble_eq_true rfl, Nat.le_of_ble_eq_true rfl⟩ dL_1126 (fun r2 u2 H locs hr2 hk2 hS => ?_)
  have hr2 : r2 = (-2) := hr2
  rw [hr2]
  refine lv_icmp_eq (tgt := 1954) hx hb dL_1129 (by decide) (fun _ => ?_) (fun h => absurd rfl h)
  exact lawtail C0 hS hl
theorem dL_1134 : decode code 1134 = .ok (.aload_n 1, 1) := by decide +kernel
theorem dL_1135 : decode code 1135 = .ok (.invokevirtual 169, 3) := by decide +kernel
theorem dL_1138 : decode code 1138 = .ok (.aload_n 2, 1) := by decide +kernel
theorem dL_1139 : decode code 1139 = .ok (.invokevirtual 172, 3) := by decide +kernel
theorem dL_1142 : decode code 1142 = .ok (.if_icmp .eq 812, 3) := by decide +kernel
set_option maxHeartbeats 4000000 in
set_option maxRecDepth 100000 in
theorem lc_38 {p : Program} {l : Launch} {e : Env} {s : State} {m : MethodId} {below : List Frame} {meth : Method} {c : Code} {b : Nat} {xs : Nat → Int32} {D : va_G} {K : Nat → ClassId} {ax ay : Nat → Nat} {H : Heap} {locs : List Loc} {ls : Array Slot} (C : lawC p s m meth c b xs D K ax ay H locs ls) : W p l e room_1 s m #[Value.ref b] below meth c H locs 153 180094 (lw_Z below #[Value.ref b] s) (F0 m 1134 ls []) := by
  obtain ⟨C0, hE, hK, hNX, hNY, hAX, hAY, hdis, hPX, hPY, hS, hl⟩ := C
  obtain ⟨hx, hb, hr, hml, hown, hts, hX, hbl, hlocks, hgv⟩ := id C0
  have hbA : ¬ lawA s b := Nat.not_le.mpr hbl
  refine lv_aload_n hx hb dL_1134 rfl (lv_at hl 2 rfl) ?_
  refine x_vp (nn := 0) (As := []) (rest := []) hE (k_X8_move l D K ax none ) wPre_blind (wPre_now hK hNX hPX) (x_recv hK hPX 0 (by decide) (xG_8 rfl) rfl) rfl mw_1064 mw_1065 mw_1066 mw_114 mw_1067 (by decide +kernel) ⟨Nat.le_of_ble_eq_true rfl, Nat.le_of_ble_eq_true rfl⟩ hl.1 rfl (Nat.le_of_ble_eq_true rfl) ⟨Nat.le_of_ble_eq_true rfl, Nat.le_of_ble_eq_true rfl⟩ dL_1135 (fun r1 hr1 => ?_)
  have hr1 : r1 = (-2) := hr1
  rw [hr1]
  refine lv_aload_n hx hb dL_1138 rfl (lv_at hl 1 rfl) ?_
  refine l_vi (nn := 0) (As := []) (rest := [.int (-2)]) hE hK hNY hPY hS hAY (k_X9_move l D K ay ) (x_recv hK hPY 0 (by decide) (yG_9 rfl) rfl) rfl mw_1910 mw_1911 mw_1912 mw_123 mw_1913 (by decide +kernel) ⟨Nat.le_of_ble_eq_true rfl, Nat.le_of_ble_eq_true rfl⟩ hl.1 rfl (Nat.le_of_ble_eq_true rfl) ⟨Nat.le_of_ble_eq_true rfl, Nat.le_of_ble_eq_true rfl⟩ dL_1139 (fun r2 u2 H locs hr2 hk2 hS => ?_)
  have hr2 : r2 = (-2) := hr2
  rw [hr2]
  refine lv_icmp_eq (tgt := 1954) hx hb dL_1142 (by decide) (fun _ => ?_) (fun h => absurd rfl h)
  exact lawtail C0 hS hl
theorem dL_1147 : decode code 1147 = .ok (.aload_n 1, 1) := by decide +kernel
theorem dL_1148 : decode code 1148 = .ok (.invokevirtual 173, 3) := by decide +kernel
theorem dL_1151 : decode code 1151 = .ok (.aload_n 2, 1) := by decide +kernel
theorem dL_1152 : decode code 1152 = .ok (.invokevirtual 176, 3) := by decide +kernel
theorem dL_1155 : decode code 1155 = .ok (.if_icmp .eq 799, 3) := by decide +kernel
set_option maxHeartbeats 4000000 in
set_option maxRecDepth 100000 in
theorem lc_39 {p : Program} {l : Launch} {e : Env} {s : State} {m : MethodId} {below : List Frame} {meth : Method} {c : Code} {b : Nat} {xs : Nat → Int32} {D : va_G} {K : Nat → ClassId} {ax ay : Nat → Nat} {H : Heap} {locs : List Loc} {ls : Array Slot} (C : lawC p s m meth c b xs D K ax ay H locs ls) : W p l e room_1 s m #[Value.ref b] below meth c H locs 153 180094 (lw_Z below #[Value.ref b] s) (F0 m 1147 ls []) := by
  obtain ⟨C0, hE, hK, hNX, hNY, hAX, hAY, hdis, hPX, hPY, hS, hl⟩ := C
  obtain ⟨hx, hb, hr, hml, hown, hts, hX, hbl, hlocks, hgv⟩ := id C0
  have hbA : ¬ lawA s b := Nat.not_le.mpr hbl
  refine lv_aload_n hx hb dL_1147 rfl (lv_at hl 2 rfl) ?_
  refine x_vp (nn := 0) (As := []) (rest := []) hE (k_X8_lasts l D K ax none ) wPre_blind (wPre_now hK hNX hPX) (x_recv hK hPX 0 (by decide) (xG_8 rfl) rfl) rfl mw_1073 mw_1074 mw_1075 mw_114 mw_1076 (by decide +kernel) ⟨Nat.le_of_ble_eq_true rfl, Nat.le_of_ble_eq_true rfl⟩ hl.1 rfl (Nat.le_of_ble_eq_true rfl) ⟨Nat.le_of_ble_eq_true rfl, Nat.le_of_ble_eq_true rfl⟩ dL_1148 (fun r1 hr1 => ?_)
  have hr1 : r1 = (-2) := hr1
  rw [hr1]
  refine lv_aload_n hx hb dL_1151 rfl (lv_at hl 1 rfl) ?_
  refine l_vi (nn := 0) (As := []) (rest := [.int (-2)]) hE hK hNY hPY hS hAY (k_X9_lasts l D K ay ) (x_recv hK hPY 0 (by decide) (yG_9 rfl) rfl) rfl mw_1918 mw_1919 mw_1920 mw_123 mw_1921 (by decide +kernel) ⟨Nat.le_of_ble_eq_true rfl, Nat.le_of_ble_eq_true rfl⟩ hl.1 rfl (Nat.le_of_ble_eq_true rfl) ⟨Nat.le_of_ble_eq_true rfl, Nat.le_of_ble_eq_true rfl⟩ dL_1152 (fun r2 u2 H locs hr2 hk2 hS => ?_)
  have hr2 : r2 = (-2) := hr2
  rw [hr2]
  refine lv_icmp_eq (tgt := 1954) hx hb dL_1155 (by decide) (fun _ => ?_) (fun h => absurd rfl h)
  exact lawtail C0 hS hl
theorem dL_1160 : decode code 1160 = .ok (.aload_n 1, 1) := by decide +kernel
theorem dL_1161 : decode code 1161 = .ok (.invokevirtual 177, 3) := by decide +kernel
theorem dL_1164 : decode code 1164 = .ok (.aload_n 2, 1) := by decide +kernel
theorem dL_1165 : decode code 1165 = .ok (.invokevirtual 180, 3) := by decide +kernel
theorem dL_1168 : decode code 1168 = .ok (.if_icmp .eq 786, 3) := by decide +kernel
set_option maxHeartbeats 4000000 in
set_option maxRecDepth 100000 in
theorem lc_40 {p : Program} {l : Launch} {e : Env} {s : State} {m : MethodId} {below : List Frame} {meth : Method} {c : Code} {b : Nat} {xs : Nat → Int32} {D : va_G} {K : Nat → ClassId} {ax ay : Nat → Nat} {H : Heap} {locs : List Loc} {ls : Array Slot} (C : lawC p s m meth c b xs D K ax ay H locs ls) : W p l e room_1 s m #[Value.ref b] below meth c H locs 153 180094 (lw_Z below #[Value.ref b] s) (F0 m 1160 ls []) := by
  obtain ⟨C0, hE, hK, hNX, hNY, hAX, hAY, hdis, hPX, hPY, hS, hl⟩ := C
  obtain ⟨hx, hb, hr, hml, hown, hts, hX, hbl, hlocks, hgv⟩ := id C0
  have hbA : ¬ lawA s b := Nat.not_le.mpr hbl
  refine lv_aload_n hx hb dL_1160 rfl (lv_at hl 2 rfl) ?_
  refine x_vp (nn := 0) (As := []) (rest := []) hE (k_X8_good l D K ax none ) wPre_blind (wPre_now hK hNX hPX) (x_recv hK hPX 0 (by decide) (xG_8 rfl) rfl) rfl mw_1081 mw_1082 mw_1083 mw_114 mw_1084 (by decide +kernel) ⟨Nat.le_of_ble_eq_true rfl, Nat.le_of_ble_eq_true rfl⟩ hl.1 rfl (Nat.le_of_ble_eq_true rfl) ⟨Nat.le_of_ble_eq_true rfl, Nat.le_of_ble_eq_true rfl⟩ dL_1161 (fun r1 hr1 => ?_)
  have hr1 : r1 = (-2) := hr1
  rw [hr1]
  refine lv_aload_n hx hb dL_1164 rfl (lv_at hl 1 rfl) ?_
  refine l_vi (nn := 0) (As := []) (rest := [.int (-2)]) hE hK hNY hPY hS hAY (k_X9_good l D K ay ) (x_recv hK hPY 0 (by decide) (yG_9 rfl) rfl) rfl mw_1922 mw_1923 mw_1924 mw_123 mw_1925 (by decide +kernel) ⟨Nat.le_of_ble_eq_true rfl, Nat.le_of_ble_eq_true rfl⟩ hl.1 rfl (Nat.le_of_ble_eq_true rfl) ⟨Nat.le_of_ble_eq_true rfl, Nat.le_of_ble_eq_true rfl⟩ dL_1165 (fun r2 u2 H locs hr2 hk2 hS => ?_)
  have hr2 : r2 = (-2) := hr2
  rw [hr2]
  refine lv_icmp_eq (tgt := 1954) hx hb dL_1168 (by decide) (fun _ => ?_) (fun h => absurd rfl h)
  exact lawtail C0 hS hl
theorem dL_1173 : decode code 1173 = .ok (.aload_n 1, 1) := by decide +kernel
theorem dL_1174 : decode code 1174 = .ok (.aload_n 0, 1) := by decide +kernel
theorem dL_1175 : decode code 1175 = .ok (.iload_n 3, 1) := by decide +kernel
theorem dL_1176 : decode code 1176 = .ok (.iconst 1, 1) := by decide +kernel
theorem dL_1177 : decode code 1177 = .ok (.iadd, 1) := by decide +kernel
theorem dL_1178 : decode code 1178 = .ok (.iaload, 1) := by decide +kernel
theorem dL_1179 : decode code 1179 = .ok (.aload_n 0, 1) := by decide +kernel
theorem dL_1180 : decode code 1180 = .ok (.iload_n 3, 1) := by decide +kernel
theorem dL_1181 : decode code 1181 = .ok (.iconst 2, 1) := by decide +kernel
theorem dL_1182 : decode code 1182 = .ok (.iadd, 1) := by decide +kernel
theorem dL_1183 : decode code 1183 = .ok (.iaload, 1) := by decide +kernel
theorem dL_1184 : decode code 1184 = .ok (.invokevirtual 181, 3) := by decide +kernel
theorem dL_1187 : decode code 1187 = .ok (.aload_n 2, 1) := by decide +kernel
theorem dL_1188 : decode code 1188 = .ok (.aload_n 0, 1) := by decide +kernel
theorem dL_1189 : decode code 1189 = .ok (.iload_n 3, 1) := by decide +kernel
theorem dL_1190 : decode code 1190 = .ok (.iconst 1, 1) := by decide +kernel
theorem dL_1191 : decode code 1191 = .ok (.iadd, 1) := by decide +kernel
theorem dL_1192 : decode code 1192 = .ok (.iaload, 1) := by decide +kernel
theorem dL_1193 : decode code 1193 = .ok (.aload_n 0, 1) := by decide +kernel
theorem dL_1194 : decode code 1194 = .ok (.iload_n 3, 1) := by decide +kernel
theorem dL_1195 : decode code 1195 = .ok (.iconst 2, 1) := by decide +kernel
theorem dL_1196 : decode code 1196 = .ok (.iadd, 1) := by decide +kernel
theorem dL_1197 : decode code 1197 = .ok (.iaload, 1) := by decide +kernel
theorem dL_1198 : decode code 1198 = .ok (.invokevirtual 184, 3) := by decide +kernel
theorem dL_1201 : decode code 1201 = .ok (.if_icmp .eq 753, 3) := by decide +kernel
set_option maxHeartbeats 4000000 in
set_option maxRecDepth 100000 in
theorem lc_41 {p : Program} {l : Launch} {e : Env} {s : State} {m : MethodId} {below : List Frame} {meth : Method} {c : Code} {b : Nat} {xs : Nat → Int32} {D : va_G} {K : Nat → ClassId} {ax ay : Nat → Nat} {H : Heap} {locs : List Loc} {ls : Array Slot} (C : lawC p s m meth c b xs D K ax ay H locs ls) : W p l e room_1 s m #[Value.ref b] below meth c H locs 153 180094 (lw_Z below #[Value.ref b] s) (F0 m 1173 ls []) := by
  obtain ⟨C0, hE, hK, hNX, hNY, hAX, hAY, hdis, hPX, hPY, hS, hl⟩ := C
  obtain ⟨hx, hb, hr, hml, hown, hts, hX, hbl, hlocks, hgv⟩ := id C0
  have hbA : ¬ lawA s b := Nat.not_le.mpr hbl
  refine lv_aload_n hx hb dL_1173 rfl (lv_at hl 2 rfl) ?_
  refine lv_aload_n hx hb dL_1174 rfl (lv_at hl 3 rfl) ?_
  refine lv_iload_n hx hb dL_1175 rfl (lv_at hl 0 rfl) ?_
  refine lv_iconst (v := 1) hx hb dL_1176 (by decide) ?_
  refine lv_iadd hx hb dL_1177 ?_
  refine x_top (y := 1) (by decide) ?_
  refine va_sld (i := 1) hx hb hX hbl hbA hS (by unfold vp_in; decide) dL_1178 ?_
  refine lv_aload_n hx hb dL_1179 rfl (lv_at hl 3 rfl) ?_
  refine lv_iload_n hx hb dL_1180 rfl (lv_at hl 0 rfl) ?_
  refine lv_iconst (v := 2) hx hb dL_1181 (by decide) ?_
  refine lv_iadd hx hb dL_1182 ?_
  refine x_top (y := 2) (by decide) ?_
  refine va_sld (i := 2) hx hb hX hbl hbA hS (by unfold vp_in; decide) dL_1183 ?_
  refine x_vp (nn := 2) (As := [.int (xs (1 : Int32).toNatClampNeg), .int (xs (2 : Int32).toNatClampNeg)]) (rest := []) hE (k_X8_kept l D K ax none (xs (1 : Int32).toNatClampNeg) (xs (2 : Int32).toNatClampNeg)) wPre_blind (wPre_now hK hNX hPX) (x_recv hK hPX 0 (by decide) (xG_8 rfl) rfl) rfl mw_1085 mw_1086 mw_1087 mw_114 mw_1088 (by decide +kernel) ⟨Nat.le_of_ble_eq_true rfl, Nat.le_of_ble_eq_true rfl⟩ hl.1 rfl (Nat.le_of_ble_eq_true rfl) ⟨Nat.le_of_ble_eq_true rfl, Nat.le_of_ble_eq_true rfl⟩ dL_1184 (fun r1 hr1 => ?_)
  have hr1 : r1 = (-2) := hr1
  rw [hr1]
  refine lv_aload_n hx hb dL_1187 rfl (lv_at hl 1 rfl) ?_
  refine lv_aload_n hx hb dL_1188 rfl (lv_at hl 3 rfl) ?_
  refine lv_iload_n hx hb dL_1189 rfl (lv_at hl 0 rfl) ?_
  refine lv_iconst (v := 1) hx hb dL_1190 (by decide) ?_
  refine lv_iadd hx hb dL_1191 ?_
  refine x_top (y := 1) (by decide) ?_
  refine va_sld (i := 1) hx hb hX hbl hbA hS (by unfold vp_in; decide) dL_1192 ?_
  refine lv_aload_n hx hb dL_1193 rfl (lv_at hl 3 rfl) ?_
  refine lv_iload_n hx hb dL_1194 rfl (lv_at hl 0 rfl) ?_
  refine lv_iconst (v := 2) hx hb dL_1195 (by decide) ?_
  refine lv_iadd hx hb dL_1196 ?_
  refine x_top (y := 2) (by decide) ?_
  refine va_sld (i := 2) hx hb hX hbl hbA hS (by unfold vp_in; decide) dL_1197 ?_
  refine l_vi (nn := 2) (As := [.int (xs (1 : Int32).toNatClampNeg), .int (xs (2 : Int32).toNatClampNeg)]) (rest := [.int (-2)]) hE hK hNY hPY hS hAY (k_X9_kept l D K ay (xs (1 : Int32).toNatClampNeg) (xs (2 : Int32).toNatClampNeg)) (x_recv hK hPY 0 (by decide) (yG_9 rfl) rfl) rfl mw_1926 mw_1927 mw_1928 mw_123 mw_1929 (by decide +kernel) ⟨Nat.le_of_ble_eq_true rfl, Nat.le_of_ble_eq_true rfl⟩ hl.1 rfl (Nat.le_of_ble_eq_true rfl) ⟨Nat.le_of_ble_eq_true rfl, Nat.le_of_ble_eq_true rfl⟩ dL_1198 (fun r2 u2 H locs hr2 hk2 hS => ?_)
  have hr2 : r2 = (-2) := hr2
  rw [hr2]
  refine lv_icmp_eq (tgt := 1954) hx hb dL_1201 (by decide) (fun _ => ?_) (fun h => absurd rfl h)
  exact lawtail C0 hS hl
theorem dL_1206 : decode code 1206 = .ok (.aload_n 1, 1) := by decide +kernel
theorem dL_1207 : decode code 1207 = .ok (.invokevirtual 185, 3) := by decide +kernel
theorem dL_1210 : decode code 1210 = .ok (.aload_n 2, 1) := by decide +kernel
theorem dL_1211 : decode code 1211 = .ok (.invokevirtual 188, 3) := by decide +kernel
theorem dL_1214 : decode code 1214 = .ok (.if_icmp .eq 740, 3) := by decide +kernel
set_option maxHeartbeats 4000000 in
set_option maxRecDepth 100000 in
theorem lc_42 {p : Program} {l : Launch} {e : Env} {s : State} {m : MethodId} {below : List Frame} {meth : Method} {c : Code} {b : Nat} {xs : Nat → Int32} {D : va_G} {K : Nat → ClassId} {ax ay : Nat → Nat} {H : Heap} {locs : List Loc} {ls : Array Slot} (C : lawC p s m meth c b xs D K ax ay H locs ls) : W p l e room_1 s m #[Value.ref b] below meth c H locs 153 180094 (lw_Z below #[Value.ref b] s) (F0 m 1206 ls []) := by
  obtain ⟨C0, hE, hK, hNX, hNY, hAX, hAY, hdis, hPX, hPY, hS, hl⟩ := C
  obtain ⟨hx, hb, hr, hml, hown, hts, hX, hbl, hlocks, hgv⟩ := id C0
  have hbA : ¬ lawA s b := Nat.not_le.mpr hbl
  refine lv_aload_n hx hb dL_1206 rfl (lv_at hl 2 rfl) ?_
  refine x_vp (nn := 0) (As := []) (rest := []) hE (k_X8_trade l D K ax none ) wPre_blind (wPre_now hK hNX hPX) (x_recv hK hPX 0 (by decide) (xG_8 rfl) rfl) rfl mw_1095 mw_1096 mw_1097 mw_114 mw_1098 (by decide +kernel) ⟨Nat.le_of_ble_eq_true rfl, Nat.le_of_ble_eq_true rfl⟩ hl.1 rfl (Nat.le_of_ble_eq_true rfl) ⟨Nat.le_of_ble_eq_true rfl, Nat.le_of_ble_eq_true rfl⟩ dL_1207 (fun r1 hr1 => ?_)
  have hr1 : r1 = (-2) := hr1
  rw [hr1]
  refine lv_aload_n hx hb dL_1210 rfl (lv_at hl 1 rfl) ?_
  refine l_vi (nn := 0) (As := []) (rest := [.int (-2)]) hE hK hNY hPY hS hAY (k_X9_trade l D K ay ) (x_recv hK hPY 0 (by decide) (yG_9 rfl) rfl) rfl mw_1930 mw_1931 mw_1932 mw_123 mw_1933 (by decide +kernel) ⟨Nat.le_of_ble_eq_true rfl, Nat.le_of_ble_eq_true rfl⟩ hl.1 rfl (Nat.le_of_ble_eq_true rfl) ⟨Nat.le_of_ble_eq_true rfl, Nat.le_of_ble_eq_true rfl⟩ dL_1211 (fun r2 u2 H locs hr2 hk2 hS => ?_)
  have hr2 : r2 = (-2) := hr2
  rw [hr2]
  refine lv_icmp_eq (tgt := 1954) hx hb dL_1214 (by decide) (fun _ => ?_) (fun h => absurd rfl h)
  exact lawtail C0 hS hl
theorem dL_1219 : decode code 1219 = .ok (.aload_n 1, 1) := by decide +kernel
theorem dL_1220 : decode code 1220 = .ok (.aload_n 0, 1) := by decide +kernel
theorem dL_1221 : decode code 1221 = .ok (.iload_n 3, 1) := by decide +kernel
theorem dL_1222 : decode code 1222 = .ok (.iconst 1, 1) := by decide +kernel
theorem dL_1223 : decode code 1223 = .ok (.iadd, 1) := by decide +kernel
theorem dL_1224 : decode code 1224 = .ok (.iaload, 1) := by decide +kernel
theorem dL_1225 : decode code 1225 = .ok (.aload_n 0, 1) := by decide +kernel
theorem dL_1226 : decode code 1226 = .ok (.iload_n 3, 1) := by decide +kernel
theorem dL_1227 : decode code 1227 = .ok (.iconst 2, 1) := by decide +kernel
theorem dL_1228 : decode code 1228 = .ok (.iadd, 1) := by decide +kernel
theorem dL_1229 : decode code 1229 = .ok (.iaload, 1) := by decide +kernel
theorem dL_1230 : decode code 1230 = .ok (.invokevirtual 189, 3) := by decide +kernel
theorem dL_1233 : decode code 1233 = .ok (.aload_n 2, 1) := by decide +kernel
theorem dL_1234 : decode code 1234 = .ok (.aload_n 0, 1) := by decide +kernel
theorem dL_1235 : decode code 1235 = .ok (.iload_n 3, 1) := by decide +kernel
theorem dL_1236 : decode code 1236 = .ok (.iconst 1, 1) := by decide +kernel
theorem dL_1237 : decode code 1237 = .ok (.iadd, 1) := by decide +kernel
theorem dL_1238 : decode code 1238 = .ok (.iaload, 1) := by decide +kernel
theorem dL_1239 : decode code 1239 = .ok (.aload_n 0, 1) := by decide +kernel
theorem dL_1240 : decode code 1240 = .ok (.iload_n 3, 1) := by decide +kernel
theorem dL_1241 : decode code 1241 = .ok (.iconst 2, 1) := by decide +kernel
theorem dL_1242 : decode code 1242 = .ok (.iadd, 1) := by decide +kernel
theorem dL_1243 : decode code 1243 = .ok (.iaload, 1) := by decide +kernel
theorem dL_1244 : decode code 1244 = .ok (.invokevirtual 192, 3) := by decide +kernel
theorem dL_1247 : decode code 1247 = .ok (.if_icmp .eq 707, 3) := by decide +kernel
set_option maxHeartbeats 4000000 in
set_option maxRecDepth 100000 in
theorem lc_43 {p : Program} {l : Launch} {e : Env} {s : State} {m : MethodId} {below : List Frame} {meth : Method} {c : Code} {b : Nat} {xs : Nat → Int32} {D : va_G} {K : Nat → ClassId} {ax ay : Nat → Nat} {H : Heap} {locs : List Loc} {ls : Array Slot} (C : lawC p s m meth c b xs D K ax ay H locs ls) : W p l e room_1 s m #[Value.ref b] below meth c H locs 153 180094 (lw_Z below #[Value.ref b] s) (F0 m 1219 ls []) := by
  obtain ⟨C0, hE, hK, hNX, hNY, hAX, hAY, hdis, hPX, hPY, hS, hl⟩ := C
  obtain ⟨hx, hb, hr, hml, hown, hts, hX, hbl, hlocks, hgv⟩ := id C0
  have hbA : ¬ lawA s b := Nat.not_le.mpr hbl
  refine lv_aload_n hx hb dL_1219 rfl (lv_at hl 2 rfl) ?_
  refine lv_aload_n hx hb dL_1220 rfl (lv_at hl 3 rfl) ?_
  refine lv_iload_n hx hb dL_1221 rfl (lv_at hl 0 rfl) ?_
  refine lv_iconst (v := 1) hx hb dL_1222 (by decide) ?_
  refine lv_iadd hx hb dL_1223 ?_
  refine x_top (y := 1) (by decide) ?_
  refine va_sld (i := 1) hx hb hX hbl hbA hS (by unfold vp_in; decide) dL_1224 ?_
  refine lv_aload_n hx hb dL_1225 rfl (lv_at hl 3 rfl) ?_
  refine lv_iload_n hx hb dL_1226 rfl (lv_at hl 0 rfl) ?_
  refine lv_iconst (v := 2) hx hb dL_1227 (by decide) ?_
  refine lv_iadd hx hb dL_1228 ?_
  refine x_top (y := 2) (by decide) ?_
  refine va_sld (i := 2) hx hb hX hbl hbA hS (by unfold vp_in; decide) dL_1229 ?_
  refine x_vp (nn := 2) (As := [.int (xs (1 : Int32).toNatClampNeg), .int (xs (2 : Int32).toNatClampNeg)]) (rest := []) hE (k_X8_keeps l D K ax none (xs (1 : Int32).toNatClampNeg) (xs (2 : Int32).toNatClampNeg)) wPre_blind (wPre_now hK hNX hPX) (x_recv hK hPX 0 (by decide) (xG_8 rfl) rfl) rfl mw_1118 mw_1119 mw_1120 mw_114 mw_1121 (by decide +kernel) ⟨Nat.le_of_ble_eq_true rfl, Nat.le_of_ble_eq_true rfl⟩ hl.1 rfl (Nat.le_of_ble_eq_true rfl) ⟨Nat.le_of_ble_eq_true rfl, Nat.le_of_ble_eq_true rfl⟩ dL_1230 (fun r1 hr1 => ?_)
  have hr1 : r1 = (-2) := hr1
  rw [hr1]
  refine lv_aload_n hx hb dL_1233 rfl (lv_at hl 1 rfl) ?_
  refine lv_aload_n hx hb dL_1234 rfl (lv_at hl 3 rfl) ?_
  refine lv_iload_n hx hb dL_1235 rfl (lv_at hl 0 rfl) ?_
  refine lv_iconst (v := 1) hx hb dL_1236 (by decide) ?_
  refine lv_iadd hx hb dL_1237 ?_
  refine x_top (y := 1) (by decide) ?_
  refine va_sld (i := 1) hx hb hX hbl hbA hS (by unfold vp_in; decide) dL_1238 ?_
  refine lv_aload_n hx hb dL_1239 rfl (lv_at hl 3 rfl) ?_
  refine lv_iload_n hx hb dL_1240 rfl (lv_at hl 0 rfl) ?_
  refine lv_iconst (v := 2) hx hb dL_1241 (by decide) ?_
  refine lv_iadd hx hb dL_1242 ?_
  refine x_top (y := 2) (by decide) ?_
  refine va_sld (i := 2) hx hb hX hbl hbA hS (by unfold vp_in; decide) dL_1243 ?_
  refine l_vi (nn := 2) (As := [.int (xs (1 : Int32).toNatClampNeg), .int (xs (2 : Int32).toNatClampNeg)]) (rest := [.int (-2)]) hE hK hNY hPY hS hAY (k_X9_keeps l D K ay (xs (1 : Int32).toNatClampNeg) (xs (2 : Int32).toNatClampNeg)) (x_recv hK hPY 0 (by decide) (yG_9 rfl) rfl) rfl mw_1938 mw_1939 mw_1940 mw_123 mw_1941 (by decide +kernel) ⟨Nat.le_of_ble_eq_true rfl, Nat.le_of_ble_eq_true rfl⟩ hl.1 rfl (Nat.le_of_ble_eq_true rfl) ⟨Nat.le_of_ble_eq_true rfl, Nat.le_of_ble_eq_true rfl⟩ dL_1244 (fun r2 u2 H locs hr2 hk2 hS => ?_)
  have hr2 : r2 = (-2) := hr2
  rw [hr2]
  refine lv_icmp_eq (tgt := 1954) hx hb dL_1247 (by decide) (fun _ => ?_) (fun h => absurd rfl h)
  exact lawtail C0 hS hl
theorem dL_1252 : decode code 1252 = .ok (.aload_n 1, 1) := by decide +kernel
theorem dL_1253 : decode code 1253 = .ok (.aload_n 0, 1) := by decide +kernel
theorem dL_1254 : decode code 1254 = .ok (.iload_n 3, 1) := by decide +kernel
theorem dL_1255 : decode code 1255 = .ok (.iconst 1, 1) := by decide +kernel
theorem dL_1256 : decode code 1256 = .ok (.iadd, 1) := by decide +kernel
theorem dL_1257 : decode code 1257 = .ok (.iaload, 1) := by decide +kernel
theorem dL_1258 : decode code 1258 = .ok (.aload_n 0, 1) := by decide +kernel
theorem dL_1259 : decode code 1259 = .ok (.iload_n 3, 1) := by decide +kernel
theorem dL_1260 : decode code 1260 = .ok (.iconst 2, 1) := by decide +kernel
theorem dL_1261 : decode code 1261 = .ok (.iadd, 1) := by decide +kernel
theorem dL_1262 : decode code 1262 = .ok (.iaload, 1) := by decide +kernel
theorem dL_1263 : decode code 1263 = .ok (.invokevirtual 193, 3) := by decide +kernel
theorem dL_1266 : decode code 1266 = .ok (.aload_n 2, 1) := by decide +kernel
theorem dL_1267 : decode code 1267 = .ok (.aload_n 0, 1) := by decide +kernel
theorem dL_1268 : decode code 1268 = .ok (.iload_n 3, 1) := by decide +kernel
theorem dL_1269 : decode code 1269 = .ok (.iconst 1, 1) := by decide +kernel
theorem dL_1270 : decode code 1270 = .ok (.iadd, 1) := by decide +kernel
theorem dL_1271 : decode code 1271 = .ok (.iaload, 1) := by decide +kernel
theorem dL_1272 : decode code 1272 = .ok (.aload_n 0, 1) := by decide +kernel
theorem dL_1273 : decode code 1273 = .ok (.iload_n 3, 1) := by decide +kernel
theorem dL_1274 : decode code 1274 = .ok (.iconst 2, 1) := by decide +kernel
theorem dL_1275 : decode code 1275 = .ok (.iadd, 1) := by decide +kernel
theorem dL_1276 : decode code 1276 = .ok (.iaload, 1) := by decide +kernel
theorem dL_1277 : decode code 1277 = .ok (.invokevirtual 196, 3) := by decide +kernel
theorem dL_1280 : decode code 1280 = .ok (.if_icmp .eq 674, 3) := by decide +kernel
set_option maxHeartbeats 4000000 in
set_option maxRecDepth 100000 in
theorem lc_44 {p : Program} {l : Launch} {e : Env} {s : State} {m : MethodId} {below : List Frame} {meth : Method} {c : Code} {b : Nat} {xs : Nat → Int32} {D : va_G} {K : Nat → ClassId} {ax ay : Nat → Nat} {H : Heap} {locs : List Loc} {ls : Array Slot} (C : lawC p s m meth c b xs D K ax ay H locs ls) : W p l e room_1 s m #[Value.ref b] below meth c H locs 153 180094 (lw_Z below #[Value.ref b] s) (F0 m 1252 ls []) := by
  obtain ⟨C0, hE, hK, hNX, hNY, hAX, hAY, hdis, hPX, hPY, hS, hl⟩ := C
  obtain ⟨hx, hb, hr, hml, hown, hts, hX, hbl, hlocks, hgv⟩ := id C0
  have hbA : ¬ lawA s b := Nat.not_le.mpr hbl
  refine lv_aload_n hx hb dL_1252 rfl (lv_at hl 2 rfl) ?_
  refine lv_aload_n hx hb dL_1253 rfl (lv_at hl 3 rfl) ?_
  refine lv_iload_n hx hb dL_1254 rfl (lv_at hl 0 rfl) ?_
  refine lv_iconst (v := 1) hx hb dL_1255 (by decide) ?_
  refine lv_iadd hx hb dL_1256 ?_
  refine x_top (y := 1) (by decide) ?_
  refine va_sld (i := 1) hx hb hX hbl hbA hS (by unfold vp_in; decide) dL_1257 ?_
  refine lv_aload_n hx hb dL_1258 rfl (lv_at hl 3 rfl) ?_
  refine lv_iload_n hx hb dL_1259 rfl (lv_at hl 0 rfl) ?_
  refine lv_iconst (v := 2) hx hb dL_1260 (by decide) ?_
  refine lv_iadd hx hb dL_1261 ?_
  refine x_top (y := 2) (by decide) ?_
  refine va_sld (i := 2) hx hb hX hbl hbA hS (by unfold vp_in; decide) dL_1262 ?_
  refine x_vp (nn := 2) (As := [.int (xs (1 : Int32).toNatClampNeg), .int (xs (2 : Int32).toNatClampNeg)]) (rest := []) hE (k_X8_forbid l D K ax none (xs (1 : Int32).toNatClampNeg) (xs (2 : Int32).toNatClampNeg)) wPre_blind (wPre_now hK hNX hPX) (x_recv hK hPX 0 (by decide) (xG_8 rfl) rfl) rfl mw_1122 mw_1123 mw_1124 mw_114 mw_1125 (by decide +kernel) ⟨Nat.le_of_ble_eq_true rfl, Nat.le_of_ble_eq_true rfl⟩ hl.1 rfl (Nat.le_of_ble_eq_true rfl) ⟨Nat.le_of_ble_eq_true rfl, Nat.le_of_ble_eq_true rfl⟩ dL_1263 (fun r1 hr1 => ?_)
  have hr1 : r1 = (-2) := hr1
  rw [hr1]
  refine lv_aload_n hx hb dL_1266 rfl (lv_at hl 1 rfl) ?_
  refine lv_aload_n hx hb dL_1267 rfl (lv_at hl 3 rfl) ?_
  refine lv_iload_n hx hb dL_1268 rfl (lv_at hl 0 rfl) ?_
  refine lv_iconst (v := 1) hx hb dL_1269 (by decide) ?_
  refine lv_iadd hx hb dL_1270 ?_
  refine x_top (y := 1) (by decide) ?_
  refine va_sld (i := 1) hx hb hX hbl hbA hS (by unfold vp_in; decide) dL_1271 ?_
  refine lv_aload_n hx hb dL_1272 rfl (lv_at hl 3 rfl) ?_
  refine lv_iload_n hx hb dL_1273 rfl (lv_at hl 0 rfl) ?_
  refine lv_iconst (v := 2) hx hb dL_1274 (by decide) ?_
  refine lv_iadd hx hb dL_1275 ?_
  refine x_top (y := 2) (by decide) ?_
  refine va_sld (i := 2) hx hb hX hbl hbA hS (by unfold vp_in; decide) dL_1276 ?_
  refine l_vi (nn := 2) (As := [.int (xs (1 : Int32).toNatClampNeg), .int (xs (2 : Int32).toNatClampNeg)]) (rest := [.int (-2)]) hE hK hNY hPY hS hAY (k_X9_forbid l D K ay (xs (1 : Int32).toNatClampNeg) (xs (2 : Int32).toNatClampNeg)) (x_recv hK hPY 0 (by decide) (yG_9 rfl) rfl) rfl mw_1942 mw_1943 mw_1944 mw_123 mw_1945 (by decide +kernel) ⟨Nat.le_of_ble_eq_true rfl, Nat.le_of_ble_eq_true rfl⟩ hl.1 rfl (Nat.le_of_ble_eq_true rfl) ⟨Nat.le_of_ble_eq_true rfl, Nat.le_of_ble_eq_true rfl⟩ dL_1277 (fun r2 u2 H locs hr2 hk2 hS => ?_)
  have hr2 : r2 = (-2) := hr2
  rw [hr2]
  refine lv_icmp_eq (tgt := 1954) hx hb dL_1280 (by decide) (fun _ => ?_) (fun h => absurd rfl h)
  exact lawtail C0 hS hl
