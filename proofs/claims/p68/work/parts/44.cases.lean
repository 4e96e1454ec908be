theorem dL_911 : decode code 911 = .ok (.aload_n 1, 1) := by decide +kernel
theorem dL_912 : decode code 912 = .ok (.invokevirtual 125, 3) := by decide +kernel
theorem dL_915 : decode code 915 = .ok (.pop, 1) := by decide +kernel
theorem dL_916 : decode code 916 = .ok (.aload_n 2, 1) := by decide +kernel
theorem dL_917 : decode code 917 = .ok (.invokevirtual 128, 3) := by decide +kernel
theorem dL_920 : decode code 920 = .ok (.pop, 1) := by decide +kernel
theorem dL_921 : decode code 921 = .ok (.goto 1033, 3) := by decide +kernel
set_option maxHeartbeats 4000000 in
set_option maxRecDepth 100000 in
theorem lc_27 {p : Program} {l : Launch} {e : Env} {s : State} {m : MethodId} {below : List Frame} {meth : Method} {c : Code} {b L : Nat} {xs : Nat → Int32} {D : va_G} {K : Nat → ClassId} {ay ax : Nat → Nat} {mm : Option Nat} {N cells slots : Nat} {v ar : sI} {al : sL} {v' ar' : sI} {al' : sL} {H : Heap} {locs : List Loc} {ls : Array Slot} {tk tv : Nat → Nat} {i : Int} (hi : 0 ≤ i ∧ i + 6 ≤ (L : Int) ∧ L ≤ 3072) (F : lawF p s m meth c b L xs D K tk tv) (C : lawI s D K ay ax mm N cells slots v ar al v' ar' al' H locs) (hl : lv_has ls 4 [(3, .int (iI i)), (2, .ref (ay 0)), (1, .ref (ax 0)), (0, .ref b)]) (kk : lawK p l e s m below meth c b D K ay i) : W p l e room_1 s m #[Value.ref b] below meth c H locs cells slots (lw_Z below #[Value.ref b] s) (F0 m 911 ls []) := by
  obtain ⟨C0, hE, hK, hT, hTR⟩ := F
  obtain ⟨hx, hb, hr, hml, hown, hts, hX, hbl, hlocks, hgv⟩ := id C0
  have hbA : ¬ lawA s b := Nat.not_le.mpr hbl
  obtain ⟨hNX, hNY, hAX, hAY, hdis, hPX, hPY, hS, hXI, hYI, hmd, hR⟩ := C
  have hcc := lawM_c hmd
  have hNN := lawM_N hmd
  have cont : ∀ (ax : Nat → Nat) (mm : Option Nat) (N cells slots : Nat) (v ar : sI) (al : sL) (H : Heap) (locs : List Loc) (ls : Array Slot) (r : Int32), apart ax N → (∀ i, i < N → lawA s (ax i)) → (∀ i j, i < N → j < 21 → ax i ≠ ay j) → va_P D xcl (wW ax (xG ax K mm) N v ar al) H → va_P D xcl (wW ay (yG ay K) 21 v' ar' al') H → va_S (lawA s) s.heap H locs → XI v → lawM ax mm N cells slots → lawR v ar al v' ar' al' → lv_has ls 4 [(3, .int (iI i)), (2, .ref (ay 0)), (1, .ref (ax 0)), (0, .ref b)] → W p l e room_1 s m #[Value.ref b] below meth c H locs cells slots (lw_Z below #[Value.ref b] s) (F0 m 915 ls [.int r]) := by
    intro ax mm N cells slots v ar al H locs ls r hNX hAX hdis hPX hPY hS hXI hmd hR hl
    have hcc := lawM_c hmd
    refine lv_pop hx hb dL_915 rfl ?_
    refine lv_aload_n hx hb dL_916 rfl (lv_at hl 1 rfl) ?_
    refine l_viG (nn := 0) (As := []) (rest := []) hE hS hAY (s_X9_full l D K ay v' ar' al' hYI  ) wPre_blind (wPre_now hK hNY hPY) (x_recv hK hPY 0 (by decide) (yG_9 rfl) rfl) rfl mw_1826 mw_1827 mw_1828 mw_123 mw_1829 (by decide +kernel) ⟨Nat.le_of_ble_eq_true rfl, Nat.le_of_ble_eq_true rfl⟩ hl.1 rfl (Nat.le_of_ble_eq_true rfl) hcc dL_917 (fun r2 v2 ar2 al2 H2 locs2 hp2 hPY2 hk2 hS2 => ?_)
    have hYI2 : YI v2 ar2 := hp2.2.1
    have hPX2 := w_keep hPX (fun i j hi hj e => hdis j i hj hi e.symm) hk2
    refine lv_pop hx hb dL_920 rfl ?_
    refine lv_goto (tgt := 1954) hx hb dL_921 (by decide) ?_
    exact kk ax mm N cells slots v ar al v2 ar2 al2 H2 locs2 ls ⟨hNX, hNY, hAX, hAY, hdis, hPX2, hPY2, hS2, hXI, hYI2, hmd, R_y hR (hp2.2.2.2.1 1 (by decide)) (hp2.2.2.2.1 2 (by decide)) (hp2.2.2.2.1 11 (by decide))⟩ hl
  refine lv_aload_n hx hb dL_911 rfl (lv_at hl 2 rfl) ?_
  refine l_viG (nn := 0) (As := []) (rest := []) hE hS hAX (s_X8_full_0 l D K ax mm N hNN v ar al hXI   ) wPre_blind (wPre_now hK hNX hPX) (x_recv hK hPX 0 (by omega) (xG_8 rfl) rfl) rfl mw_953 mw_954 mw_955 mw_114 mw_956 (by decide +kernel) ⟨Nat.le_of_ble_eq_true rfl, Nat.le_of_ble_eq_true rfl⟩ hl.1 rfl (Nat.le_of_ble_eq_true rfl) hcc dL_912 (fun r1 v1 ar1 al1 H1 locs1 hp1 hPX1 hk1 hS1 => ?_)
  exact cont ax mm N cells slots v1 ar1 al1 H1 locs1 ls r1 hNX hAX hdis hPX1 (w_keep hPY hdis hk1) hS1 hp1.2.1 hmd (R_x hR (fun i j h => hp1.2.2 i j (fl_out (by decide) h))) hl
theorem dL_924 : decode code 924 = .ok (.aload_n 1, 1) := by decide +kernel
theorem dL_925 : decode code 925 = .ok (.aload_n 0, 1) := by decide +kernel
theorem dL_926 : decode code 926 = .ok (.iload_n 3, 1) := by decide +kernel
theorem dL_927 : decode code 927 = .ok (.iconst 1, 1) := by decide +kernel
theorem dL_928 : decode code 928 = .ok (.iadd, 1) := by decide +kernel
theorem dL_929 : decode code 929 = .ok (.iaload, 1) := by decide +kernel
theorem dL_930 : decode code 930 = .ok (.invokevirtual 129, 3) := by decide +kernel
theorem dL_933 : decode code 933 = .ok (.pop, 1) := by decide +kernel
theorem dL_934 : decode code 934 = .ok (.aload_n 2, 1) := by decide +kernel
theorem dL_935 : decode code 935 = .ok (.aload_n 0, 1) := by decide +kernel
theorem dL_936 : decode code 936 = .ok (.iload_n 3, 1) := by decide +kernel
theorem dL_937 : decode code 937 = .ok (.iconst 1, 1) := by decide +kernel
theorem dL_938 : decode code 938 = .ok (.iadd, 1) := by decide +kernel
theorem dL_939 : decode code 939 = .ok (.iaload, 1) := by decide +kernel
theorem dL_940 : decode code 940 = .ok (.invokevirtual 132, 3) := by decide +kernel
theorem dL_943 : decode code 943 = .ok (.pop, 1) := by decide +kernel
theorem dL_944 : decode code 944 = .ok (.goto 1010, 3) := by decide +kernel
set_option maxHeartbeats 4000000 in
set_option maxRecDepth 100000 in
theorem lc_28 {p : Program} {l : Launch} {e : Env} {s : State} {m : MethodId} {below : List Frame} {meth : Method} {c : Code} {b L : Nat} {xs : Nat → Int32} {D : va_G} {K : Nat → ClassId} {ay ax : Nat → Nat} {mm : Option Nat} {N cells slots : Nat} {v ar : sI} {al : sL} {v' ar' : sI} {al' : sL} {H : Heap} {locs : List Loc} {ls : Array Slot} {tk tv : Nat → Nat} {i : Int} (hi : 0 ≤ i ∧ i + 6 ≤ (L : Int) ∧ L ≤ 3072) (F : lawF p s m meth c b L xs D K tk tv) (C : lawI s D K ay ax mm N cells slots v ar al v' ar' al' H locs) (hl : lv_has ls 4 [(3, .int (iI i)), (2, .ref (ay 0)), (1, .ref (ax 0)), (0, .ref b)]) (kk : lawK p l e s m below meth c b D K ay i) : W p l e room_1 s m #[Value.ref b] below meth c H locs cells slots (lw_Z below #[Value.ref b] s) (F0 m 924 ls []) := by
  obtain ⟨C0, hE, hK, hT, hTR⟩ := F
  obtain ⟨hx, hb, hr, hml, hown, hts, hX, hbl, hlocks, hgv⟩ := id C0
  have hbA : ¬ lawA s b := Nat.not_le.mpr hbl
  obtain ⟨hNX, hNY, hAX, hAY, hdis, hPX, hPY, hS, hXI, hYI, hmd, hR⟩ := C
  have hcc := lawM_c hmd
  have hNN := lawM_N hmd
  obtain ⟨z1, hz1, ez1⟩ := iI_of (xs (iI (i + 1)).toNatClampNeg)
  have cont : ∀ (ax : Nat → Nat) (mm : Option Nat) (N cells slots : Nat) (v ar : sI) (al : sL) (H : Heap) (locs : List Loc) (ls : Array Slot) (r : Int32), apart ax N → (∀ i, i < N → lawA s (ax i)) → (∀ i j, i < N → j < 21 → ax i ≠ ay j) → va_P D xcl (wW ax (xG ax K mm) N v ar al) H → va_P D xcl (wW ay (yG ay K) 21 v' ar' al') H → va_S (lawA s) s.heap H locs → XI v → lawM ax mm N cells slots → lawR v ar al v' ar' al' → lv_has ls 4 [(3, .int (iI i)), (2, .ref (ay 0)), (1, .ref (ax 0)), (0, .ref b)] → W p l e room_1 s m #[Value.ref b] below meth c H locs cells slots (lw_Z below #[Value.ref b] s) (F0 m 933 ls [.int r]) := by
    intro ax mm N cells slots v ar al H locs ls r hNX hAX hdis hPX hPY hS hXI hmd hR hl
    have hcc := lawM_c hmd
    refine lv_pop hx hb dL_933 rfl ?_
    refine lv_aload_n hx hb dL_934 rfl (lv_at hl 1 rfl) ?_
    refine lv_aload_n hx hb dL_935 rfl (lv_at hl 3 rfl) ?_
    refine lv_iload_n hx hb dL_936 rfl (lv_at hl 0 rfl) ?_
    refine lv_iconst (v := iI (1)) hx hb dL_937 (by decide) ?_
    refine lv_iadd hx hb dL_938 ?_
    refine x_top (y := iI (i + 1)) (iI_add _ _) ?_
    refine va_sld (i := iI (i + 1)) hx hb hX hbl hbA hS (iI_in (n := L) (by omega)) dL_939 ?_
    refine x_top ez1 ?_
    refine l_viG (nn := 1) (As := [.int (iI (z1))]) (rest := []) hE hS hAY (s_X9_line_ l D K ay v' ar' al' hYI  (z1) (by omega)) wPre_blind (wPre_now hK hNY hPY) (x_recv hK hPY 0 (by decide) (yG_9 rfl) rfl) rfl mw_1830 mw_1831 mw_1832 mw_123 mw_1833 (by decide +kernel) ⟨Nat.le_of_ble_eq_true rfl, Nat.le_of_ble_eq_true rfl⟩ hl.1 rfl (Nat.le_of_ble_eq_true rfl) hcc dL_940 (fun r2 v2 ar2 al2 H2 locs2 hp2 hPY2 hk2 hS2 => ?_)
    have hYI2 : YI v2 ar2 := hp2.2.1
    have hPX2 := w_keep hPX (fun i j hi hj e => hdis j i hj hi e.symm) hk2
    refine lv_pop hx hb dL_943 rfl ?_
    refine lv_goto (tgt := 1954) hx hb dL_944 (by decide) ?_
    exact kk ax mm N cells slots v ar al v2 ar2 al2 H2 locs2 ls ⟨hNX, hNY, hAX, hAY, hdis, hPX2, hPY2, hS2, hXI, hYI2, hmd, R_y hR (hp2.2.2.2.1 1 (by decide)) (hp2.2.2.2.1 2 (by decide)) (hp2.2.2.2.1 11 (by decide))⟩ hl
  refine lv_aload_n hx hb dL_924 rfl (lv_at hl 2 rfl) ?_
  refine lv_aload_n hx hb dL_925 rfl (lv_at hl 3 rfl) ?_
  refine lv_iload_n hx hb dL_926 rfl (lv_at hl 0 rfl) ?_
  refine lv_iconst (v := iI (1)) hx hb dL_927 (by decide) ?_
  refine lv_iadd hx hb dL_928 ?_
  refine x_top (y := iI (i + 1)) (iI_add _ _) ?_
  refine va_sld (i := iI (i + 1)) hx hb hX hbl hbA hS (iI_in (n := L) (by omega)) dL_929 ?_
  refine x_top ez1 ?_
  refine l_viG (nn := 1) (As := [.int (iI (z1))]) (rest := []) hE hS hAX (s_X8_line_0 l D K ax mm N hNN v ar al hXI   (z1) (by omega)) wPre_blind (wPre_now hK hNX hPX) (x_recv hK hPX 0 (by omega) (xG_8 rfl) rfl) rfl mw_957 mw_958 mw_959 mw_114 mw_960 (by decide +kernel) ⟨Nat.le_of_ble_eq_true rfl, Nat.le_of_ble_eq_true rfl⟩ hl.1 rfl (Nat.le_of_ble_eq_true rfl) hcc dL_930 (fun r1 v1 ar1 al1 H1 locs1 hp1 hPX1 hk1 hS1 => ?_)
  exact cont ax mm N cells slots v1 ar1 al1 H1 locs1 ls r1 hNX hAX hdis hPX1 (w_keep hPY hdis hk1) hS1 hp1.2.1 hmd (R_x hR (fun i j h => hp1.2.2 i j (fl_out (by decide) h))) hl
theorem dL_947 : decode code 947 = .ok (.aload_n 1, 1) := by decide +kernel
theorem dL_948 : decode code 948 = .ok (.invokevirtual 133, 3) := by decide +kernel
theorem dL_951 : decode code 951 = .ok (.pop, 1) := by decide +kernel
theorem dL_952 : decode code 952 = .ok (.aload_n 2, 1) := by decide +kernel
theorem dL_953 : decode code 953 = .ok (.invokevirtual 136, 3) := by decide +kernel
theorem dL_956 : decode code 956 = .ok (.pop, 1) := by decide +kernel
theorem dL_957 : decode code 957 = .ok (.goto 997, 3) := by decide +kernel
set_option maxHeartbeats 4000000 in
set_option maxRecDepth 100000 in
theorem lc_29 {p : Program} {l : Launch} {e : Env} {s : State} {m : MethodId} {below : List Frame} {meth : Method} {c : Code} {b L : Nat} {xs : Nat → Int32} {D : va_G} {K : Nat → ClassId} {ay ax : Nat → Nat} {mm : Option Nat} {N cells slots : Nat} {v ar : sI} {al : sL} {v' ar' : sI} {al' : sL} {H : Heap} {locs : List Loc} {ls : Array Slot} {tk tv : Nat → Nat} {i : Int} (hi : 0 ≤ i ∧ i + 6 ≤ (L : Int) ∧ L ≤ 3072) (F : lawF p s m meth c b L xs D K tk tv) (C : lawI s D K ay ax mm N cells slots v ar al v' ar' al' H locs) (hl : lv_has ls 4 [(3, .int (iI i)), (2, .ref (ay 0)), (1, .ref (ax 0)), (0, .ref b)]) (kk : lawK p l e s m below meth c b D K ay i) : W p l e room_1 s m #[Value.ref b] below meth c H locs cells slots (lw_Z below #[Value.ref b] s) (F0 m 947 ls []) := by
  obtain ⟨C0, hE, hK, hT, hTR⟩ := F
  obtain ⟨hx, hb, hr, hml, hown, hts, hX, hbl, hlocks, hgv⟩ := id C0
  have hbA : ¬ lawA s b := Nat.not_le.mpr hbl
  obtain ⟨hNX, hNY, hAX, hAY, hdis, hPX, hPY, hS, hXI, hYI, hmd, hR⟩ := C
  have hcc := lawM_c hmd
  have hNN := lawM_N hmd
  have cont : ∀ (ax : Nat → Nat) (mm : Option Nat) (N cells slots : Nat) (v ar : sI) (al : sL) (H : Heap) (locs : List Loc) (ls : Array Slot) (r : Int32), apart ax N → (∀ i, i < N → lawA s (ax i)) → (∀ i j, i < N → j < 21 → ax i ≠ ay j) → va_P D xcl (wW ax (xG ax K mm) N v ar al) H → va_P D xcl (wW ay (yG ay K) 21 v' ar' al') H → va_S (lawA s) s.heap H locs → XI v → lawM ax mm N cells slots → lawR v ar al v' ar' al' → lv_has ls 4 [(3, .int (iI i)), (2, .ref (ay 0)), (1, .ref (ax 0)), (0, .ref b)] → W p l e room_1 s m #[Value.ref b] below meth c H locs cells slots (lw_Z below #[Value.ref b] s) (F0 m 951 ls [.int r]) := by
    intro ax mm N cells slots v ar al H locs ls r hNX hAX hdis hPX hPY hS hXI hmd hR hl
    have hcc := lawM_c hmd
    refine lv_pop hx hb dL_951 rfl ?_
    refine lv_aload_n hx hb dL_952 rfl (lv_at hl 1 rfl) ?_
    refine l_viG (nn := 0) (As := []) (rest := []) hE hS hAY (s_X9_best l D K ay v' ar' al' hYI  ) wPre_blind (wPre_now hK hNY hPY) (x_recv hK hPY 0 (by decide) (yG_9 rfl) rfl) rfl mw_1838 mw_1839 mw_1840 mw_123 mw_1841 (by decide +kernel) ⟨Nat.le_of_ble_eq_true rfl, Nat.le_of_ble_eq_true rfl⟩ hl.1 rfl (Nat.le_of_ble_eq_true rfl) hcc dL_953 (fun r2 v2 ar2 al2 H2 locs2 hp2 hPY2 hk2 hS2 => ?_)
    have hYI2 : YI v2 ar2 := hp2.2.1
    have hPX2 := w_keep hPX (fun i j hi hj e => hdis j i hj hi e.symm) hk2
    refine lv_pop hx hb dL_956 rfl ?_
    refine lv_goto (tgt := 1954) hx hb dL_957 (by decide) ?_
    exact kk ax mm N cells slots v ar al v2 ar2 al2 H2 locs2 ls ⟨hNX, hNY, hAX, hAY, hdis, hPX2, hPY2, hS2, hXI, hYI2, hmd, R_y hR (hp2.2.2.2.1 1 (by decide)) (hp2.2.2.2.1 2 (by decide)) (hp2.2.2.2.1 11 (by decide))⟩ hl
  refine lv_aload_n hx hb dL_947 rfl (lv_at hl 2 rfl) ?_
  refine l_viG (nn := 0) (As := []) (rest := []) hE hS hAX (s_X8_best_0 l D K ax mm N hNN v ar al hXI   ) wPre_blind (wPre_now hK hNX hPX) (x_recv hK hPX 0 (by omega) (xG_8 rfl) rfl) rfl mw_970 mw_971 mw_972 mw_114 mw_973 (by decide +kernel) ⟨Nat.le_of_ble_eq_true rfl, Nat.le_of_ble_eq_true rfl⟩ hl.1 rfl (Nat.le_of_ble_eq_true rfl) hcc dL_948 (fun r1 v1 ar1 al1 H1 locs1 hp1 hPX1 hk1 hS1 => ?_)
  exact cont ax mm N cells slots v1 ar1 al1 H1 locs1 ls r1 hNX hAX hdis hPX1 (w_keep hPY hdis hk1) hS1 hp1.2.1 hmd (R_x hR (fun i j h => hp1.2.2 i j (fl_out (by decide) h))) hl
theorem dL_960 : decode code 960 = .ok (.aload_n 1, 1) := by decide +kernel
theorem dL_961 : decode code 961 = .ok (.aload_n 0, 1) := by decide +kernel
theorem dL_962 : decode code 962 = .ok (.iload_n 3, 1) := by decide +kernel
theorem dL_963 : decode code 963 = .ok (.iconst 1, 1) := by decide +kernel
theorem dL_964 : decode code 964 = .ok (.iadd, 1) := by decide +kernel
theorem dL_965 : decode code 965 = .ok (.iaload, 1) := by decide +kernel
theorem dL_966 : decode code 966 = .ok (.invokevirtual 137, 3) := by decide +kernel
theorem dL_969 : decode code 969 = .ok (.pop, 1) := by decide +kernel
theorem dL_970 : decode code 970 = .ok (.aload_n 2, 1) := by decide +kernel
theorem dL_971 : decode code 971 = .ok (.aload_n 0, 1) := by decide +kernel
theorem dL_972 : decode code 972 = .ok (.iload_n 3, 1) := by decide +kernel
theorem dL_973 : decode code 973 = .ok (.iconst 1, 1) := by decide +kernel
theorem dL_974 : decode code 974 = .ok (.iadd, 1) := by decide +kernel
theorem dL_975 : decode code 975 = .ok (.iaload, 1) := by decide +kernel
theorem dL_976 : decode code 976 = .ok (.invokevirtual 140, 3) := by decide +kernel
theorem dL_979 : decode code 979 = .ok (.pop, 1) := by decide +kernel
theorem dL_980 : decode code 980 = .ok (.goto 974, 3) := by decide +kernel
set_option maxHeartbeats 4000000 in
set_option maxRecDepth 100000 in
theorem lc_30 {p : Program} {l : Launch} {e : Env} {s : State} {m : MethodId} {below : List Frame} {meth : Method} {c : Code} {b L : Nat} {xs : Nat → Int32} {D : va_G} {K : Nat → ClassId} {ay ax : Nat → Nat} {mm : Option Nat} {N cells slots : Nat} {v ar : sI} {al : sL} {v' ar' : sI} {al' : sL} {H : Heap} {locs : List Loc} {ls : Array Slot} {tk tv : Nat → Nat} {i : Int} (hi : 0 ≤ i ∧ i + 6 ≤ (L : Int) ∧ L ≤ 3072) (F : lawF p s m meth c b L xs D K tk tv) (C : lawI s D K ay ax mm N cells slots v ar al v' ar' al' H locs) (hl : lv_has ls 4 [(3, .int (iI i)), (2, .ref (ay 0)), (1, .ref (ax 0)), (0, .ref b)]) (kk : lawK p l e s m below meth c b D K ay i) : W p l e room_1 s m #[Value.ref b] below meth c H locs cells slots (lw_Z below #[Value.ref b] s) (F0 m 960 ls []) := by
  obtain ⟨C0, hE, hK, hT, hTR⟩ := F
  obtain ⟨hx, hb, hr, hml, hown, hts, hX, hbl, hlocks, hgv⟩ := id C0
  have hbA : ¬ lawA s b := Nat.not_le.mpr hbl
  obtain ⟨hNX, hNY, hAX, hAY, hdis, hPX, hPY, hS, hXI, hYI, hmd, hR⟩ := C
  have hcc := lawM_c hmd
  have hNN := lawM_N hmd
  obtain ⟨z1, hz1, ez1⟩ := iI_of (xs (iI (i + 1)).toNatClampNeg)
  have cont : ∀ (ax : Nat → Nat) (mm : Option Nat) (N cells slots : Nat) (v ar : sI) (al : sL) (H : Heap) (locs : List Loc) (ls : Array Slot) (r : Int32), apart ax N → (∀ i, i < N → lawA s (ax i)) → (∀ i j, i < N → j < 21 → ax i ≠ ay j) → va_P D xcl (wW ax (xG ax K mm) N v ar al) H → va_P D xcl (wW ay (yG ay K) 21 v' ar' al') H → va_S (lawA s) s.heap H locs → XI v → lawM ax mm N cells slots → lawR v ar al v' ar' al' → lv_has ls 4 [(3, .int (iI i)), (2, .ref (ay 0)), (1, .ref (ax 0)), (0, .ref b)] → W p l e room_1 s m #[Value.ref b] below meth c H locs cells slots (lw_Z below #[Value.ref b] s) (F0 m 969 ls [.int r]) := by
    intro ax mm N cells slots v ar al H locs ls r hNX hAX hdis hPX hPY hS hXI hmd hR hl
    have hcc := lawM_c hmd
    refine lv_pop hx hb dL_969 rfl ?_
    refine lv_aload_n hx hb dL_970 rfl (lv_at hl 1 rfl) ?_
    refine lv_aload_n hx hb dL_971 rfl (lv_at hl 3 rfl) ?_
    refine lv_iload_n hx hb dL_972 rfl (lv_at hl 0 rfl) ?_
    refine lv_iconst (v := iI (1)) hx hb dL_973 (by decide) ?_
    refine lv_iadd hx hb dL_974 ?_
    refine x_top (y := iI (i + 1)) (iI_add _ _) ?_
    refine va_sld (i := iI (i + 1)) hx hb hX hbl hbA hS (iI_in (n := L) (by omega)) dL_975 ?_
    refine x_top ez1 ?_
    refine l_viG (nn := 1) (As := [.int (iI (z1))]) (rest := []) hE hS hAY (s_X9_tale l D K ay v' ar' al' hYI  (z1) (by omega)) wPre_blind (wPre_now hK hNY hPY) (x_recv hK hPY 0 (by decide) (yG_9 rfl) rfl) rfl mw_1842 mw_1843 mw_1844 mw_123 mw_1845 (by decide +kernel) ⟨Nat.le_of_ble_eq_true rfl, Nat.le_of_ble_eq_true rfl⟩ hl.1 rfl (Nat.le_of_ble_eq_true rfl) hcc dL_976 (fun r2 v2 ar2 al2 H2 locs2 hp2 hPY2 hk2 hS2 => ?_)
    have hYI2 : YI v2 ar2 := hp2.2.1
    have hPX2 := w_keep hPX (fun i j hi hj e => hdis j i hj hi e.symm) hk2
    refine lv_pop hx hb dL_979 rfl ?_
    refine lv_goto (tgt := 1954) hx hb dL_980 (by decide) ?_
    exact kk ax mm N cells slots v ar al v2 ar2 al2 H2 locs2 ls ⟨hNX, hNY, hAX, hAY, hdis, hPX2, hPY2, hS2, hXI, hYI2, hmd, R_y hR (hp2.2.2.2.1 1 (by decide)) (hp2.2.2.2.1 2 (by decide)) (hp2.2.2.2.1 11 (by decide))⟩ hl
  refine lv_aload_n hx hb dL_960 rfl (lv_at hl 2 rfl) ?_
  refine lv_aload_n hx hb dL_961 rfl (lv_at hl 3 rfl) ?_
  refine lv_iload_n hx hb dL_962 rfl (lv_at hl 0 rfl) ?_
  refine lv_iconst (v := iI (1)) hx hb dL_963 (by decide) ?_
  refine lv_iadd hx hb dL_964 ?_
  refine x_top (y := iI (i + 1)) (iI_add _ _) ?_
  refine va_sld (i := iI (i + 1)) hx hb hX hbl hbA hS (iI_in (n := L) (by omega)) dL_965 ?_
  refine x_top ez1 ?_
  refine l_viG (nn := 1) (As := [.int (iI (z1))]) (rest := []) hE hS hAX (s_X8_tale_0 l D K ax mm N hNN v ar al hXI   (z1) (by omega)) wPre_blind (wPre_now hK hNX hPX) (x_recv hK hPX 0 (by omega) (xG_8 rfl) rfl) rfl mw_974 mw_975 mw_976 mw_114 mw_977 (by decide +kernel) ⟨Nat.le_of_ble_eq_true rfl, Nat.le_of_ble_eq_true rfl⟩ hl.1 rfl (Nat.le_of_ble_eq_true rfl) hcc dL_966 (fun r1 v1 ar1 al1 H1 locs1 hp1 hPX1 hk1 hS1 => ?_)
  exact cont ax mm N cells slots v1 ar1 al1 H1 locs1 ls r1 hNX hAX hdis hPX1 (w_keep hPY hdis hk1) hS1 hp1.2.1 hmd (R_x hR (fun i j h => hp1.2.2 i j (fl_out (by decide) h))) hl
theorem dL_983 : decode code 983 = .ok (.aload_n 1, 1) := by decide +kernel
theorem dL_984 : decode code 984 = .ok (.aload_n 0, 1) := by decide +kernel
theorem dL_985 : decode code 985 = .ok (.iload_n 3, 1) := by decide +kernel
theorem dL_986 : decode code 986 = .ok (.iconst 1, 1) := by decide +kernel
theorem dL_987 : decode code 987 = .ok (.iadd, 1) := by decide +kernel
theorem dL_988 : decode code 988 = .ok (.iaload, 1) := by decide +kernel
theorem dL_989 : decode code 989 = .ok (.invokevirtual 141, 3) := by decide +kernel
theorem dL_992 : decode code 992 = .ok (.pop, 1) := by decide +kernel
theorem dL_993 : decode code 993 = .ok (.aload_n 2, 1) := by decide +kernel
theorem dL_994 : decode code 994 = .ok (.aload_n 0, 1) := by decide +kernel
theorem dL_995 : decode code 995 = .ok (.iload_n 3, 1) := by decide +kernel
theorem dL_996 : decode code 996 = .ok (.iconst 1, 1) := by decide +kernel
theorem dL_997 : decode code 997 = .ok (.iadd, 1) := by decide +kernel
theorem dL_998 : decode code 998 = .ok (.iaload, 1) := by decide +kernel
theorem dL_999 : decode code 999 = .ok (.invokevirtual 144, 3) := by decide +kernel
theorem dL_1002 : decode code 1002 = .ok (.pop, 1) := by decide +kernel
theorem dL_1003 : decode code 1003 = .ok (.goto 951, 3) := by decide +kernel
set_option maxHeartbeats 4000000 in
set_option maxRecDepth 100000 in
theorem lc_31 {p : Program} {l : Launch} {e : Env} {s : State} {m : MethodId} {below : List Frame} {meth : Method} {c : Code} {b L : Nat} {xs : Nat → Int32} {D : va_G} {K : Nat → ClassId} {ay ax : Nat → Nat} {mm : Option Nat} {N cells slots : Nat} {v ar : sI} {al : sL} {v' ar' : sI} {al' : sL} {H : Heap} {locs : List Loc} {ls : Array Slot} {tk tv : Nat → Nat} {i : Int} (hi : 0 ≤ i ∧ i + 6 ≤ (L : Int) ∧ L ≤ 3072) (F : lawF p s m meth c b L xs D K tk tv) (C : lawI s D K ay ax mm N cells slots v ar al v' ar' al' H locs) (hl : lv_has ls 4 [(3, .int (iI i)), (2, .ref (ay 0)), (1, .ref (ax 0)), (0, .ref b)]) (kk : lawK p l e s m below meth c b D K ay i) : W p l e room_1 s m #[Value.ref b] below meth c H locs cells slots (lw_Z below #[Value.ref b] s) (F0 m 983 ls []) := by
  obtain ⟨C0, hE, hK, hT, hTR⟩ := F
  obtain ⟨hx, hb, hr, hml, hown, hts, hX, hbl, hlocks, hgv⟩ := id C0
  have hbA : ¬ lawA s b := Nat.not_le.mpr hbl
  obtain ⟨hNX, hNY, hAX, hAY, hdis, hPX, hPY, hS, hXI, hYI, hmd, hR⟩ := C
  have hcc := lawM_c hmd
  have hNN := lawM_N hmd
  obtain ⟨z1, hz1, ez1⟩ := iI_of (xs (iI (i + 1)).toNatClampNeg)
  have cont : ∀ (ax : Nat → Nat) (mm : Option Nat) (N cells slots : Nat) (v ar : sI) (al : sL) (H : Heap) (locs : List Loc) (ls : Array Slot) (r : Int32), apart ax N → (∀ i, i < N → lawA s (ax i)) → (∀ i j, i < N → j < 21 → ax i ≠ ay j) → va_P D xcl (wW ax (xG ax K mm) N v ar al) H → va_P D xcl (wW ay (yG ay K) 21 v' ar' al') H → va_S (lawA s) s.heap H locs → XI v → lawM ax mm N cells slots → lawR v ar al v' ar' al' → lv_has ls 4 [(3, .int (iI i)), (2, .ref (ay 0)), (1, .ref (ax 0)), (0, .ref b)] → W p l e room_1 s m #[Value.ref b] below meth c H locs cells slots (lw_Z below #[Value.ref b] s) (F0 m 992 ls [.int r]) := by
    intro ax mm N cells slots v ar al H locs ls r hNX hAX hdis hPX hPY hS hXI hmd hR hl
    have hcc := lawM_c hmd
    refine lv_pop hx hb dL_992 rfl ?_
    refine lv_aload_n hx hb dL_993 rfl (lv_at hl 1 rfl) ?_
    refine lv_aload_n hx hb dL_994 rfl (lv_at hl 3 rfl) ?_
    refine lv_iload_n hx hb dL_995 rfl (lv_at hl 0 rfl) ?_
    refine lv_iconst (v := iI (1)) hx hb dL_996 (by decide) ?_
    refine lv_iadd hx hb dL_997 ?_
    refine x_top (y := iI (i + 1)) (iI_add _ _) ?_
    refine va_sld (i := iI (i + 1)) hx hb hX hbl hbA hS (iI_in (n := L) (by omega)) dL_998 ?_
    refine x_top ez1 ?_
    refine l_viG (nn := 1) (As := [.int (iI (z1))]) (rest := []) hE hS hAY (s_X9_roof l D K ay v' ar' al' hYI  (z1) (by omega)) wPre_blind (wPre_now hK hNY hPY) (x_recv hK hPY 0 (by decide) (yG_9 rfl) rfl) rfl mw_1846 mw_1847 mw_1848 mw_123 mw_1849 (by decide +kernel) ⟨Nat.le_of_ble_eq_true rfl, Nat.le_of_ble_eq_true rfl⟩ hl.1 rfl (Nat.le_of_ble_eq_true rfl) hcc dL_999 (fun r2 v2 ar2 al2 H2 locs2 hp2 hPY2 hk2 hS2 => ?_)
    have hYI2 : YI v2 ar2 := hp2.2.1
    have hPX2 := w_keep hPX (fun i j hi hj e => hdis j i hj hi e.symm) hk2
    refine lv_pop hx hb dL_1002 rfl ?_
    refine lv_goto (tgt := 1954) hx hb dL_1003 (by decide) ?_
    exact kk ax mm N cells slots v ar al v2 ar2 al2 H2 locs2 ls ⟨hNX, hNY, hAX, hAY, hdis, hPX2, hPY2, hS2, hXI, hYI2, hmd, R_y hR (hp2.2.2.2.1 1 (by decide)) (hp2.2.2.2.1 2 (by decide)) (hp2.2.2.2.1 11 (by decide))⟩ hl
  refine lv_aload_n hx hb dL_983 rfl (lv_at hl 2 rfl) ?_
  refine lv_aload_n hx hb dL_984 rfl (lv_at hl 3 rfl) ?_
  refine lv_iload_n hx hb dL_985 rfl (lv_at hl 0 rfl) ?_
  refine lv_iconst (v := iI (1)) hx hb dL_986 (by decide) ?_
  refine lv_iadd hx hb dL_987 ?_
  refine x_top (y := iI (i + 1)) (iI_add _ _) ?_
  refine va_sld (i := iI (i + 1)) hx hb hX hbl hbA hS (iI_in (n := L) (by omega)) dL_988 ?_
  refine x_top ez1 ?_
  refine l_viG (nn := 1) (As := [.int (iI (z1))]) (rest := []) hE hS hAX (s_X8_roof_0 l D K ax mm N hNN v ar al hXI   (z1) (by omega)) wPre_blind (wPre_now hK hNX hPX) (x_recv hK hPX 0 (by omega) (xG_8 rfl) rfl) rfl mw_978 mw_979 mw_980 mw_114 mw_981 (by decide +kernel) ⟨Nat.le_of_ble_eq_true rfl, Nat.le_of_ble_eq_true rfl⟩ hl.1 rfl (Nat.le_of_ble_eq_true rfl) hcc dL_989 (fun r1 v1 ar1 al1 H1 locs1 hp1 hPX1 hk1 hS1 => ?_)
  exact cont ax mm N cells slots v1 ar1 al1 H1 locs1 ls r1 hNX hAX hdis hPX1 (w_keep hPY hdis hk1) hS1 hp1.2.1 hmd (R_x hR (fun i j h => hp1.2.2 i j (fl_out (by decide) h))) hl
theorem dL_1006 : decode code 1006 = .ok (.aload_n 1, 1) := by decide +kernel
theorem dL_1007 : decode code 1007 = .ok (.aload_n 0, 1) := by decide +kernel
theorem dL_1008 : decode code 1008 = .ok (.iload_n 3, 1) := by decide +kernel
theorem dL_1009 : decode code 1009 = .ok (.iconst 1, 1) := by decide +kernel
theorem dL_1010 : decode code 1010 = .ok (.iadd, 1) := by decide +kernel
theorem dL_1011 : decode code 1011 = .ok (.iaload, 1) := by decide +kernel
theorem dL_1012 : decode code 1012 = .ok (.aload_n 0, 1) := by decide +kernel
theorem dL_1013 : decode code 1013 = .ok (.iload_n 3, 1) := by decide +kernel
theorem dL_1014 : decode code 1014 = .ok (.iconst 2, 1) := by decide +kernel
theorem dL_1015 : decode code 1015 = .ok (.iadd, 1) := by decide +kernel
theorem dL_1016 : decode code 1016 = .ok (.iaload, 1) := by decide +kernel
theorem dL_1017 : decode code 1017 = .ok (.invokevirtual 145, 3) := by decide +kernel
theorem dL_1020 : decode code 1020 = .ok (.pop, 1) := by decide +kernel
theorem dL_1021 : decode code 1021 = .ok (.aload_n 2, 1) := by decide +kernel
theorem dL_1022 : decode code 1022 = .ok (.aload_n 0, 1) := by decide +kernel
theorem dL_1023 : decode code 1023 = .ok (.iload_n 3, 1) := by decide +kernel
theorem dL_1024 : decode code 1024 = .ok (.iconst 1, 1) := by decide +kernel
theorem dL_1025 : decode code 1025 = .ok (.iadd, 1) := by decide +kernel
theorem dL_1026 : decode code 1026 = .ok (.iaload, 1) := by decide +kernel
theorem dL_1027 : decode code 1027 = .ok (.aload_n 0, 1) := by decide +kernel
theorem dL_1028 : decode code 1028 = .ok (.iload_n 3, 1) := by decide +kernel
theorem dL_1029 : decode code 1029 = .ok (.iconst 2, 1) := by decide +kernel
theorem dL_1030 : decode code 1030 = .ok (.iadd, 1) := by decide +kernel
theorem dL_1031 : decode code 1031 = .ok (.iaload, 1) := by decide +kernel
theorem dL_1032 : decode code 1032 = .ok (.invokevirtual 148, 3) := by decide +kernel
theorem dL_1035 : decode code 1035 = .ok (.pop, 1) := by decide +kernel
theorem dL_1036 : decode code 1036 = .ok (.goto 918, 3) := by decide +kernel
set_option maxHeartbeats 4000000 in
set_option maxRecDepth 100000 in
theorem lc_32 {p : Program} {l : Launch} {e : Env} {s : State} {m : MethodId} {below : List Frame} {meth : Method} {c : Code} {b L : Nat} {xs : Nat → Int32} {D : va_G} {K : Nat → ClassId} {ay ax : Nat → Nat} {mm : Option Nat} {N cells slots : Nat} {v ar : sI} {al : sL} {v' ar' : sI} {al' : sL} {H : Heap} {locs : List Loc} {ls : Array Slot} {tk tv : Nat → Nat} {i : Int} (hi : 0 ≤ i ∧ i + 6 ≤ (L : Int) ∧ L ≤ 3072) (F : lawF p s m meth c b L xs D K tk tv) (C : lawI s D K ay ax mm N cells slots v ar al v' ar' al' H locs) (hl : lv_has ls 4 [(3, .int (iI i)), (2, .ref (ay 0)), (1, .ref (ax 0)), (0, .ref b)]) (kk : lawK p l e s m below meth c b D K ay i) : W p l e room_1 s m #[Value.ref b] below meth c H locs cells slots (lw_Z below #[Value.ref b] s) (F0 m 1006 ls []) := by
  obtain ⟨C0, hE, hK, hT, hTR⟩ := F
  obtain ⟨hx, hb, hr, hml, hown, hts, hX, hbl, hlocks, hgv⟩ := id C0
  have hbA : ¬ lawA s b := Nat.not_le.mpr hbl
  obtain ⟨hNX, hNY, hAX, hAY, hdis, hPX, hPY, hS, hXI, hYI, hmd, hR⟩ := C
  have hcc := lawM_c hmd
  have hNN := lawM_N hmd
  obtain ⟨z1, hz1, ez1⟩ := iI_of (xs (iI (i + 1)).toNatClampNeg)
  obtain ⟨z2, hz2, ez2⟩ := iI_of (xs (iI (i + 2)).toNatClampNeg)
  have cont : ∀ (ax : Nat → Nat) (mm : Option Nat) (N cells slots : Nat) (v ar : sI) (al : sL) (H : Heap) (locs : List Loc) (ls : Array Slot) (r : Int32), apart ax N → (∀ i, i < N → lawA s (ax i)) → (∀ i j, i < N → j < 21 → ax i ≠ ay j) → va_P D xcl (wW ax (xG ax K mm) N v ar al) H → va_P D xcl (wW ay (yG ay K) 21 v' ar' al') H → va_S (lawA s) s.heap H locs → XI v → lawM ax mm N cells slots → lawR v ar al v' ar' al' → lv_has ls 4 [(3, .int (iI i)), (2, .ref (ay 0)), (1, .ref (ax 0)), (0, .ref b)] → W p l e room_1 s m #[Value.ref b] below meth c H locs cells slots (lw_Z below #[Value.ref b] s) (F0 m 1020 ls [.int r]) := by
    intro ax mm N cells slots v ar al H locs ls r hNX hAX hdis hPX hPY hS hXI hmd hR hl
    have hcc := lawM_c hmd
    refine lv_pop hx hb dL_1020 rfl ?_
    refine lv_aload_n hx hb dL_1021 rfl (lv_at hl 1 rfl) ?_
    refine lv_aload_n hx hb dL_1022 rfl (lv_at hl 3 rfl) ?_
    refine lv_iload_n hx hb dL_1023 rfl (lv_at hl 0 rfl) ?_
    refine lv_iconst (v := iI (1)) hx hb dL_1024 (by decide) ?_
    refine lv_iadd hx hb dL_1025 ?_
    refine x_top (y := iI (i + 1)) (iI_add _ _) ?_
    refine va_sld (i := iI (i + 1)) hx hb hX hbl hbA hS (iI_in (n := L) (by omega)) dL_1026 ?_
    refine x_top ez1 ?_
    refine lv_aload_n hx hb dL_1027 rfl (lv_at hl 3 rfl) ?_
    refine lv_iload_n hx hb dL_1028 rfl (lv_at hl 0 rfl) ?_
    refine lv_iconst (v := iI (2)) hx hb dL_1029 (by decide) ?_
    refine lv_iadd hx hb dL_1030 ?_
    refine x_top (y := iI (i + 2)) (iI_add _ _) ?_
    refine va_sld (i := iI (i + 2)) hx hb hX hbl hbA hS (iI_in (n := L) (by omega)) dL_1031 ?_
    refine x_top ez2 ?_
    refine l_viG (nn := 2) (As := [.int (iI (z1)), .int (iI (z2))]) (rest := []) hE hS hAY (s_X9_beam l D K ay v' ar' al' hYI  (z1) (by omega) (z2) (by omega)) wPre_blind (wPre_now hK hNY hPY) (x_recv hK hPY 0 (by decide) (yG_9 rfl) rfl) rfl mw_1850 mw_1851 mw_1852 mw_123 mw_1853 (by decide +kernel) ⟨Nat.le_of_ble_eq_true rfl, Nat.le_of_ble_eq_true rfl⟩ hl.1 rfl (Nat.le_of_ble_eq_true rfl) hcc dL_1032 (fun r2 v2 ar2 al2 H2 locs2 hp2 hPY2 hk2 hS2 => ?_)
    have hYI2 : YI v2 ar2 := hp2.2.1
    have hPX2 := w_keep hPX (fun i j hi hj e => hdis j i hj hi e.symm) hk2
    refine lv_pop hx hb dL_1035 rfl ?_
    refine lv_goto (tgt := 1954) hx hb dL_1036 (by decide) ?_
    exact kk ax mm N cells slots v ar al v2 ar2 al2 H2 locs2 ls ⟨hNX, hNY, hAX, hAY, hdis, hPX2, hPY2, hS2, hXI, hYI2, hmd, R_y hR (hp2.2.2.2.1 1 (by decide)) (hp2.2.2.2.1 2 (by decide)) (hp2.2.2.2.1 11 (by decide))⟩ hl
  refine lv_aload_n hx hb dL_1006 rfl (lv_at hl 2 rfl) ?_
  refine lv_aload_n hx hb dL_1007 rfl (lv_at hl 3 rfl) ?_
  refine lv_iload_n hx hb dL_1008 rfl (lv_at hl 0 rfl) ?_
  refine lv_iconst (v := iI (1)) hx hb dL_1009 (by decide) ?_
  refine lv_iadd hx hb dL_1010 ?_
  refine x_top (y := iI (i + 1)) (iI_add _ _) ?_
  refine va_sld (i := iI (i + 1)) hx hb hX hbl hbA hS (iI_in (n := L) (by omega)) dL_1011 ?_
  refine x_top ez1 ?_
  refine lv_aload_n hx hb dL_1012 rfl (lv_at hl 3 rfl) ?_
  refine lv_iload_n hx hb dL_1013 rfl (lv_at hl 0 rfl) ?_
  refine lv_iconst (v := iI (2)) hx hb dL_1014 (by decide) ?_
  refine lv_iadd hx hb dL_1015 ?_
  refine x_top (y := iI (i + 2)) (iI_add _ _) ?_
  refine va_sld (i := iI (i + 2)) hx hb hX hbl hbA hS (iI_in (n := L) (by omega)) dL_1016 ?_
  refine x_top ez2 ?_
  refine l_viG (nn := 2) (As := [.int (iI (z1)), .int (iI (z2))]) (rest := []) hE hS hAX (s_X8_beam_0 l D K ax mm N hNN v ar al hXI   (z1) (by omega) (z2) (by omega)) wPre_blind (wPre_now hK hNX hPX) (x_recv hK hPX 0 (by omega) (xG_8 rfl) rfl) rfl mw_982 mw_983 mw_984 mw_114 mw_985 (by decide +kernel) ⟨Nat.le_of_ble_eq_true rfl, Nat.le_of_ble_eq_true rfl⟩ hl.1 rfl (Nat.le_of_ble_eq_true rfl) hcc dL_1017 (fun r1 v1 ar1 al1 H1 locs1 hp1 hPX1 hk1 hS1 => ?_)
  exact cont ax mm N cells slots v1 ar1 al1 H1 locs1 ls r1 hNX hAX hdis hPX1 (w_keep hPY hdis hk1) hS1 hp1.2.1 hmd (R_x hR (fun i j h => hp1.2.2 i j (fl_out (by decide) h))) hl
theorem dL_1039 : decode code 1039 = .ok (.aload_n 1, 1) := by decide +kernel
theorem dL_1040 : decode code 1040 = .ok (.aload_n 0, 1) := by decide +kernel
theorem dL_1041 : decode code 1041 = .ok (.iload_n 3, 1) := by decide +kernel
theorem dL_1042 : decode code 1042 = .ok (.iconst 1, 1) := by decide +kernel
theorem dL_1043 : decode code 1043 = .ok (.iadd, 1) := by decide +kernel
theorem dL_1044 : decode code 1044 = .ok (.iaload, 1) := by decide +kernel
theorem dL_1045 : decode code 1045 = .ok (.invokevirtual 149, 3) := by decide +kernel
theorem dL_1048 : decode code 1048 = .ok (.pop, 1) := by decide +kernel
theorem dL_1049 : decode code 1049 = .ok (.aload_n 2, 1) := by decide +kernel
theorem dL_1050 : decode code 1050 = .ok (.aload_n 0, 1) := by decide +kernel
theorem dL_1051 : decode code 1051 = .ok (.iload_n 3, 1) := by decide +kernel
theorem dL_1052 : decode code 1052 = .ok (.iconst 1, 1) := by decide +kernel
theorem dL_1053 : decode code 1053 = .ok (.iadd, 1) := by decide +kernel
theorem dL_1054 : decode code 1054 = .ok (.iaload, 1) := by decide +kernel
theorem dL_1055 : decode code 1055 = .ok (.invokevirtual 152, 3) := by decide +kernel
theorem dL_1058 : decode code 1058 = .ok (.pop, 1) := by decide +kernel
theorem dL_1059 : decode code 1059 = .ok (.goto 895, 3) := by decide +kernel
set_option maxHeartbeats 4000000 in
set_option maxRecDepth 100000 in
theorem lc_33 {p : Program} {l : Launch} {e : Env} {s : State} {m : MethodId} {below : List Frame} {meth : Method} {c : Code} {b L : Nat} {xs : Nat → Int32} {D : va_G} {K : Nat → ClassId} {ay ax : Nat → Nat} {mm : Option Nat} {N cells slots : Nat} {v ar : sI} {al : sL} {v' ar' : sI} {al' : sL} {H : Heap} {locs : List Loc} {ls : Array Slot} {tk tv : Nat → Nat} {i : Int} (hi : 0 ≤ i ∧ i + 6 ≤ (L : Int) ∧ L ≤ 3072) (F : lawF p s m meth c b L xs D K tk tv) (C : lawI s D K ay ax mm N cells slots v ar al v' ar' al' H locs) (hl : lv_has ls 4 [(3, .int (iI i)), (2, .ref (ay 0)), (1, .ref (ax 0)), (0, .ref b)]) (kk : lawK p l e s m below meth c b D K ay i) : W p l e room_1 s m #[Value.ref b] below meth c H locs cells slots (lw_Z below #[Value.ref b] s) (F0 m 1039 ls []) := by
  obtain ⟨C0, hE, hK, hT, hTR⟩ := F
  obtain ⟨hx, hb, hr, hml, hown, hts, hX, hbl, hlocks, hgv⟩ := id C0
  have hbA : ¬ lawA s b := Nat.not_le.mpr hbl
  obtain ⟨hNX, hNY, hAX, hAY, hdis, hPX, hPY, hS, hXI, hYI, hmd, hR⟩ := C
  have hcc := lawM_c hmd
  have hNN := lawM_N hmd
  obtain ⟨z1, hz1, ez1⟩ := iI_of (xs (iI (i + 1)).toNatClampNeg)
  have cont : ∀ (ax : Nat → Nat) (mm : Option Nat) (N cells slots : Nat) (v ar : sI) (al : sL) (H : Heap) (locs : List Loc) (ls : Array Slot) (r : Int32), apart ax N → (∀ i, i < N → lawA s (ax i)) → (∀ i j, i < N → j < 21 → ax i ≠ ay j) → va_P D xcl (wW ax (xG ax K mm) N v ar al) H → va_P D xcl (wW ay (yG ay K) 21 v' ar' al') H → va_S (lawA s) s.heap H locs → XI v → lawM ax mm N cells slots → lawR v ar al v' ar' al' → lv_has ls 4 [(3, .int (iI i)), (2, .ref (ay 0)), (1, .ref (ax 0)), (0, .ref b)] → W p l e room_1 s m #[Value.ref b] below meth c H locs cells slots (lw_Z below #[Value.ref b] s) (F0 m 1048 ls [.int r]) := by
    intro ax mm N cells slots v ar al H locs ls r hNX hAX hdis hPX hPY hS hXI hmd hR hl
    have hcc := lawM_c hmd
    refine lv_pop hx hb dL_1048 rfl ?_
    refine lv_aload_n hx hb dL_1049 rfl (lv_at hl 1 rfl) ?_
    refine lv_aload_n hx hb dL_1050 rfl (lv_at hl 3 rfl) ?_
    refine lv_iload_n hx hb dL_1051 rfl (lv_at hl 0 rfl) ?_
    refine lv_iconst (v := iI (1)) hx hb dL_1052 (by decide) ?_
    refine lv_iadd hx hb dL_1053 ?_
    refine x_top (y := iI (i + 1)) (iI_add _ _) ?_
    refine va_sld (i := iI (i + 1)) hx hb hX hbl hbA hS (iI_in (n := L) (by omega)) dL_1054 ?_
    refine x_top ez1 ?_
    refine l_viG (nn := 1) (As := [.int (iI (z1))]) (rest := []) hE hS hAY (s_X9_rows l D K ay v' ar' al' hYI  (z1) (by omega)) wPre_blind (wPre_now hK hNY hPY) (x_recv hK hPY 0 (by decide) (yG_9 rfl) rfl) rfl mw_1854 mw_1855 mw_1856 mw_123 mw_1857 (by decide +kernel) ⟨Nat.le_of_ble_eq_true rfl, Nat.le_of_ble_eq_true rfl⟩ hl.1 rfl (Nat.le_of_ble_eq_true rfl) hcc dL_1055 (fun r2 v2 ar2 al2 H2 locs2 hp2 hPY2 hk2 hS2 => ?_)
    have hYI2 : YI v2 ar2 := hp2.2.1
    have hPX2 := w_keep hPX (fun i j hi hj e => hdis j i hj hi e.symm) hk2
    refine lv_pop hx hb dL_1058 rfl ?_
    refine lv_goto (tgt := 1954) hx hb dL_1059 (by decide) ?_
    exact kk ax mm N cells slots v ar al v2 ar2 al2 H2 locs2 ls ⟨hNX, hNY, hAX, hAY, hdis, hPX2, hPY2, hS2, hXI, hYI2, hmd, R_y hR (hp2.2.2.2.1 1 (by decide)) (hp2.2.2.2.1 2 (by decide)) (hp2.2.2.2.1 11 (by decide))⟩ hl
  refine lv_aload_n hx hb dL_1039 rfl (lv_at hl 2 rfl) ?_
  refine lv_aload_n hx hb dL_1040 rfl (lv_at hl 3 rfl) ?_
  refine lv_iload_n hx hb dL_1041 rfl (lv_at hl 0 rfl) ?_
  refine lv_iconst (v := iI (1)) hx hb dL_1042 (by decide) ?_
  refine lv_iadd hx hb dL_1043 ?_
  refine x_top (y := iI (i + 1)) (iI_add _ _) ?_
  refine va_sld (i := iI (i + 1)) hx hb hX hbl hbA hS (iI_in (n := L) (by omega)) dL_1044 ?_
  refine x_top ez1 ?_
  refine l_viG (nn := 1) (As := [.int (iI (z1))]) (rest := []) hE hS hAX (s_X8_rows_0 l D K ax mm N hNN v ar al hXI   (z1) (by omega)) wPre_blind (wPre_now hK hNX hPX) (x_recv hK hPX 0 (by omega) (xG_8 rfl) rfl) rfl mw_986 mw_987 mw_988 mw_114 mw_989 (by decide +kernel) ⟨Nat.le_of_ble_eq_true rfl, Nat.le_of_ble_eq_true rfl⟩ hl.1 rfl (Nat.le_of_ble_eq_true rfl) hcc dL_1045 (fun r1 v1 ar1 al1 H1 locs1 hp1 hPX1 hk1 hS1 => ?_)
  exact cont ax mm N cells slots v1 ar1 al1 H1 locs1 ls r1 hNX hAX hdis hPX1 (w_keep hPY hdis hk1) hS1 hp1.2.1 hmd (R_x hR (fun i j h => hp1.2.2 i j (fl_out (by decide) h))) hl
theorem dL_1062 : decode code 1062 = .ok (.aload_n 1, 1) := by decide +kernel
theorem dL_1063 : decode code 1063 = .ok (.invokevirtual 153, 3) := by decide +kernel
theorem dL_1066 : decode code 1066 = .ok (.pop, 1) := by decide +kernel
theorem dL_1067 : decode code 1067 = .ok (.aload_n 2, 1) := by decide +kernel
theorem dL_1068 : decode code 1068 = .ok (.invokevirtual 156, 3) := by decide +kernel
theorem dL_1071 : decode code 1071 = .ok (.pop, 1) := by decide +kernel
theorem dL_1072 : decode code 1072 = .ok (.goto 882, 3) := by decide +kernel
set_option maxHeartbeats 4000000 in
set_option maxRecDepth 100000 in
theorem lc_34 {p : Program} {l : Launch} {e : Env} {s : State} {m : MethodId} {below : List Frame} {meth : Method} {c : Code} {b L : Nat} {xs : Nat → Int32} {D : va_G} {K : Nat → ClassId} {ay ax : Nat → Nat} {mm : Option Nat} {N cells slots : Nat} {v ar : sI} {al : sL} {v' ar' : sI} {al' : sL} {H : Heap} {locs : List Loc} {ls : Array Slot} {tk tv : Nat → Nat} {i : Int} (hi : 0 ≤ i ∧ i + 6 ≤ (L : Int) ∧ L ≤ 3072) (F : lawF p s m meth c b L xs D K tk tv) (C : lawI s D K ay ax mm N cells slots v ar al v' ar' al' H locs) (hl : lv_has ls 4 [(3, .int (iI i)), (2, .ref (ay 0)), (1, .ref (ax 0)), (0, .ref b)]) (kk : lawK p l e s m below meth c b D K ay i) : W p l e room_1 s m #[Value.ref b] below meth c H locs cells slots (lw_Z below #[Value.ref b] s) (F0 m 1062 ls []) := by
  obtain ⟨C0, hE, hK, hT, hTR⟩ := F
  obtain ⟨hx, hb, hr, hml, hown, hts, hX, hbl, hlocks, hgv⟩ := id C0
  have hbA : ¬ lawA s b := Nat.not_le.mpr hbl
  obtain ⟨hNX, hNY, hAX, hAY, hdis, hPX, hPY, hS, hXI, hYI, hmd, hR⟩ := C
  have hcc := lawM_c hmd
  have hNN := lawM_N hmd
  have cont : ∀ (ax : Nat → Nat) (mm : Option Nat) (N cells slots : Nat) (v ar : sI) (al : sL) (H : Heap) (locs : List Loc) (ls : Array Slot) (r : Int32), apart ax N → (∀ i, i < N → lawA s (ax i)) → (∀ i j, i < N → j < 21 → ax i ≠ ay j) → va_P D xcl (wW ax (xG ax K mm) N v ar al) H → va_P D xcl (wW ay (yG ay K) 21 v' ar' al') H → va_S (lawA s) s.heap H locs → XI v → lawM ax mm N cells slots → lawR v ar al v' ar' al' → lv_has ls 4 [(3, .int (iI i)), (2, .ref (ay 0)), (1, .ref (ax 0)), (0, .ref b)] → W p l e room_1 s m #[Value.ref b] below meth c H locs cells slots (lw_Z below #[Value.ref b] s) (F0 m 1066 ls [.int r]) := by
    intro ax mm N cells slots v ar al H locs ls r hNX hAX hdis hPX hPY hS hXI hmd hR hl
    have hcc := lawM_c hmd
    refine lv_pop hx hb dL_1066 rfl ?_
    refine lv_aload_n hx hb dL_1067 rfl (lv_at hl 1 rfl) ?_
    refine l_viG (nn := 0) (As := []) (rest := []) hE hS hAY (s_X9_wholes l D K ay v' ar' al' hYI  ) wPre_blind (wPre_now hK hNY hPY) (x_recv hK hPY 0 (by decide) (yG_9 rfl) rfl) rfl mw_1859 mw_1860 mw_1861 mw_123 mw_1862 (by decide +kernel) ⟨Nat.le_of_ble_eq_true rfl, Nat.le_of_ble_eq_true rfl⟩ hl.1 rfl (Nat.le_of_ble_eq_true rfl) hcc dL_1068 (fun r2 v2 ar2 al2 H2 locs2 hp2 hPY2 hk2 hS2 => ?_)
    have hYI2 : YI v2 ar2 := hp2.2.1
    have hPX2 := w_keep hPX (fun i j hi hj e => hdis j i hj hi e.symm) hk2
    refine lv_pop hx hb dL_1071 rfl ?_
    refine lv_goto (tgt := 1954) hx hb dL_1072 (by decide) ?_
    exact kk ax mm N cells slots v ar al v2 ar2 al2 H2 locs2 ls ⟨hNX, hNY, hAX, hAY, hdis, hPX2, hPY2, hS2, hXI, hYI2, hmd, R_y hR (hp2.2.2.2.1 1 (by decide)) (hp2.2.2.2.1 2 (by decide)) (hp2.2.2.2.1 11 (by decide))⟩ hl
  refine lv_aload_n hx hb dL_1062 rfl (lv_at hl 2 rfl) ?_
  refine l_viG (nn := 0) (As := []) (rest := []) hE hS hAX (s_X8_wholes_0 l D K ax mm N hNN v ar al hXI   ) wPre_blind (wPre_now hK hNX hPX) (x_recv hK hPX 0 (by omega) (xG_8 rfl) rfl) rfl mw_990 mw_991 mw_992 mw_114 mw_993 (by decide +kernel) ⟨Nat.le_of_ble_eq_true rfl, Nat.le_of_ble_eq_true rfl⟩ hl.1 rfl (Nat.le_of_ble_eq_true rfl) hcc dL_1063 (fun r1 v1 ar1 al1 H1 locs1 hp1 hPX1 hk1 hS1 => ?_)
  exact cont ax mm N cells slots v1 ar1 al1 H1 locs1 ls r1 hNX hAX hdis hPX1 (w_keep hPY hdis hk1) hS1 hp1.2.1 hmd (R_x hR (fun i j h => hp1.2.2 i j (fl_out (by decide) h))) hl
theorem dL_1075 : decode code 1075 = .ok (.aload_n 1, 1) := by decide +kernel
theorem dL_1076 : decode code 1076 = .ok (.aload_n 0, 1) := by decide +kernel
theorem dL_1077 : decode code 1077 = .ok (.iload_n 3, 1) := by decide +kernel
theorem dL_1078 : decode code 1078 = .ok (.iconst 1, 1) := by decide +kernel
theorem dL_1079 : decode code 1079 = .ok (.iadd, 1) := by decide +kernel
theorem dL_1080 : decode code 1080 = .ok (.iaload, 1) := by decide +kernel
theorem dL_1081 : decode code 1081 = .ok (.invokevirtual 157, 3) := by decide +kernel
theorem dL_1084 : decode code 1084 = .ok (.pop, 1) := by decide +kernel
theorem dL_1085 : decode code 1085 = .ok (.aload_n 2, 1) := by decide +kernel
theorem dL_1086 : decode code 1086 = .ok (.aload_n 0, 1) := by decide +kernel
theorem dL_1087 : decode code 1087 = .ok (.iload_n 3, 1) := by decide +kernel
theorem dL_1088 : decode code 1088 = .ok (.iconst 1, 1) := by decide +kernel
theorem dL_1089 : decode code 1089 = .ok (.iadd, 1) := by decide +kernel
theorem dL_1090 : decode code 1090 = .ok (.iaload, 1) := by decide +kernel
theorem dL_1091 : decode code 1091 = .ok (.invokevirtual 160, 3) := by decide +kernel
theorem dL_1094 : decode code 1094 = .ok (.pop, 1) := by decide +kernel
theorem dL_1095 : decode code 1095 = .ok (.goto 859, 3) := by decide +kernel
set_option maxHeartbeats 4000000 in
set_option maxRecDepth 100000 in
theorem lc_35 {p : Program} {l : Launch} {e : Env} {s : State} {m : MethodId} {below : List Frame} {meth : Method} {c : Code} {b L : Nat} {xs : Nat → Int32} {D : va_G} {K : Nat → ClassId} {ay ax : Nat → Nat} {mm : Option Nat} {N cells slots : Nat} {v ar : sI} {al : sL} {v' ar' : sI} {al' : sL} {H : Heap} {locs : List Loc} {ls : Array Slot} {tk tv : Nat → Nat} {i : Int} (hi : 0 ≤ i ∧ i + 6 ≤ (L : Int) ∧ L ≤ 3072) (F : lawF p s m meth c b L xs D K tk tv) (C : lawI s D K ay ax mm N cells slots v ar al v' ar' al' H locs) (hl : lv_has ls 4 [(3, .int (iI i)), (2, .ref (ay 0)), (1, .ref (ax 0)), (0, .ref b)]) (kk : lawK p l e s m below meth c b D K ay i) : W p l e room_1 s m #[Value.ref b] below meth c H locs cells slots (lw_Z below #[Value.ref b] s) (F0 m 1075 ls []) := by
  obtain ⟨C0, hE, hK, hT, hTR⟩ := F
  obtain ⟨hx, hb, hr, hml, hown, hts, hX, hbl, hlocks, hgv⟩ := id C0
  have hbA : ¬ lawA s b := Nat.not_le.mpr hbl
  obtain ⟨hNX, hNY, hAX, hAY, hdis, hPX, hPY, hS, hXI, hYI, hmd, hR⟩ := C
  have hcc := lawM_c hmd
  have hNN := lawM_N hmd
  obtain ⟨z1, hz1, ez1⟩ := iI_of (xs (iI (i + 1)).toNatClampNeg)
  have cont : ∀ (ax : Nat → Nat) (mm : Option Nat) (N cells slots : Nat) (v ar : sI) (al : sL) (H : Heap) (locs : List Loc) (ls : Array Slot) (r : Int32), apart ax N → (∀ i, i < N → lawA s (ax i)) → (∀ i j, i < N → j < 21 → ax i ≠ ay j) → va_P D xcl (wW ax (xG ax K mm) N v ar al) H → va_P D xcl (wW ay (yG ay K) 21 v' ar' al') H → va_S (lawA s) s.heap H locs → XI v → lawM ax mm N cells slots → lawR v ar al v' ar' al' → lv_has ls 4 [(3, .int (iI i)), (2, .ref (ay 0)), (1, .ref (ax 0)), (0, .ref b)] → W p l e room_1 s m #[Value.ref b] below meth c H locs cells slots (lw_Z below #[Value.ref b] s) (F0 m 1084 ls [.int r]) := by
    intro ax mm N cells slots v ar al H locs ls r hNX hAX hdis hPX hPY hS hXI hmd hR hl
    have hcc := lawM_c hmd
    refine lv_pop hx hb dL_1084 rfl ?_
    refine lv_aload_n hx hb dL_1085 rfl (lv_at hl 1 rfl) ?_
    refine lv_aload_n hx hb dL_1086 rfl (lv_at hl 3 rfl) ?_
    refine lv_iload_n hx hb dL_1087 rfl (lv_at hl 0 rfl) ?_
    refine lv_iconst (v := iI (1)) hx hb dL_1088 (by decide) ?_
    refine lv_iadd hx hb dL_1089 ?_
    refine x_top (y := iI (i + 1)) (iI_add _ _) ?_
    refine va_sld (i := iI (i + 1)) hx hb hX hbl hbA hS (iI_in (n := L) (by omega)) dL_1090 ?_
    refine x_top ez1 ?_
    refine l_viG (nn := 1) (As := [.int (iI (z1))]) (rest := []) hE hS hAY (s_X9_ends_ l D K ay v' ar' al' hYI  (z1) (by omega)) wPre_blind (wPre_now hK hNY hPY) (x_recv hK hPY 0 (by decide) (yG_9 rfl) rfl) rfl mw_1867 mw_1868 mw_1869 mw_123 mw_1870 (by decide +kernel) ⟨Nat.le_of_ble_eq_true rfl, Nat.le_of_ble_eq_true rfl⟩ hl.1 rfl (Nat.le_of_ble_eq_true rfl) hcc dL_1091 (fun r2 v2 ar2 al2 H2 locs2 hp2 hPY2 hk2 hS2 => ?_)
    have hYI2 : YI v2 ar2 := hp2.2.1
    have hPX2 := w_keep hPX (fun i j hi hj e => hdis j i hj hi e.symm) hk2
    refine lv_pop hx hb dL_1094 rfl ?_
    refine lv_goto (tgt := 1954) hx hb dL_1095 (by decide) ?_
    exact kk ax mm N cells slots v ar al v2 ar2 al2 H2 locs2 ls ⟨hNX, hNY, hAX, hAY, hdis, hPX2, hPY2, hS2, hXI, hYI2, hmd, R_y hR (hp2.2.2.2.1 1 (by decide)) (hp2.2.2.2.1 2 (by decide)) (hp2.2.2.2.1 11 (by decide))⟩ hl
  refine lv_aload_n hx hb dL_1075 rfl (lv_at hl 2 rfl) ?_
  refine lv_aload_n hx hb dL_1076 rfl (lv_at hl 3 rfl) ?_
  refine lv_iload_n hx hb dL_1077 rfl (lv_at hl 0 rfl) ?_
  refine lv_iconst (v := iI (1)) hx hb dL_1078 (by decide) ?_
  refine lv_iadd hx hb dL_1079 ?_
  refine x_top (y := iI (i + 1)) (iI_add _ _) ?_
  refine va_sld (i := iI (i + 1)) hx hb hX hbl hbA hS (iI_in (n := L) (by omega)) dL_1080 ?_
  refine x_top ez1 ?_
  refine l_viG (nn := 1) (As := [.int (iI (z1))]) (rest := []) hE hS hAX (s_X8_ends_0 l D K ax mm N hNN v ar al hXI   (z1) (by omega)) wPre_blind (wPre_now hK hNX hPX) (x_recv hK hPX 0 (by omega) (xG_8 rfl) rfl) rfl mw_998 mw_999 mw_1000 mw_114 mw_1001 (by decide +kernel) ⟨Nat.le_of_ble_eq_true rfl, Nat.le_of_ble_eq_true rfl⟩ hl.1 rfl (Nat.le_of_ble_eq_true rfl) hcc dL_1081 (fun r1 v1 ar1 al1 H1 locs1 hp1 hPX1 hk1 hS1 => ?_)
  exact cont ax mm N cells slots v1 ar1 al1 H1 locs1 ls r1 hNX hAX hdis hPX1 (w_keep hPY hdis hk1) hS1 hp1.2.1 hmd (R_x hR (fun i j h => hp1.2.2 i j (fl_out (by decide) h))) hl
