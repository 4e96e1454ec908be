section XB
variable {p : Program} {l : Launch} {e : Env} {R : Room} {s : State} {m : MethodId} {args : Array Value} {below : List Frame} {meth : Method} {c : Code} {cc : ByteArray} {H : Heap} {locs : List Loc} {cells slots : Nat} {Q : State → Prop} {pc nL : Nat} {ls : Array Slot} {rest st : List Value} {D : va_G} {K : Nat → ClassId} {ad : Nat → Nat} {G : gT} {N : Nat} {v ar : sI} {al : sL} {own : String}
theorem x_viB (hE : CallFix p m c cc nL s args tbG own) (hK : va_K D xcl (xty K) s) (hN : apart ad N) (hP : va_P D xcl (wW ad G N v ar al) H) (hS : va_S (inW ad N) s.heap H locs) {y : MethodName} {b : ByteArray} {mL d idx nn a : Nat} {ret : Option FieldType} {As : List Value} {Bp : State → Prop} {post : Int32 → sT → Prop} (hM : Met l y (wM y b mL ret) (rmD d) (va_Pc (.ref a :: As) Bp) (va_Qi post (wB D ad G N) (inW ad N)) 0 0 (inW ad N)) (hbl : FrameBlind (va_Pc (.ref a :: As) Bp)) (hB : ∀ U : State, U.heap = H → s.WarmedH U.vm → Bp U) (hrecv : ∃ cell : Cell, H[a]? = some cell ∧ cell.vm.isStatics = false ∧ s.vm.findClass y.cls = some cell.cls) (hnn : As.length = nn) (h1 : Cond.methodLink own idx y ∈ tbG) (h2 : Cond.instanceMethod y ∈ tbG) (h3 : Cond.selects y.cls y y ∈ tbG) (h4 : Cond.initialized y.cls ∈ tbG) (h5 : Cond.code y b mL ret ∈ tbG) (hd : y.cls = y.cls ∧ y.cls ≠ "java/lang/invoke/MethodHandle" ∧ y.cls ≠ "java/lang/invoke/VarHandle" ∧ (parseMethodDescriptor y.desc).map (fun d => d.parameters.length) = some nn) (hR : d + 1 ≤ R.frames ∧ 8 + (mL + 11) + 64 * d ≤ R.locals) (hls : ls.size = nL) (hst : st = As.reverse ++ .ref a :: rest) (hw : (rest.map fun v => v.category).sum ≤ 8) (hcs : cells ≤ R.cells ∧ slots ≤ R.slots) (hdg : decode cc pc = .ok (.invokevirtual idx, 3))
    (kk : ∀ (r : Int32) (v' ar' : sI) (al' : sL) (H1 : Heap) (locs1 : List Loc), post r (v', ar', al') → va_P D xcl (wW ad G N v' ar' al') H1 → va_S (inW ad N) s.heap H1 locs1 → W p l e R s m args below meth c H1 locs1 cells slots Q (F0 m (pc + 3) ls (.int r :: rest))) : W p l e R s m args below meth c H locs cells slots Q (F0 m pc ls st) := by
  refine va_calli (va_runV (As := As) (rest := rest) hE hM (cwV nn hE.2.2.2.2 (gV h1 h2 h3 h4 h5) rfl rfl rfl hd hR) ⟨hbl, hrecv, fun U hU hW => ⟨rfl, hB U hU hW⟩⟩ rfl hnn hls hst (lv_room hw) hdg hcs) hS (fun q _ h => h) (fun q h => h) (fun r u t H1 locs1 ht _ hp hB _ _ hS1 => ?_)
  exact kk r u.1 u.2.1 u.2.2 H1 locs1 hp (by rw [← ht]; exact hB) hS1
theorem x_vvB (hE : CallFix p m c cc nL s args tbG own) (hK : va_K D xcl (xty K) s) (hN : apart ad N) (hP : va_P D xcl (wW ad G N v ar al) H) (hS : va_S (inW ad N) s.heap H locs) {y : MethodName} {b : ByteArray} {mL d idx nn a : Nat} {As : List Value} {Bp : State → Prop} {post : sT → Prop} (hM : Met l y (wM y b mL none) (rmD d) (va_Pc (.ref a :: As) Bp) (va_Qv post (wB D ad G N) (inW ad N)) 0 0 (inW ad N)) (hbl : FrameBlind (va_Pc (.ref a :: As) Bp)) (hB : ∀ U : State, U.heap = H → s.WarmedH U.vm → Bp U) (hrecv : ∃ cell : Cell, H[a]? = some cell ∧ cell.vm.isStatics = false ∧ s.vm.findClass y.cls = some cell.cls) (hnn : As.length = nn) (h1 : Cond.methodLink own idx y ∈ tbG) (h2 : Cond.instanceMethod y ∈ tbG) (h3 : Cond.selects y.cls y y ∈ tbG) (h4 : Cond.initialized y.cls ∈ tbG) (h5 : Cond.code y b mL none ∈ tbG) (hd : y.cls = y.cls ∧ y.cls ≠ "java/lang/invoke/MethodHandle" ∧ y.cls ≠ "java/lang/invoke/VarHandle" ∧ (parseMethodDescriptor y.desc).map (fun d => d.parameters.length) = some nn) (hR : d + 1 ≤ R.frames ∧ 8 + (mL + 11) + 64 * d ≤ R.locals) (hls : ls.size = nL) (hst : st = As.reverse ++ .ref a :: rest) (hw : (rest.map fun v => v.category).sum ≤ 8) (hcs : cells ≤ R.cells ∧ slots ≤ R.slots) (hdg : decode cc pc = .ok (.invokevirtual idx, 3))
    (kk : ∀ (v' ar' : sI) (al' : sL) (H1 : Heap) (locs1 : List Loc), post (v', ar', al') → va_P D xcl (wW ad G N v' ar' al') H1 → va_S (inW ad N) s.heap H1 locs1 → W p l e R s m args below meth c H1 locs1 cells slots Q (F0 m (pc + 3) ls rest)) : W p l e R s m args below meth c H locs cells slots Q (F0 m pc ls st) := by
  refine va_callv (va_runV (As := As) (rest := rest) hE hM (cwV nn hE.2.2.2.2 (gV h1 h2 h3 h4 h5) rfl rfl rfl hd hR) ⟨hbl, hrecv, fun U hU hW => ⟨rfl, hB U hU hW⟩⟩ rfl hnn hls hst (lv_room hw) hdg hcs) hS (fun q _ h => h) (fun q h => h) (fun u t H1 locs1 ht _ hp hB _ _ hS1 => ?_)
  exact kk u.1 u.2.1 u.2.2 H1 locs1 hp (by rw [← ht]; exact hB) hS1
end XB

theorem dX1_clear_0 : decode cX1_clear 0 = .ok (.aload_n 0, 1) := by decide +kernel
theorem dX1_clear_1 : decode cX1_clear 1 = .ok (.iconst 0, 1) := by decide +kernel
theorem dX1_clear_2 : decode cX1_clear 2 = .ok (.putfield 39, 3) := by decide +kernel
theorem dX1_clear_5 : decode cX1_clear 5 = .ok (.aload_n 0, 1) := by decide +kernel
theorem dX1_clear_6 : decode cX1_clear 6 = .ok (.iconst 0, 1) := by decide +kernel
theorem dX1_clear_7 : decode cX1_clear 7 = .ok (.putfield 43, 3) := by decide +kernel
theorem dX1_clear_10 : decode cX1_clear 10 = .ok (.aload_n 0, 1) := by decide +kernel
theorem dX1_clear_11 : decode cX1_clear 11 = .ok (.iconst 0, 1) := by decide +kernel
theorem dX1_clear_12 : decode cX1_clear 12 = .ok (.putfield 46, 3) := by decide +kernel
theorem dX1_clear_15 : decode cX1_clear 15 = .ok (.aload_n 0, 1) := by decide +kernel
theorem dX1_clear_16 : decode cX1_clear 16 = .ok (.iconst 0, 1) := by decide +kernel
theorem dX1_clear_17 : decode cX1_clear 17 = .ok (.putfield 49, 3) := by decide +kernel
theorem dX1_clear_20 : decode cX1_clear 20 = .ok (.aload_n 0, 1) := by decide +kernel
theorem dX1_clear_21 : decode cX1_clear 21 = .ok (.iconst 0, 1) := by decide +kernel
theorem dX1_clear_22 : decode cX1_clear 22 = .ok (.putfield 52, 3) := by decide +kernel
theorem dX1_clear_25 : decode cX1_clear 25 = .ok (.aload_n 0, 1) := by decide +kernel
theorem dX1_clear_26 : decode cX1_clear 26 = .ok (.iconst 0, 1) := by decide +kernel
theorem dX1_clear_27 : decode cX1_clear 27 = .ok (.putfield 55, 3) := by decide +kernel
theorem dX1_clear_30 : decode cX1_clear 30 = .ok (.aload_n 0, 1) := by decide +kernel
theorem dX1_clear_31 : decode cX1_clear 31 = .ok (.iconst 0, 1) := by decide +kernel
theorem dX1_clear_32 : decode cX1_clear 32 = .ok (.putfield 58, 3) := by decide +kernel
theorem dX1_clear_35 : decode cX1_clear 35 = .ok (.aload_n 0, 1) := by decide +kernel
theorem dX1_clear_36 : decode cX1_clear 36 = .ok (.iconst 0, 1) := by decide +kernel
theorem dX1_clear_37 : decode cX1_clear 37 = .ok (.putfield 61, 3) := by decide +kernel
theorem dX1_clear_40 : decode cX1_clear 40 = .ok (.aload_n 0, 1) := by decide +kernel
theorem dX1_clear_41 : decode cX1_clear 41 = .ok (.iconst 0, 1) := by decide +kernel
theorem dX1_clear_42 : decode cX1_clear 42 = .ok (.putfield 64, 3) := by decide +kernel
theorem dX1_clear_45 : decode cX1_clear 45 = .ok (.aload_n 0, 1) := by decide +kernel
theorem dX1_clear_46 : decode cX1_clear 46 = .ok (.iconst 0, 1) := by decide +kernel
theorem dX1_clear_47 : decode cX1_clear 47 = .ok (.putfield 67, 3) := by decide +kernel
theorem dX1_clear_50 : decode cX1_clear 50 = .ok (.aload_n 0, 1) := by decide +kernel
theorem dX1_clear_51 : decode cX1_clear 51 = .ok (.iconst 0, 1) := by decide +kernel
theorem dX1_clear_52 : decode cX1_clear 52 = .ok (.putfield 70, 3) := by decide +kernel
theorem dX1_clear_55 : decode cX1_clear 55 = .ok (.aload_n 0, 1) := by decide +kernel
theorem dX1_clear_56 : decode cX1_clear 56 = .ok (.getfield 9, 3) := by decide +kernel
theorem dX1_clear_59 : decode cX1_clear 59 = .ok (.iconst 0, 1) := by decide +kernel
theorem dX1_clear_60 : decode cX1_clear 60 = .ok (.invokestatic 73, 3) := by decide +kernel
theorem dX1_clear_63 : decode cX1_clear 63 = .ok (.aload_n 0, 1) := by decide +kernel
theorem dX1_clear_64 : decode cX1_clear 64 = .ok (.getfield 15, 3) := by decide +kernel
theorem dX1_clear_67 : decode cX1_clear 67 = .ok (.iconst (-1), 1) := by decide +kernel
theorem dX1_clear_68 : decode cX1_clear 68 = .ok (.invokestatic 73, 3) := by decide +kernel
theorem dX1_clear_71 : decode cX1_clear 71 = .ok (.aload_n 0, 1) := by decide +kernel
theorem dX1_clear_72 : decode cX1_clear 72 = .ok (.getfield 18, 3) := by decide +kernel
theorem dX1_clear_75 : decode cX1_clear 75 = .ok (.iconst 0, 1) := by decide +kernel
theorem dX1_clear_76 : decode cX1_clear 76 = .ok (.invokestatic 73, 3) := by decide +kernel
theorem dX1_clear_79 : decode cX1_clear 79 = .ok (.aload_n 0, 1) := by decide +kernel
theorem dX1_clear_80 : decode cX1_clear 80 = .ok (.getfield 21, 3) := by decide +kernel
theorem dX1_clear_83 : decode cX1_clear 83 = .ok (.iconst (-1), 1) := by decide +kernel
theorem dX1_clear_84 : decode cX1_clear 84 = .ok (.invokestatic 73, 3) := by decide +kernel
theorem dX1_clear_87 : decode cX1_clear 87 = .ok (.aload_n 0, 1) := by decide +kernel
theorem dX1_clear_88 : decode cX1_clear 88 = .ok (.getfield 24, 3) := by decide +kernel
theorem dX1_clear_91 : decode cX1_clear 91 = .ok (.iconst 0, 1) := by decide +kernel
theorem dX1_clear_92 : decode cX1_clear 92 = .ok (.invokestatic 73, 3) := by decide +kernel
theorem dX1_clear_95 : decode cX1_clear 95 = .ok (.aload_n 0, 1) := by decide +kernel
theorem dX1_clear_96 : decode cX1_clear 96 = .ok (.getfield 27, 3) := by decide +kernel
theorem dX1_clear_99 : decode cX1_clear 99 = .ok (.iconst 0, 1) := by decide +kernel
theorem dX1_clear_100 : decode cX1_clear 100 = .ok (.invokestatic 73, 3) := by decide +kernel
theorem dX1_clear_103 : decode cX1_clear 103 = .ok (.aload_n 0, 1) := by decide +kernel
theorem dX1_clear_104 : decode cX1_clear 104 = .ok (.getfield 30, 3) := by decide +kernel
theorem dX1_clear_107 : decode cX1_clear 107 = .ok (.iconst 0, 1) := by decide +kernel
theorem dX1_clear_108 : decode cX1_clear 108 = .ok (.invokestatic 73, 3) := by decide +kernel
theorem dX1_clear_111 : decode cX1_clear 111 = .ok (.aload_n 0, 1) := by decide +kernel
theorem dX1_clear_112 : decode cX1_clear 112 = .ok (.getfield 33, 3) := by decide +kernel
theorem dX1_clear_115 : decode cX1_clear 115 = .ok (.iconst 0, 1) := by decide +kernel
theorem dX1_clear_116 : decode cX1_clear 116 = .ok (.invokestatic 73, 3) := by decide +kernel
theorem dX1_clear_119 : decode cX1_clear 119 = .ok (.aload_n 0, 1) := by decide +kernel
theorem dX1_clear_120 : decode cX1_clear 120 = .ok (.getfield 36, 3) := by decide +kernel
theorem dX1_clear_123 : decode cX1_clear 123 = .ok (.iconst 0, 1) := by decide +kernel
theorem dX1_clear_124 : decode cX1_clear 124 = .ok (.invokestatic 73, 3) := by decide +kernel
theorem dX1_clear_127 : decode cX1_clear 127 = .ok (.return_, 1) := by decide +kernel
set_option maxHeartbeats 4000000 in
set_option maxRecDepth 100000 in
theorem s_X1_clear_13 (l : Launch) (D : va_G) (K : Nat → ClassId) (ad : Nat → Nat) (mm : Option Nat) (N : Nat) (hNN : 132 ≤ N) (v ar : sI) (al : sL) (hI : XI v) : Met l yX1_clear (wM yX1_clear cX1_clear 1 none) (rmD 1) (va_Pc [.ref (ad 13)] (wPre D K ad (xG ad K mm) N v ar al)) (va_Qv (fun u : sT => XI u.1 ∧ (∀ i j : Nat, (i, j) ∉ ([(13, 0), (13, 1), (13, 2), (13, 3), (13, 4), (13, 5), (13, 6), (13, 7), (13, 8), (13, 9), (13, 10)] : List (Nat × Nat)) → u.1 i j = v i j)) (wB D ad (xG ad K mm) N) (inW ad N)) 0 0 (inW ad N) := by
  refine s_metV (by decide) (Nat.le_of_ble_eq_true rfl) ?_
  intro p e s m below meth c ls args Q hE hB hl kr
  have hE : CallFix p m c cX1_clear 1 s args tbG "TaleCourt$Court" := hE
  obtain ⟨hP, hK, hN⟩ := hB
  have hS : va_S (inW ad N) s.heap s.heap [] := va_S.rf
  have hl : lv_has ls 1 [(0, .ref (ad 13))] := hl
  refine lv_aload_n hE.1 hE.2.1 dX1_clear_0 rfl (lv_at hl 0 rfl) ?_
  refine lv_iconst (v := iI (0)) hE.1 hE.2.1 dX1_clear_1 (by decide) ?_
  refine x_put (x := iI (0)) hE hK hN hP hS 13 (Nat.lt_of_lt_of_le (by decide) hNN) (xG_1 rfl) rfl hin1 tyX1 tyX1_ok nmX1 0 (by decide) mw_178 rfl rfl rfl (Nat.le_of_ble_eq_true rfl) (xG_1 rfl) dX1_clear_2 (fun v1 H locs hv1 hP hS => ?_)
  have hI := XI_putB (z := 0) hI hv1 0 3 (by omega) (by decide) (by omega)
  refine lv_aload_n hE.1 hE.2.1 dX1_clear_5 rfl (lv_at hl 0 rfl) ?_
  refine lv_iconst (v := iI (0)) hE.1 hE.2.1 dX1_clear_6 (by decide) ?_
  refine x_put (x := iI (0)) hE hK hN hP hS 13 (Nat.lt_of_lt_of_le (by decide) hNN) (xG_1 rfl) rfl hin1 tyX1 tyX1_ok nmX1 1 (by decide) mw_182 rfl rfl rfl (Nat.le_of_ble_eq_true rfl) (xG_1 rfl) dX1_clear_7 (fun v2 H locs hv2 hP hS => ?_)
  have hI := XI_putN hI hv2 (by decide)
  refine lv_aload_n hE.1 hE.2.1 dX1_clear_10 rfl (lv_at hl 0 rfl) ?_
  refine lv_iconst (v := iI (0)) hE.1 hE.2.1 dX1_clear_11 (by decide) ?_
  refine x_put (x := iI (0)) hE hK hN hP hS 13 (Nat.lt_of_lt_of_le (by decide) hNN) (xG_1 rfl) rfl hin1 tyX1 tyX1_ok nmX1 2 (by decide) mw_187 rfl rfl rfl (Nat.le_of_ble_eq_true rfl) (xG_1 rfl) dX1_clear_12 (fun v3 H locs hv3 hP hS => ?_)
  have hI := XI_putB (z := 0) hI hv3 0 9 (by omega) (by decide) (by omega)
  refine lv_aload_n hE.1 hE.2.1 dX1_clear_15 rfl (lv_at hl 0 rfl) ?_
  refine lv_iconst (v := iI (0)) hE.1 hE.2.1 dX1_clear_16 (by decide) ?_
  refine x_put (x := iI (0)) hE hK hN hP hS 13 (Nat.lt_of_lt_of_le (by decide) hNN) (xG_1 rfl) rfl hin1 tyX1 tyX1_ok nmX1 3 (by decide) mw_190 rfl rfl rfl (Nat.le_of_ble_eq_true rfl) (xG_1 rfl) dX1_clear_17 (fun v4 H locs hv4 hP hS => ?_)
  have hI := XI_putB (z := 0) hI hv4 0 8 (by omega) (by decide) (by omega)
  refine lv_aload_n hE.1 hE.2.1 dX1_clear_20 rfl (lv_at hl 0 rfl) ?_
  refine lv_iconst (v := iI (0)) hE.1 hE.2.1 dX1_clear_21 (by decide) ?_
  refine x_put (x := iI (0)) hE hK hN hP hS 13 (Nat.lt_of_lt_of_le (by decide) hNN) (xG_1 rfl) rfl hin1 tyX1 tyX1_ok nmX1 4 (by decide) mw_194 rfl rfl rfl (Nat.le_of_ble_eq_true rfl) (xG_1 rfl) dX1_clear_22 (fun v5 H locs hv5 hP hS => ?_)
  have hI := XI_putN hI hv5 (by decide)
  refine lv_aload_n hE.1 hE.2.1 dX1_clear_25 rfl (lv_at hl 0 rfl) ?_
  refine lv_iconst (v := iI (0)) hE.1 hE.2.1 dX1_clear_26 (by decide) ?_
  refine x_put (x := iI (0)) hE hK hN hP hS 13 (Nat.lt_of_lt_of_le (by decide) hNN) (xG_1 rfl) rfl hin1 tyX1 tyX1_ok nmX1 5 (by decide) mw_197 rfl rfl rfl (Nat.le_of_ble_eq_true rfl) (xG_1 rfl) dX1_clear_27 (fun v6 H locs hv6 hP hS => ?_)
  have hI := XI_putN hI hv6 (by decide)
  refine lv_aload_n hE.1 hE.2.1 dX1_clear_30 rfl (lv_at hl 0 rfl) ?_
  refine lv_iconst (v := iI (0)) hE.1 hE.2.1 dX1_clear_31 (by decide) ?_
  refine x_put (x := iI (0)) hE hK hN hP hS 13 (Nat.lt_of_lt_of_le (by decide) hNN) (xG_1 rfl) rfl hin1 tyX1 tyX1_ok nmX1 6 (by decide) mw_200 rfl rfl rfl (Nat.le_of_ble_eq_true rfl) (xG_1 rfl) dX1_clear_32 (fun v7 H locs hv7 hP hS => ?_)
  have hI := XI_putN hI hv7 (by decide)
  refine lv_aload_n hE.1 hE.2.1 dX1_clear_35 rfl (lv_at hl 0 rfl) ?_
  refine lv_iconst (v := iI (0)) hE.1 hE.2.1 dX1_clear_36 (by decide) ?_
  refine x_put (x := iI (0)) hE hK hN hP hS 13 (Nat.lt_of_lt_of_le (by decide) hNN) (xG_1 rfl) rfl hin1 tyX1 tyX1_ok nmX1 7 (by decide) mw_203 rfl rfl rfl (Nat.le_of_ble_eq_true rfl) (xG_1 rfl) dX1_clear_37 (fun v8 H locs hv8 hP hS => ?_)
  have hI := XI_putN hI hv8 (by decide)
  refine lv_aload_n hE.1 hE.2.1 dX1_clear_40 rfl (lv_at hl 0 rfl) ?_
  refine lv_iconst (v := iI (0)) hE.1 hE.2.1 dX1_clear_41 (by decide) ?_
  refine x_put (x := iI (0)) hE hK hN hP hS 13 (Nat.lt_of_lt_of_le (by decide) hNN) (xG_1 rfl) rfl hin1 tyX1 tyX1_ok nmX1 8 (by decide) mw_207 rfl rfl rfl (Nat.le_of_ble_eq_true rfl) (xG_1 rfl) dX1_clear_42 (fun v9 H locs hv9 hP hS => ?_)
  have hI := XI_putN hI hv9 (by decide)
  refine lv_aload_n hE.1 hE.2.1 dX1_clear_45 rfl (lv_at hl 0 rfl) ?_
  refine lv_iconst (v := iI (0)) hE.1 hE.2.1 dX1_clear_46 (by decide) ?_
  refine x_put (x := iI (0)) hE hK hN hP hS 13 (Nat.lt_of_lt_of_le (by decide) hNN) (xG_1 rfl) rfl hin1 tyX1 tyX1_ok nmX1 9 (by decide) mw_211 rfl rfl rfl (Nat.le_of_ble_eq_true rfl) (xG_1 rfl) dX1_clear_47 (fun v10 H locs hv10 hP hS => ?_)
  have hI := XI_putN hI hv10 (by decide)
  refine lv_aload_n hE.1 hE.2.1 dX1_clear_50 rfl (lv_at hl 0 rfl) ?_
  refine lv_iconst (v := iI (0)) hE.1 hE.2.1 dX1_clear_51 (by decide) ?_
  refine x_put (x := iI (0)) hE hK hN hP hS 13 (Nat.lt_of_lt_of_le (by decide) hNN) (xG_1 rfl) rfl hin1 tyX1 tyX1_ok nmX1 10 (by decide) mw_214 rfl rfl rfl (Nat.le_of_ble_eq_true rfl) (xG_1 rfl) dX1_clear_52 (fun v11 H locs hv11 hP hS => ?_)
  have hI := XI_putN hI hv11 (by decide)
  refine lv_aload_n hE.1 hE.2.1 dX1_clear_55 rfl (lv_at hl 0 rfl) ?_
  refine x_get (x := .ref (ad 14)) hE hK hP 13 (Nat.lt_of_lt_of_le (by decide) hNN) (xG_1 rfl) rfl hin1 11 (by decide) mw_218 rfl dX1_clear_56 ?_
  refine lv_iconst (v := iI (0)) hE.1 hE.2.1 dX1_clear_59 (by decide) ?_
  refine x_sv (nn := 2) (As := [.ref (ad 14), .int (iI (0))]) (rest := []) hE hK hN hP hS (k_fillI l D K ad v11 ar al 14 9 (Nat.lt_of_lt_of_le (by decide) hNN) (fun _ => xG_10 rfl) (Nat.le_of_ble_eq_true rfl) (iI (0))) rfl mw_535 mw_536 mw_124 mw_537 (by decide +kernel) ⟨by decide, by decide⟩ hl.1 rfl (Nat.le_of_ble_eq_true rfl) ⟨Nat.zero_le _, Nat.zero_le _⟩ dX1_clear_60 (fun v12 ar12 al12 H locs hq12 hP hS => ?_)
  rw [show v12 = v11 from hq12.1] at hP
  refine lv_aload_n hE.1 hE.2.1 dX1_clear_63 rfl (lv_at hl 0 rfl) ?_
  refine x_get (x := .ref (ad 15)) hE hK hP 13 (Nat.lt_of_lt_of_le (by decide) hNN) (xG_1 rfl) rfl hin1 12 (by decide) mw_221 rfl dX1_clear_64 ?_
  refine lv_iconst (v := iI (-1)) hE.1 hE.2.1 dX1_clear_67 (by decide) ?_
  refine x_sv (nn := 2) (As := [.ref (ad 15), .int (iI (-1))]) (rest := []) hE hK hN hP hS (k_fillI l D K ad v11 ar12 al12 15 9 (Nat.lt_of_lt_of_le (by decide) hNN) (fun _ => xG_10 rfl) (Nat.le_of_ble_eq_true rfl) (iI (-1))) rfl mw_535 mw_536 mw_124 mw_537 (by decide +kernel) ⟨by decide, by decide⟩ hl.1 rfl (Nat.le_of_ble_eq_true rfl) ⟨Nat.zero_le _, Nat.zero_le _⟩ dX1_clear_68 (fun v13 ar13 al13 H locs hq13 hP hS => ?_)
  rw [show v13 = v11 from hq13.1] at hP
  refine lv_aload_n hE.1 hE.2.1 dX1_clear_71 rfl (lv_at hl 0 rfl) ?_
  refine x_get (x := .ref (ad 16)) hE hK hP 13 (Nat.lt_of_lt_of_le (by decide) hNN) (xG_1 rfl) rfl hin1 13 (by decide) mw_225 rfl dX1_clear_72 ?_
  refine lv_iconst (v := iI (0)) hE.1 hE.2.1 dX1_clear_75 (by decide) ?_
  refine x_sv (nn := 2) (As := [.ref (ad 16), .int (iI (0))]) (rest := []) hE hK hN hP hS (k_fillI l D K ad v11 ar13 al13 16 9 (Nat.lt_of_lt_of_le (by decide) hNN) (fun _ => xG_10 rfl) (Nat.le_of_ble_eq_true rfl) (iI (0))) rfl mw_535 mw_536 mw_124 mw_537 (by decide +kernel) ⟨by decide, by decide⟩ hl.1 rfl (Nat.le_of_ble_eq_true rfl) ⟨Nat.zero_le _, Nat.zero_le _⟩ dX1_clear_76 (fun v14 ar14 al14 H locs hq14 hP hS => ?_)
  rw [show v14 = v11 from hq14.1] at hP
  refine lv_aload_n hE.1 hE.2.1 dX1_clear_79 rfl (lv_at hl 0 rfl) ?_
  refine x_get (x := .ref (ad 17)) hE hK hP 13 (Nat.lt_of_lt_of_le (by decide) hNN) (xG_1 rfl) rfl hin1 14 (by decide) mw_229 rfl dX1_clear_80 ?_
  refine lv_iconst (v := iI (-1)) hE.1 hE.2.1 dX1_clear_83 (by decide) ?_
  refine x_sv (nn := 2) (As := [.ref (ad 17), .int (iI (-1))]) (rest := []) hE hK hN hP hS (k_fillI l D K ad v11 ar14 al14 17 9 (Nat.lt_of_lt_of_le (by decide) hNN) (fun _ => xG_10 rfl) (Nat.le_of_ble_eq_true rfl) (iI (-1))) rfl mw_535 mw_536 mw_124 mw_537 (by decide +kernel) ⟨by decide, by decide⟩ hl.1 rfl (Nat.le_of_ble_eq_true rfl) ⟨Nat.zero_le _, Nat.zero_le _⟩ dX1_clear_84 (fun v15 ar15 al15 H locs hq15 hP hS => ?_)
  rw [show v15 = v11 from hq15.1] at hP
  refine lv_aload_n hE.1 hE.2.1 dX1_clear_87 rfl (lv_at hl 0 rfl) ?_
  refine x_get (x := .ref (ad 18)) hE hK hP 13 (Nat.lt_of_lt_of_le (by decide) hNN) (xG_1 rfl) rfl hin1 15 (by decide) mw_231 rfl dX1_clear_88 ?_
  refine lv_iconst (v := iI (0)) hE.1 hE.2.1 dX1_clear_91 (by decide) ?_
  refine x_sv (nn := 2) (As := [.ref (ad 18), .int (iI (0))]) (rest := []) hE hK hN hP hS (k_fillI l D K ad v11 ar15 al15 18 9 (Nat.lt_of_lt_of_le (by decide) hNN) (fun _ => xG_10 rfl) (Nat.le_of_ble_eq_true rfl) (iI (0))) rfl mw_535 mw_536 mw_124 mw_537 (by decide +kernel) ⟨by decide, by decide⟩ hl.1 rfl (Nat.le_of_ble_eq_true rfl) ⟨Nat.zero_le _, Nat.zero_le _⟩ dX1_clear_92 (fun v16 ar16 al16 H locs hq16 hP hS => ?_)
  rw [show v16 = v11 from hq16.1] at hP
  refine lv_aload_n hE.1 hE.2.1 dX1_clear_95 rfl (lv_at hl 0 rfl) ?_
  refine x_get (x := .ref (ad 19)) hE hK hP 13 (Nat.lt_of_lt_of_le (by decide) hNN) (xG_1 rfl) rfl hin1 16 (by decide) mw_235 rfl dX1_clear_96 ?_
  refine lv_iconst (v := iI (0)) hE.1 hE.2.1 dX1_clear_99 (by decide) ?_
  refine x_sv (nn := 2) (As := [.ref (ad 19), .int (iI (0))]) (rest := []) hE hK hN hP hS (k_fillI l D K ad v11 ar16 al16 19 9 (Nat.lt_of_lt_of_le (by decide) hNN) (fun _ => xG_10 rfl) (Nat.le_of_ble_eq_true rfl) (iI (0))) rfl mw_535 mw_536 mw_124 mw_537 (by decide +kernel) ⟨by decide, by decide⟩ hl.1 rfl (Nat.le_of_ble_eq_true rfl) ⟨Nat.zero_le _, Nat.zero_le _⟩ dX1_clear_100 (fun v17 ar17 al17 H locs hq17 hP hS => ?_)
  rw [show v17 = v11 from hq17.1] at hP
  refine lv_aload_n hE.1 hE.2.1 dX1_clear_103 rfl (lv_at hl 0 rfl) ?_
  refine x_get (x := .ref (ad 20)) hE hK hP 13 (Nat.lt_of_lt_of_le (by decide) hNN) (xG_1 rfl) rfl hin1 17 (by decide) mw_239 rfl dX1_clear_104 ?_
  refine lv_iconst (v := iI (0)) hE.1 hE.2.1 dX1_clear_107 (by decide) ?_
  refine x_sv (nn := 2) (As := [.ref (ad 20), .int (iI (0))]) (rest := []) hE hK hN hP hS (k_fillI l D K ad v11 ar17 al17 20 3 (Nat.lt_of_lt_of_le (by decide) hNN) (fun _ => xG_10 rfl) (Nat.le_of_ble_eq_true rfl) (iI (0))) rfl mw_535 mw_536 mw_124 mw_537 (by decide +kernel) ⟨by decide, by decide⟩ hl.1 rfl (Nat.le_of_ble_eq_true rfl) ⟨Nat.zero_le _, Nat.zero_le _⟩ dX1_clear_108 (fun v18 ar18 al18 H locs hq18 hP hS => ?_)
  rw [show v18 = v11 from hq18.1] at hP
  refine lv_aload_n hE.1 hE.2.1 dX1_clear_111 rfl (lv_at hl 0 rfl) ?_
  refine x_get (x := .ref (ad 21)) hE hK hP 13 (Nat.lt_of_lt_of_le (by decide) hNN) (xG_1 rfl) rfl hin1 18 (by decide) mw_241 rfl dX1_clear_112 ?_
  refine lv_iconst (v := iI (0)) hE.1 hE.2.1 dX1_clear_115 (by decide) ?_
  refine x_sv (nn := 2) (As := [.ref (ad 21), .int (iI (0))]) (rest := []) hE hK hN hP hS (k_fillI l D K ad v11 ar18 al18 21 8 (Nat.lt_of_lt_of_le (by decide) hNN) (fun _ => xG_10 rfl) (Nat.le_of_ble_eq_true rfl) (iI (0))) rfl mw_535 mw_536 mw_124 mw_537 (by decide +kernel) ⟨by decide, by decide⟩ hl.1 rfl (Nat.le_of_ble_eq_true rfl) ⟨Nat.zero_le _, Nat.zero_le _⟩ dX1_clear_116 (fun v19 ar19 al19 H locs hq19 hP hS => ?_)
  rw [show v19 = v11 from hq19.1] at hP
  refine lv_aload_n hE.1 hE.2.1 dX1_clear_119 rfl (lv_at hl 0 rfl) ?_
  refine x_get (x := .ref (ad 22)) hE hK hP 13 (Nat.lt_of_lt_of_le (by decide) hNN) (xG_1 rfl) rfl hin1 19 (by decide) mw_244 rfl dX1_clear_120 ?_
  refine lv_iconst (v := iI (0)) hE.1 hE.2.1 dX1_clear_123 (by decide) ?_
  refine x_sv (nn := 2) (As := [.ref (ad 22), .int (iI (0))]) (rest := []) hE hK hN hP hS (k_fillI l D K ad v11 ar19 al19 22 8 (Nat.lt_of_lt_of_le (by decide) hNN) (fun _ => xG_10 rfl) (Nat.le_of_ble_eq_true rfl) (iI (0))) rfl mw_535 mw_536 mw_124 mw_537 (by decide +kernel) ⟨by decide, by decide⟩ hl.1 rfl (Nat.le_of_ble_eq_true rfl) ⟨Nat.zero_le _, Nat.zero_le _⟩ dX1_clear_124 (fun v20 ar20 al20 H locs hq20 hP hS => ?_)
  rw [show v20 = v11 from hq20.1] at hP
  exact kr _ _ _ _ _ _ _ ⟨hI, fun i j h => ((up_oth hv11 (fun q => h (by rcases q with ⟨rfl, rfl⟩; decide))).trans ((up_oth hv10 (fun q => h (by rcases q with ⟨rfl, rfl⟩; decide))).trans ((up_oth hv9 (fun q => h (by rcases q with ⟨rfl, rfl⟩; decide))).trans ((up_oth hv8 (fun q => h (by rcases q with ⟨rfl, rfl⟩; decide))).trans ((up_oth hv7 (fun q => h (by rcases q with ⟨rfl, rfl⟩; decide))).trans ((up_oth hv6 (fun q => h (by rcases q with ⟨rfl, rfl⟩; decide))).trans ((up_oth hv5 (fun q => h (by rcases q with ⟨rfl, rfl⟩; decide))).trans ((up_oth hv4 (fun q => h (by rcases q with ⟨rfl, rfl⟩; decide))).trans ((up_oth hv3 (fun q => h (by rcases q with ⟨rfl, rfl⟩; decide))).trans ((up_oth hv2 (fun q => h (by rcases q with ⟨rfl, rfl⟩; decide))).trans (up_oth hv1 (fun q => h (by rcases q with ⟨rfl, rfl⟩; decide)))))))))))))⟩ hP hS dX1_clear_127

theorem dX4_byteAt_0 : decode cX4_byteAt 0 = .ok (.iload_n 1, 1) := by decide +kernel
theorem dX4_byteAt_1 : decode cX4_byteAt 1 = .ok (.ifCond .lt 31, 3) := by decide +kernel
theorem dX4_byteAt_4 : decode cX4_byteAt 4 = .ok (.iload_n 1, 1) := by decide +kernel
theorem dX4_byteAt_5 : decode cX4_byteAt 5 = .ok (.aload_n 0, 1) := by decide +kernel
theorem dX4_byteAt_6 : decode cX4_byteAt 6 = .ok (.getfield 19, 3) := by decide +kernel
theorem dX4_byteAt_9 : decode cX4_byteAt 9 = .ok (.if_icmp .ge 23, 3) := by decide +kernel
theorem dX4_byteAt_12 : decode cX4_byteAt 12 = .ok (.iload_n 1, 1) := by decide +kernel
theorem dX4_byteAt_13 : decode cX4_byteAt 13 = .ok (.sipush 1600, 3) := by decide +kernel
theorem dX4_byteAt_16 : decode cX4_byteAt 16 = .ok (.if_icmp .ge 16, 3) := by decide +kernel
theorem dX4_byteAt_19 : decode cX4_byteAt 19 = .ok (.aload_n 0, 1) := by decide +kernel
theorem dX4_byteAt_20 : decode cX4_byteAt 20 = .ok (.getfield 15, 3) := by decide +kernel
theorem dX4_byteAt_23 : decode cX4_byteAt 23 = .ok (.iload_n 1, 1) := by decide +kernel
theorem dX4_byteAt_24 : decode cX4_byteAt 24 = .ok (.baload, 1) := by decide +kernel
theorem dX4_byteAt_25 : decode cX4_byteAt 25 = .ok (.sipush 255, 3) := by decide +kernel
theorem dX4_byteAt_28 : decode cX4_byteAt 28 = .ok (.iand, 1) := by decide +kernel
theorem dX4_byteAt_29 : decode cX4_byteAt 29 = .ok (.goto 4, 3) := by decide +kernel
theorem dX4_byteAt_32 : decode cX4_byteAt 32 = .ok (.iconst (-1), 1) := by decide +kernel
theorem dX4_byteAt_33 : decode cX4_byteAt 33 = .ok (.ireturn, 1) := by decide +kernel
set_option maxHeartbeats 4000000 in
set_option maxRecDepth 100000 in
theorem s_X4_byteAt_1 (l : Launch) (D : va_G) (K : Nat → ClassId) (ad : Nat → Nat) (mm : Option Nat) (N : Nat) (hNN : 132 ≤ N) (v ar : sI) (al : sL) (hI : XI v) (z_1 : Int) (hz_1 : -2147483648 ≤ z_1 ∧ z_1 ≤ 2147483647) : Met l yX4_byteAt (wM yX4_byteAt cX4_byteAt 2 (some .int)) (rmD 0) (va_Pc [.ref (ad 1), .int (iI (z_1))] (wPre D K ad (xG ad K mm) N v ar al)) (vp_Si (fun r => ∃ z : Int, (-2147483648 ≤ z ∧ z ≤ 2147483647) ∧ r = iI z)) 0 0 (fun _ => False) := by
  refine s_metP (by decide) (Nat.le_of_ble_eq_true rfl) ?_
  intro p e s m below meth c ls args Q hE hB hl kr
  have hE : CallFix p m c cX4_byteAt 2 s args tbG "TaleCourt$Reader" := hE
  obtain ⟨hP, hK, hN⟩ := hB
  have hl : lv_has ls 2 [(0, .ref (ad 1)), (1, .int (iI (z_1)))] := hl
  refine lv_iload_n hE.1 hE.2.1 dX4_byteAt_0 rfl (lv_at hl 1 rfl) ?_
  refine s_if_lt (a := z_1) (tgt := 32) hE.1 hE.2.1 (by omega) dX4_byteAt_1 (by decide) (fun c1 => ?_) (fun c1 => ?_)
  · skip
    refine lv_iconst (v := iI (-1)) hE.1 hE.2.1 dX4_byteAt_32 (by decide) ?_
    exact kr _ _ _ rfl ⟨-1, by omega, rfl⟩ dX4_byteAt_33
  · skip
    refine lv_iload_n hE.1 hE.2.1 dX4_byteAt_4 rfl (lv_at hl 1 rfl) ?_
    refine lv_aload_n hE.1 hE.2.1 dX4_byteAt_5 rfl (lv_at hl 0 rfl) ?_
    obtain ⟨z2, hz2, ez2⟩ := XI_get hI 1 0 0 1600 (by decide)
    refine x_get (x := .int (v 1 0)) hE hK hP 1 (Nat.lt_of_lt_of_le (by decide) hNN) (xG_4 rfl) rfl hin4 0 (by decide) mw_146 rfl dX4_byteAt_6 ?_
    refine x_top (y := iI (z2)) ez2 ?_
    refine s_icmp_ge (a := z_1) (b := z2) (tgt := 32) hE.1 hE.2.1 (by omega) (by omega) dX4_byteAt_9 (by decide) (fun c3 => ?_) (fun c3 => ?_)
    · skip
      refine lv_iconst (v := iI (-1)) hE.1 hE.2.1 dX4_byteAt_32 (by decide) ?_
      exact kr _ _ _ rfl ⟨-1, by omega, rfl⟩ dX4_byteAt_33
    · skip
      refine lv_iload_n hE.1 hE.2.1 dX4_byteAt_12 rfl (lv_at hl 1 rfl) ?_
      refine lv_sipush (v := iI (1600)) hE.1 hE.2.1 dX4_byteAt_13 (by decide) ?_
      refine s_icmp_ge (a := z_1) (b := 1600) (tgt := 32) hE.1 hE.2.1 (by omega) (by omega) dX4_byteAt_16 (by decide) (fun c4 => False.elim (by omega)) (fun _ => ?_)
      refine lv_aload_n hE.1 hE.2.1 dX4_byteAt_19 rfl (lv_at hl 0 rfl) ?_
      refine x_get (x := .ref (ad 2)) hE hK hP 1 (Nat.lt_of_lt_of_le (by decide) hNN) (xG_4 rfl) rfl hin4 3 (by decide) mw_152 rfl dX4_byteAt_20 ?_
      refine lv_iload_n hE.1 hE.2.1 dX4_byteAt_23 rfl (lv_at hl 1 rfl) ?_
      refine x_bald (j := iI (z_1)) hE hK hP 2 (Nat.lt_of_lt_of_le (by decide) hNN) (xG_12 rfl) (iI_in (n := 1600) (by omega)) dX4_byteAt_24 ?_
      obtain ⟨z6, hz6, ez6⟩ := iI_of (ar 2 (iI (z_1)).toNatClampNeg)
      refine x_top ez6 ?_
      refine lv_sipush (v := iI (255)) hE.1 hE.2.1 dX4_byteAt_25 (by decide) ?_
      refine lv_iand hE.1 hE.2.1 dX4_byteAt_28 ?_
      obtain ⟨z7, hz7, ez7⟩ := iI_and (iI (z6)) (iI (255)) 8 (by decide)
      refine x_top ez7 ?_
      refine lv_goto (tgt := 33) hE.1 hE.2.1 dX4_byteAt_29 (by decide) ?_
      exact kr _ _ _ rfl ⟨z7, by omega, rfl⟩ dX4_byteAt_33

theorem dX4_kindOf_0 : decode cX4_kindOf 0 = .ok (.iload_n 0, 1) := by decide +kernel
theorem dX4_kindOf_1 : decode cX4_kindOf 1 = .ok (.iconst (-1), 1) := by decide +kernel
theorem dX4_kindOf_2 : decode cX4_kindOf 2 = .ok (.if_icmp .ne 5, 3) := by decide +kernel
theorem dX4_kindOf_5 : decode cX4_kindOf 5 = .ok (.iconst 0, 1) := by decide +kernel
theorem dX4_kindOf_6 : decode cX4_kindOf 6 = .ok (.ireturn, 1) := by decide +kernel
theorem dX4_kindOf_7 : decode cX4_kindOf 7 = .ok (.iload_n 0, 1) := by decide +kernel
theorem dX4_kindOf_8 : decode cX4_kindOf 8 = .ok (.bipush 32, 2) := by decide +kernel
theorem dX4_kindOf_10 : decode cX4_kindOf 10 = .ok (.if_icmp .eq 9, 3) := by decide +kernel
theorem dX4_kindOf_13 : decode cX4_kindOf 13 = .ok (.iload_n 0, 1) := by decide +kernel
theorem dX4_kindOf_14 : decode cX4_kindOf 14 = .ok (.bipush 10, 2) := by decide +kernel
theorem dX4_kindOf_16 : decode cX4_kindOf 16 = .ok (.if_icmp .ne 5, 3) := by decide +kernel
theorem dX4_kindOf_19 : decode cX4_kindOf 19 = .ok (.iconst 1, 1) := by decide +kernel
theorem dX4_kindOf_20 : decode cX4_kindOf 20 = .ok (.ireturn, 1) := by decide +kernel
theorem dX4_kindOf_21 : decode cX4_kindOf 21 = .ok (.iload_n 0, 1) := by decide +kernel
theorem dX4_kindOf_22 : decode cX4_kindOf 22 = .ok (.bipush 97, 2) := by decide +kernel
theorem dX4_kindOf_24 : decode cX4_kindOf 24 = .ok (.if_icmp .lt 11, 3) := by decide +kernel
theorem dX4_kindOf_27 : decode cX4_kindOf 27 = .ok (.iload_n 0, 1) := by decide +kernel
theorem dX4_kindOf_28 : decode cX4_kindOf 28 = .ok (.bipush 122, 2) := by decide +kernel
theorem dX4_kindOf_30 : decode cX4_kindOf 30 = .ok (.if_icmp .gt 5, 3) := by decide +kernel
theorem dX4_kindOf_33 : decode cX4_kindOf 33 = .ok (.iconst 2, 1) := by decide +kernel
theorem dX4_kindOf_34 : decode cX4_kindOf 34 = .ok (.ireturn, 1) := by decide +kernel
theorem dX4_kindOf_35 : decode cX4_kindOf 35 = .ok (.iload_n 0, 1) := by decide +kernel
theorem dX4_kindOf_36 : decode cX4_kindOf 36 = .ok (.bipush 48, 2) := by decide +kernel
theorem dX4_kindOf_38 : decode cX4_kindOf 38 = .ok (.if_icmp .lt 11, 3) := by decide +kernel
theorem dX4_kindOf_41 : decode cX4_kindOf 41 = .ok (.iload_n 0, 1) := by decide +kernel
theorem dX4_kindOf_42 : decode cX4_kindOf 42 = .ok (.bipush 57, 2) := by decide +kernel
theorem dX4_kindOf_44 : decode cX4_kindOf 44 = .ok (.if_icmp .gt 5, 3) := by decide +kernel
theorem dX4_kindOf_47 : decode cX4_kindOf 47 = .ok (.iconst 3, 1) := by decide +kernel
theorem dX4_kindOf_48 : decode cX4_kindOf 48 = .ok (.ireturn, 1) := by decide +kernel
theorem dX4_kindOf_49 : decode cX4_kindOf 49 = .ok (.iload_n 0, 1) := by decide +kernel
theorem dX4_kindOf_50 : decode cX4_kindOf 50 = .ok (.bipush 59, 2) := by decide +kernel
theorem dX4_kindOf_52 : decode cX4_kindOf 52 = .ok (.if_icmp .ne 7, 3) := by decide +kernel
theorem dX4_kindOf_55 : decode cX4_kindOf 55 = .ok (.iconst 4, 1) := by decide +kernel
theorem dX4_kindOf_56 : decode cX4_kindOf 56 = .ok (.goto 4, 3) := by decide +kernel
theorem dX4_kindOf_59 : decode cX4_kindOf 59 = .ok (.iconst 5, 1) := by decide +kernel
theorem dX4_kindOf_60 : decode cX4_kindOf 60 = .ok (.ireturn, 1) := by decide +kernel
set_option maxHeartbeats 4000000 in
set_option maxRecDepth 100000 in
theorem s_X4_kindOf (l : Launch) (z_1 : Int) (hz_1 : -2147483648 ≤ z_1 ∧ z_1 ≤ 2147483647) : Met l yX4_kindOf (wM yX4_kindOf cX4_kindOf 1 (some .int)) (rmD 0) (va_Pc [.int (iI (z_1))] (fun _ => True)) (vp_Si (fun r => ∃ z : Int, (-2147483648 ≤ z ∧ z ≤ 2147483647) ∧ r = iI z)) 0 0 (fun _ => False) := by
  refine s_metP (by decide) (Nat.le_of_ble_eq_true rfl) ?_
  intro p e s m below meth c ls args Q hE hB hl kr
  have hE : CallFix p m c cX4_kindOf 1 s args tbG "TaleCourt$Reader" := hE
  have hl : lv_has ls 1 [(0, .int (iI (z_1)))] := hl
  refine lv_iload_n hE.1 hE.2.1 dX4_kindOf_0 rfl (lv_at hl 0 rfl) ?_
  refine lv_iconst (v := iI (-1)) hE.1 hE.2.1 dX4_kindOf_1 (by decide) ?_
  refine s_icmp_ne (a := z_1) (b := -1) (tgt := 7) hE.1 hE.2.1 (by omega) (by omega) dX4_kindOf_2 (by decide) (fun c1 => ?_) (fun c1 => ?_)
  · skip
    refine lv_iload_n hE.1 hE.2.1 dX4_kindOf_7 rfl (lv_at hl 0 rfl) ?_
    refine lv_bipush (v := iI (32)) hE.1 hE.2.1 dX4_kindOf_8 (by decide) ?_
    refine s_icmp_eq (a := z_1) (b := 32) (tgt := 19) hE.1 hE.2.1 (by omega) (by omega) dX4_kindOf_10 (by decide) (fun c2 => ?_) (fun c2 => ?_)
    · skip
      refine lv_iconst (v := iI (1)) hE.1 hE.2.1 dX4_kindOf_19 (by decide) ?_
      exact kr _ _ _ rfl ⟨1, by omega, rfl⟩ dX4_kindOf_20
    · skip
      refine lv_iload_n hE.1 hE.2.1 dX4_kindOf_13 rfl (lv_at hl 0 rfl) ?_
      refine lv_bipush (v := iI (10)) hE.1 hE.2.1 dX4_kindOf_14 (by decide) ?_
      refine s_icmp_ne (a := z_1) (b := 10) (tgt := 21) hE.1 hE.2.1 (by omega) (by omega) dX4_kindOf_16 (by decide) (fun c3 => ?_) (fun c3 => ?_)
      · skip
        refine lv_iload_n hE.1 hE.2.1 dX4_kindOf_21 rfl (lv_at hl 0 rfl) ?_
        refine lv_bipush (v := iI (97)) hE.1 hE.2.1 dX4_kindOf_22 (by decide) ?_
        refine s_icmp_lt (a := z_1) (b := 97) (tgt := 35) hE.1 hE.2.1 (by omega) (by omega) dX4_kindOf_24 (by decide) (fun c4 => ?_) (fun c4 => ?_)
        · skip
          refine lv_iload_n hE.1 hE.2.1 dX4_kindOf_35 rfl (lv_at hl 0 rfl) ?_
          refine lv_bipush (v := iI (48)) hE.1 hE.2.1 dX4_kindOf_36 (by decide) ?_
          refine s_icmp_lt (a := z_1) (b := 48) (tgt := 49) hE.1 hE.2.1 (by omega) (by omega) dX4_kindOf_38 (by decide) (fun c5 => ?_) (fun c5 => ?_)
          · skip
            refine lv_iload_n hE.1 hE.2.1 dX4_kindOf_49 rfl (lv_at hl 0 rfl) ?_
            refine lv_bipush (v := iI (59)) hE.1 hE.2.1 dX4_kindOf_50 (by decide) ?_
            refine s_icmp_ne (a := z_1) (b := 59) (tgt := 59) hE.1 hE.2.1 (by omega) (by omega) dX4_kindOf_52 (by decide) (fun _ => ?_) (fun c6 => False.elim (by omega))
            refine lv_iconst (v := iI (5)) hE.1 hE.2.1 dX4_kindOf_59 (by decide) ?_
            exact kr _ _ _ rfl ⟨5, by omega, rfl⟩ dX4_kindOf_60
          · skip
            refine lv_iload_n hE.1 hE.2.1 dX4_kindOf_41 rfl (lv_at hl 0 rfl) ?_
            refine lv_bipush (v := iI (57)) hE.1 hE.2.1 dX4_kindOf_42 (by decide) ?_
            refine s_icmp_gt (a := z_1) (b := 57) (tgt := 49) hE.1 hE.2.1 (by omega) (by omega) dX4_kindOf_44 (by decide) (fun c7 => ?_) (fun c7 => ?_)
            · skip
              refine lv_iload_n hE.1 hE.2.1 dX4_kindOf_49 rfl (lv_at hl 0 rfl) ?_
              refine lv_bipush (v := iI (59)) hE.1 hE.2.1 dX4_kindOf_50 (by decide) ?_
              refine s_icmp_ne (a := z_1) (b := 59) (tgt := 59) hE.1 hE.2.1 (by omega) (by omega) dX4_kindOf_52 (by decide) (fun c8 => ?_) (fun c8 => ?_)
              · skip
                refine lv_iconst (v := iI (5)) hE.1 hE.2.1 dX4_kindOf_59 (by decide) ?_
                exact kr _ _ _ rfl ⟨5, by omega, rfl⟩ dX4_kindOf_60
              · skip
                refine lv_iconst (v := iI (4)) hE.1 hE.2.1 dX4_kindOf_55 (by decide) ?_
                refine lv_goto (tgt := 60) hE.1 hE.2.1 dX4_kindOf_56 (by decide) ?_
                exact kr _ _ _ rfl ⟨4, by omega, rfl⟩ dX4_kindOf_60
            · skip
              refine lv_iconst (v := iI (3)) hE.1 hE.2.1 dX4_kindOf_47 (by decide) ?_
              exact kr _ _ _ rfl ⟨3, by omega, rfl⟩ dX4_kindOf_48
        · skip
          refine lv_iload_n hE.1 hE.2.1 dX4_kindOf_27 rfl (lv_at hl 0 rfl) ?_
          refine lv_bipush (v := iI (122)) hE.1 hE.2.1 dX4_kindOf_28 (by decide) ?_
          refine s_icmp_gt (a := z_1) (b := 122) (tgt := 35) hE.1 hE.2.1 (by omega) (by omega) dX4_kindOf_30 (by decide) (fun c9 => ?_) (fun c9 => ?_)
          · skip
            refine lv_iload_n hE.1 hE.2.1 dX4_kindOf_35 rfl (lv_at hl 0 rfl) ?_
            refine lv_bipush (v := iI (48)) hE.1 hE.2.1 dX4_kindOf_36 (by decide) ?_
            refine s_icmp_lt (a := z_1) (b := 48) (tgt := 49) hE.1 hE.2.1 (by omega) (by omega) dX4_kindOf_38 (by decide) (fun c10 => False.elim (by omega)) (fun _ => ?_)
            refine lv_iload_n hE.1 hE.2.1 dX4_kindOf_41 rfl (lv_at hl 0 rfl) ?_
            refine lv_bipush (v := iI (57)) hE.1 hE.2.1 dX4_kindOf_42 (by decide) ?_
            refine s_icmp_gt (a := z_1) (b := 57) (tgt := 49) hE.1 hE.2.1 (by omega) (by omega) dX4_kindOf_44 (by decide) (fun _ => ?_) (fun c11 => False.elim (by omega))
            refine lv_iload_n hE.1 hE.2.1 dX4_kindOf_49 rfl (lv_at hl 0 rfl) ?_
            refine lv_bipush (v := iI (59)) hE.1 hE.2.1 dX4_kindOf_50 (by decide) ?_
            refine s_icmp_ne (a := z_1) (b := 59) (tgt := 59) hE.1 hE.2.1 (by omega) (by omega) dX4_kindOf_52 (by decide) (fun _ => ?_) (fun c12 => False.elim (by omega))
            refine lv_iconst (v := iI (5)) hE.1 hE.2.1 dX4_kindOf_59 (by decide) ?_
            exact kr _ _ _ rfl ⟨5, by omega, rfl⟩ dX4_kindOf_60
          · skip
            refine lv_iconst (v := iI (2)) hE.1 hE.2.1 dX4_kindOf_33 (by decide) ?_
            exact kr _ _ _ rfl ⟨2, by omega, rfl⟩ dX4_kindOf_34
      · skip
        refine lv_iconst (v := iI (1)) hE.1 hE.2.1 dX4_kindOf_19 (by decide) ?_
        exact kr _ _ _ rfl ⟨1, by omega, rfl⟩ dX4_kindOf_20
  · skip
    refine lv_iconst (v := iI (0)) hE.1 hE.2.1 dX4_kindOf_5 (by decide) ?_
    exact kr _ _ _ rfl ⟨0, by omega, rfl⟩ dX4_kindOf_6

theorem dX4_step_0 : decode cX4_step 0 = .ok (.aload_n 0, 1) := by decide +kernel
theorem dX4_step_1 : decode cX4_step 1 = .ok (.getfield 27, 3) := by decide +kernel
theorem dX4_step_4 : decode cX4_step 4 = .ok (.ifCond .eq 4, 3) := by decide +kernel
theorem dX4_step_7 : decode cX4_step 7 = .ok (.return_, 1) := by decide +kernel
theorem dX4_step_8 : decode cX4_step 8 = .ok (.aload_n 0, 1) := by decide +kernel
theorem dX4_step_9 : decode cX4_step 9 = .ok (.aload_n 0, 1) := by decide +kernel
theorem dX4_step_10 : decode cX4_step 10 = .ok (.getfield 30, 3) := by decide +kernel
theorem dX4_step_13 : decode cX4_step 13 = .ok (.putfield 172, 3) := by decide +kernel
theorem dX4_step_16 : decode cX4_step 16 = .ok (.iconst 0, 1) := by decide +kernel
theorem dX4_step_17 : decode cX4_step 17 = .ok (.istore_n 1, 1) := by decide +kernel
theorem dX4_step_18 : decode cX4_step 18 = .ok (.iload_n 1, 1) := by decide +kernel
theorem dX4_step_19 : decode cX4_step 19 = .ok (.sipush 1600, 3) := by decide +kernel
theorem dX4_step_22 : decode cX4_step 22 = .ok (.if_icmp .ge 34, 3) := by decide +kernel
theorem dX4_step_25 : decode cX4_step 25 = .ok (.aload_n 0, 1) := by decide +kernel
theorem dX4_step_26 : decode cX4_step 26 = .ok (.aload_n 0, 1) := by decide +kernel
theorem dX4_step_27 : decode cX4_step 27 = .ok (.getfield 172, 3) := by decide +kernel
theorem dX4_step_30 : decode cX4_step 30 = .ok (.invokevirtual 184, 3) := by decide +kernel
theorem dX4_step_33 : decode cX4_step 33 = .ok (.invokestatic 192, 3) := by decide +kernel
theorem dX4_step_36 : decode cX4_step 36 = .ok (.iconst 1, 1) := by decide +kernel
theorem dX4_step_37 : decode cX4_step 37 = .ok (.if_icmp .ne 19, 3) := by decide +kernel
theorem dX4_step_40 : decode cX4_step 40 = .ok (.aload_n 0, 1) := by decide +kernel
theorem dX4_step_41 : decode cX4_step 41 = .ok (.dup, 1) := by decide +kernel
theorem dX4_step_42 : decode cX4_step 42 = .ok (.getfield 172, 3) := by decide +kernel
theorem dX4_step_45 : decode cX4_step 45 = .ok (.iconst 1, 1) := by decide +kernel
theorem dX4_step_46 : decode cX4_step 46 = .ok (.iadd, 1) := by decide +kernel
theorem dX4_step_47 : decode cX4_step 47 = .ok (.putfield 172, 3) := by decide +kernel
theorem dX4_step_50 : decode cX4_step 50 = .ok (.iinc 1 1, 3) := by decide +kernel
theorem dX4_step_53 : decode cX4_step 53 = .ok (.goto (-35), 3) := by decide +kernel
theorem dX4_step_56 : decode cX4_step 56 = .ok (.aload_n 0, 1) := by decide +kernel
theorem dX4_step_57 : decode cX4_step 57 = .ok (.aload_n 0, 1) := by decide +kernel
theorem dX4_step_58 : decode cX4_step 58 = .ok (.aload_n 0, 1) := by decide +kernel
theorem dX4_step_59 : decode cX4_step 59 = .ok (.getfield 172, 3) := by decide +kernel
theorem dX4_step_62 : decode cX4_step 62 = .ok (.invokevirtual 184, 3) := by decide +kernel
theorem dX4_step_65 : decode cX4_step 65 = .ok (.invokestatic 192, 3) := by decide +kernel
theorem dX4_step_68 : decode cX4_step 68 = .ok (.putfield 36, 3) := by decide +kernel
theorem dX4_step_71 : decode cX4_step 71 = .ok (.aload_n 0, 1) := by decide +kernel
theorem dX4_step_72 : decode cX4_step 72 = .ok (.aload_n 0, 1) := by decide +kernel
theorem dX4_step_73 : decode cX4_step 73 = .ok (.getfield 36, 3) := by decide +kernel
theorem dX4_step_76 : decode cX4_step 76 = .ok (.ifCond .ne 10, 3) := by decide +kernel
theorem dX4_step_79 : decode cX4_step 79 = .ok (.aload_n 0, 1) := by decide +kernel
theorem dX4_step_80 : decode cX4_step 80 = .ok (.getfield 172, 3) := by decide +kernel
theorem dX4_step_83 : decode cX4_step 83 = .ok (.goto 9, 3) := by decide +kernel
theorem dX4_step_86 : decode cX4_step 86 = .ok (.aload_n 0, 1) := by decide +kernel
theorem dX4_step_87 : decode cX4_step 87 = .ok (.getfield 172, 3) := by decide +kernel
theorem dX4_step_90 : decode cX4_step 90 = .ok (.iconst 1, 1) := by decide +kernel
theorem dX4_step_91 : decode cX4_step 91 = .ok (.iadd, 1) := by decide +kernel
theorem dX4_step_92 : decode cX4_step 92 = .ok (.putfield 30, 3) := by decide +kernel
theorem dX4_step_95 : decode cX4_step 95 = .ok (.aload_n 0, 1) := by decide +kernel
theorem dX4_step_96 : decode cX4_step 96 = .ok (.getfield 36, 3) := by decide +kernel
theorem dX4_step_99 : decode cX4_step 99 = .ok (.iconst 2, 1) := by decide +kernel
theorem dX4_step_100 : decode cX4_step 100 = .ok (.if_icmp .eq 11, 3) := by decide +kernel
theorem dX4_step_103 : decode cX4_step 103 = .ok (.aload_n 0, 1) := by decide +kernel
theorem dX4_step_104 : decode cX4_step 104 = .ok (.getfield 36, 3) := by decide +kernel
theorem dX4_step_107 : decode cX4_step 107 = .ok (.iconst 3, 1) := by decide +kernel
theorem dX4_step_108 : decode cX4_step 108 = .ok (.if_icmp .ne 7, 3) := by decide +kernel
theorem dX4_step_111 : decode cX4_step 111 = .ok (.iconst 1, 1) := by decide +kernel
theorem dX4_step_112 : decode cX4_step 112 = .ok (.goto 4, 3) := by decide +kernel
theorem dX4_step_115 : decode cX4_step 115 = .ok (.iconst 0, 1) := by decide +kernel
theorem dX4_step_116 : decode cX4_step 116 = .ok (.istore_n 1, 1) := by decide +kernel
theorem dX4_step_117 : decode cX4_step 117 = .ok (.iconst 0, 1) := by decide +kernel
theorem dX4_step_118 : decode cX4_step 118 = .ok (.istore_n 2, 1) := by decide +kernel
theorem dX4_step_119 : decode cX4_step 119 = .ok (.iload_n 1, 1) := by decide +kernel
theorem dX4_step_120 : decode cX4_step 120 = .ok (.ifCond .eq 44, 3) := by decide +kernel
theorem dX4_step_123 : decode cX4_step 123 = .ok (.iload_n 2, 1) := by decide +kernel
theorem dX4_step_124 : decode cX4_step 124 = .ok (.sipush 1600, 3) := by decide +kernel
theorem dX4_step_127 : decode cX4_step 127 = .ok (.if_icmp .ge 37, 3) := by decide +kernel
theorem dX4_step_130 : decode cX4_step 130 = .ok (.aload_n 0, 1) := by decide +kernel
theorem dX4_step_131 : decode cX4_step 131 = .ok (.aload_n 0, 1) := by decide +kernel
theorem dX4_step_132 : decode cX4_step 132 = .ok (.getfield 30, 3) := by decide +kernel
theorem dX4_step_135 : decode cX4_step 135 = .ok (.invokevirtual 184, 3) := by decide +kernel
theorem dX4_step_138 : decode cX4_step 138 = .ok (.invokestatic 192, 3) := by decide +kernel
theorem dX4_step_141 : decode cX4_step 141 = .ok (.aload_n 0, 1) := by decide +kernel
theorem dX4_step_142 : decode cX4_step 142 = .ok (.getfield 36, 3) := by decide +kernel
theorem dX4_step_145 : decode cX4_step 145 = .ok (.if_icmp .ne 19, 3) := by decide +kernel
theorem dX4_step_148 : decode cX4_step 148 = .ok (.aload_n 0, 1) := by decide +kernel
theorem dX4_step_149 : decode cX4_step 149 = .ok (.dup, 1) := by decide +kernel
theorem dX4_step_150 : decode cX4_step 150 = .ok (.getfield 30, 3) := by decide +kernel
theorem dX4_step_153 : decode cX4_step 153 = .ok (.iconst 1, 1) := by decide +kernel
theorem dX4_step_154 : decode cX4_step 154 = .ok (.iadd, 1) := by decide +kernel
theorem dX4_step_155 : decode cX4_step 155 = .ok (.putfield 30, 3) := by decide +kernel
theorem dX4_step_158 : decode cX4_step 158 = .ok (.iinc 2 1, 3) := by decide +kernel
theorem dX4_step_161 : decode cX4_step 161 = .ok (.goto (-42), 3) := by decide +kernel
theorem dX4_step_164 : decode cX4_step 164 = .ok (.return_, 1) := by decide +kernel
set_option maxHeartbeats 4000000 in
set_option maxRecDepth 100000 in
theorem s_X4_step_1 (l : Launch) (D : va_G) (K : Nat → ClassId) (ad : Nat → Nat) (mm : Option Nat) (N : Nat) (hNN : 132 ≤ N) (v ar : sI) (al : sL) (hI : XI v) : Met l yX4_step (wM yX4_step cX4_step 3 none) (rmD 1) (va_Pc [.ref (ad 1)] (wPre D K ad (xG ad K mm) N v ar al)) (va_Qv (fun u : sT => XI u.1 ∧ (∀ i j : Nat, (i, j) ∉ ([(1, 4), (1, 5), (1, 6)] : List (Nat × Nat)) → u.1 i j = v i j)) (wB D ad (xG ad K mm) N) (inW ad N)) 0 0 (inW ad N) := by
  refine s_metV (by decide) (Nat.le_of_ble_eq_true rfl) ?_
  intro p e s m below meth c ls args Q hE hB hl kr
  have hE : CallFix p m c cX4_step 3 s args tbG "TaleCourt$Reader" := hE
  obtain ⟨hP, hK, hN⟩ := hB
  have hS : va_S (inW ad N) s.heap s.heap [] := va_S.rf
  have hl : lv_has ls 3 [(0, .ref (ad 1))] := hl
  refine lv_aload_n hE.1 hE.2.1 dX4_step_0 rfl (lv_at hl 0 rfl) ?_
  obtain ⟨z1, hz1, ez1⟩ := iI_of (v 1 1)
  refine x_get (x := .int (v 1 1)) hE hK hP 1 (Nat.lt_of_lt_of_le (by decide) hNN) (xG_4 rfl) rfl hin4 1 (by decide) mw_148 rfl dX4_step_1 ?_
  refine x_top (y := iI (z1)) ez1 ?_
  refine s_if_eq (a := z1) (tgt := 8) hE.1 hE.2.1 (by omega) dX4_step_4 (by decide) (fun c2 => ?_) (fun c2 => ?_)
  · skip
    refine lv_aload_n hE.1 hE.2.1 dX4_step_8 rfl (lv_at hl 0 rfl) ?_
    refine lv_aload_n hE.1 hE.2.1 dX4_step_9 rfl (lv_at hl 0 rfl) ?_
    obtain ⟨z3, hz3, ez3⟩ := iI_of (v 1 5)
    refine x_get (x := .int (v 1 5)) hE hK hP 1 (Nat.lt_of_lt_of_le (by decide) hNN) (xG_4 rfl) rfl hin4 5 (by decide) mw_154 rfl dX4_step_10 ?_
    refine x_top (y := iI (z3)) ez3 ?_
    refine x_put (x := iI (z3)) hE hK hN hP hS 1 (Nat.lt_of_lt_of_le (by decide) hNN) (xG_4 rfl) rfl hin4 tyX4 tyX4_ok nmX4 4 (by decide) mw_153 rfl rfl rfl (Nat.le_of_ble_eq_true rfl) (xG_4 rfl) dX4_step_13 (fun v4 H locs hv4 hP hS => ?_)
    have hI := XI_putN hI hv4 (by decide)
    refine lv_iconst (v := iI (0)) hE.1 hE.2.1 dX4_step_16 (by decide) ?_
    refine lv_istore_n (lv' := [(1, .int (iI (0))), (0, .ref (ad 1))]) hE.1 hE.2.1 dX4_step_17 rfl hl (by decide) rfl (fun ls hl => ?_)
    have loop5 : ∀ (k5 : Nat) (y5_1 : Int) (vl5 arl5 : sI) (all5 : sL) (H : Heap) (locs : List Loc) (ls : Array Slot), (1600 - y5_1).toNat = k5 → (0 ≤ y5_1 ∧ y5_1 ≤ 1600) → XI vl5 → (∀ i j : Nat, (i, j) ∉ ([(1, 4)] : List (Nat × Nat)) → vl5 i j = v4 i j) → va_P D xcl (wW ad (xG ad K mm) N vl5 arl5 all5) H → va_S (inW ad N) s.heap H locs → lv_has ls 3 [(1, .int (iI (y5_1))), (0, .ref (ad 1))] → W p l e (rmD 1) s m args below meth c H locs 0 0 Q (F0 m 18 ls []) := by
      intro k5
      induction k5 using Nat.strongRecOn with
      | _ k5 ih5 =>
        intro y5_1 vl5 arl5 all5 H locs ls hk5 hb_y5_1 hI hfr5 hP hS hl
        refine lv_iload_n hE.1 hE.2.1 dX4_step_18 rfl (lv_at hl 0 rfl) ?_
        refine lv_sipush (v := iI (1600)) hE.1 hE.2.1 dX4_step_19 (by decide) ?_
        refine s_icmp_ge (a := y5_1) (b := 1600) (tgt := 56) hE.1 hE.2.1 (by omega) (by omega) dX4_step_22 (by decide) (fun c6 => ?_) (fun c6 => ?_)
        · skip
          refine lv_aload_n hE.1 hE.2.1 dX4_step_56 rfl (lv_at hl 1 rfl) ?_
          refine lv_aload_n hE.1 hE.2.1 dX4_step_57 rfl (lv_at hl 1 rfl) ?_
          refine lv_aload_n hE.1 hE.2.1 dX4_step_58 rfl (lv_at hl 1 rfl) ?_
          obtain ⟨z7, hz7, ez7⟩ := iI_of (vl5 1 4)
          refine x_get (x := .int (vl5 1 4)) hE hK hP 1 (Nat.lt_of_lt_of_le (by decide) hNN) (xG_4 rfl) rfl hin4 4 (by decide) mw_153 rfl dX4_step_59 ?_
          refine x_top (y := iI (z7)) ez7 ?_
          refine x_vp (nn := 1) (As := [.int (iI (z7))]) (rest := [.ref (ad 1)]) hE (s_X4_byteAt_1 l D K ad mm N hNN vl5 arl5 all5 hI  (z7) (by omega)) wPre_blind (wPre_now hK hN hP) (x_recv hK hP 1 (Nat.lt_of_lt_of_le (by decide) hNN) (xG_4 rfl) rfl) rfl mw_542 mw_544 mw_1 mw_115 mw_545 (by decide +kernel) ⟨by decide, by decide⟩ hl.1 rfl (Nat.le_of_ble_eq_true rfl) ⟨Nat.zero_le _, Nat.zero_le _⟩ dX4_step_62 (fun r8 hr8 => ?_)
          obtain ⟨z8, hz8, rfl⟩ := hr8
          refine x_sp (nn := 1) (As := [.int (iI (z8))]) (rest := [.ref (ad 1)]) hE (s_X4_kindOf l (z8) (by omega)) tt_blind (fun _ _ _ => trivial) rfl mw_546 mw_547 mw_115 mw_548 (by decide +kernel) ⟨by decide, by decide⟩ hl.1 rfl (Nat.le_of_ble_eq_true rfl) ⟨Nat.zero_le _, Nat.zero_le _⟩ dX4_step_65 (fun r9 hr9 => ?_)
          obtain ⟨z9, hz9, rfl⟩ := hr9
          refine x_put (x := iI (z9)) hE hK hN hP hS 1 (Nat.lt_of_lt_of_le (by decide) hNN) (xG_4 rfl) rfl hin4 tyX4 tyX4_ok nmX4 6 (by decide) mw_155 rfl rfl rfl (Nat.le_of_ble_eq_true rfl) (xG_4 rfl) dX4_step_68 (fun v10 H locs hv10 hP hS => ?_)
          have hI := XI_putN hI hv10 (by decide)
          refine lv_aload_n hE.1 hE.2.1 dX4_step_71 rfl (lv_at hl 1 rfl) ?_
          refine lv_aload_n hE.1 hE.2.1 dX4_step_72 rfl (lv_at hl 1 rfl) ?_
          refine x_get (x := .int (v10 1 6)) hE hK hP 1 (Nat.lt_of_lt_of_le (by decide) hNN) (xG_4 rfl) rfl hin4 6 (by decide) mw_155 rfl dX4_step_73 ?_
          refine x_top (y := iI (z9)) (up_eq hv10) ?_
          refine s_if_ne (a := z9) (tgt := 86) hE.1 hE.2.1 (by omega) dX4_step_76 (by decide) (fun c11 => ?_) (fun c11 => ?_)
          · skip
            refine lv_aload_n hE.1 hE.2.1 dX4_step_86 rfl (lv_at hl 1 rfl) ?_
            refine x_get (x := .int (v10 1 4)) hE hK hP 1 (Nat.lt_of_lt_of_le (by decide) hNN) (xG_4 rfl) rfl hin4 4 (by decide) mw_153 rfl dX4_step_87 ?_
            refine x_top (y := iI (z7)) ((up_oth hv10 (by decide)).trans ez7) ?_
            refine lv_iconst (v := iI (1)) hE.1 hE.2.1 dX4_step_90 (by decide) ?_
            refine lv_iadd hE.1 hE.2.1 dX4_step_91 ?_
            obtain ⟨z12, hz12, ez12⟩ := iI_of (iI (z7) + iI (1))
            refine x_top ez12 ?_
            refine x_put (x := iI (z12)) hE hK hN hP hS 1 (Nat.lt_of_lt_of_le (by decide) hNN) (xG_4 rfl) rfl hin4 tyX4 tyX4_ok nmX4 5 (by decide) mw_154 rfl rfl rfl (Nat.le_of_ble_eq_true rfl) (xG_4 rfl) dX4_step_92 (fun v13 H locs hv13 hP hS => ?_)
            have hI := XI_putN hI hv13 (by decide)
            refine lv_aload_n hE.1 hE.2.1 dX4_step_95 rfl (lv_at hl 1 rfl) ?_
            refine x_get (x := .int (v13 1 6)) hE hK hP 1 (Nat.lt_of_lt_of_le (by decide) hNN) (xG_4 rfl) rfl hin4 6 (by decide) mw_155 rfl dX4_step_96 ?_
            refine x_top (y := iI (z9)) ((up_oth hv13 (by decide)).trans (up_eq hv10)) ?_
            refine lv_iconst (v := iI (2)) hE.1 hE.2.1 dX4_step_99 (by decide) ?_
            refine s_icmp_eq (a := z9) (b := 2) (tgt := 111) hE.1 hE.2.1 (by omega) (by omega) dX4_step_100 (by decide) (fun c14 => ?_) (fun c14 => ?_)
            · skip
              refine lv_iconst (v := iI (1)) hE.1 hE.2.1 dX4_step_111 (by decide) ?_
              refine lv_goto (tgt := 116) hE.1 hE.2.1 dX4_step_112 (by decide) ?_
              refine lv_istore_n (lv' := [(1, .int (iI (1))), (0, .ref (ad 1))]) hE.1 hE.2.1 dX4_step_116 rfl hl (by decide) rfl (fun ls hl => ?_)
              refine lv_iconst (v := iI (0)) hE.1 hE.2.1 dX4_step_117 (by decide) ?_
              refine lv_istore_n (lv' := [(2, .int (iI (0))), (1, .int (iI (1))), (0, .ref (ad 1))]) hE.1 hE.2.1 dX4_step_118 rfl hl (by decide) rfl (fun ls hl => ?_)
              have loop15 : ∀ (k15 : Nat) (y15_2 : Int) (vl15 arl15 : sI) (all15 : sL) (H : Heap) (locs : List Loc) (ls : Array Slot), (1600 - y15_2).toNat = k15 → (0 ≤ y15_2 ∧ y15_2 ≤ 1600) → XI vl15 → (∀ i j : Nat, (i, j) ∉ ([(1, 5)] : List (Nat × Nat)) → vl15 i j = v13 i j) → va_P D xcl (wW ad (xG ad K mm) N vl15 arl15 all15) H → va_S (inW ad N) s.heap H locs → lv_has ls 3 [(2, .int (iI (y15_2))), (1, .int (iI (1))), (0, .ref (ad 1))] → W p l e (rmD 1) s m args below meth c H locs 0 0 Q (F0 m 119 ls []) := by
                intro k15
                induction k15 using Nat.strongRecOn with
                | _ k15 ih15 =>
                  intro y15_2 vl15 arl15 all15 H locs ls hk15 hb_y15_2 hI hfr15 hP hS hl
                  refine lv_iload_n hE.1 hE.2.1 dX4_step_119 rfl (lv_at hl 1 rfl) ?_
                  refine s_if_eq (a := 1) (tgt := 164) hE.1 hE.2.1 (by omega) dX4_step_120 (by decide) (fun c16 => False.elim (by omega)) (fun _ => ?_)
                  refine lv_iload_n hE.1 hE.2.1 dX4_step_123 rfl (lv_at hl 0 rfl) ?_
                  refine lv_sipush (v := iI (1600)) hE.1 hE.2.1 dX4_step_124 (by decide) ?_
                  refine s_icmp_ge (a := y15_2) (b := 1600) (tgt := 164) hE.1 hE.2.1 (by omega) (by omega) dX4_step_127 (by decide) (fun c17 => ?_) (fun c17 => ?_)
                  · skip
                    exact kr _ _ _ _ _ _ _ ⟨hI, fun i j h => ((hfr15 i j (fun q => h (mem_sub (by decide) q))).trans ((up_oth hv13 (fun q => h (by rcases q with ⟨rfl, rfl⟩; decide))).trans ((up_oth hv10 (fun q => h (by rcases q with ⟨rfl, rfl⟩; decide))).trans ((hfr5 i j (fun q => h (mem_sub (by decide) q))).trans (up_oth hv4 (fun q => h (by rcases q with ⟨rfl, rfl⟩; decide)))))))⟩ hP hS dX4_step_164
                  · skip
                    refine lv_aload_n hE.1 hE.2.1 dX4_step_130 rfl (lv_at hl 2 rfl) ?_
                    refine lv_aload_n hE.1 hE.2.1 dX4_step_131 rfl (lv_at hl 2 rfl) ?_
                    obtain ⟨z18, hz18, ez18⟩ := iI_of (vl15 1 5)
                    refine x_get (x := .int (vl15 1 5)) hE hK hP 1 (Nat.lt_of_lt_of_le (by decide) hNN) (xG_4 rfl) rfl hin4 5 (by decide) mw_154 rfl dX4_step_132 ?_
                    refine x_top (y := iI (z18)) ez18 ?_
                    refine x_vp (nn := 1) (As := [.int (iI (z18))]) (rest := []) hE (s_X4_byteAt_1 l D K ad mm N hNN vl15 arl15 all15 hI  (z18) (by omega)) wPre_blind (wPre_now hK hN hP) (x_recv hK hP 1 (Nat.lt_of_lt_of_le (by decide) hNN) (xG_4 rfl) rfl) rfl mw_542 mw_544 mw_1 mw_115 mw_545 (by decide +kernel) ⟨by decide, by decide⟩ hl.1 rfl (Nat.le_of_ble_eq_true rfl) ⟨Nat.zero_le _, Nat.zero_le _⟩ dX4_step_135 (fun r19 hr19 => ?_)
                    obtain ⟨z19, hz19, rfl⟩ := hr19
                    refine x_sp (nn := 1) (As := [.int (iI (z19))]) (rest := []) hE (s_X4_kindOf l (z19) (by omega)) tt_blind (fun _ _ _ => trivial) rfl mw_546 mw_547 mw_115 mw_548 (by decide +kernel) ⟨by decide, by decide⟩ hl.1 rfl (Nat.le_of_ble_eq_true rfl) ⟨Nat.zero_le _, Nat.zero_le _⟩ dX4_step_138 (fun r20 hr20 => ?_)
                    obtain ⟨z20, hz20, rfl⟩ := hr20
                    refine lv_aload_n hE.1 hE.2.1 dX4_step_141 rfl (lv_at hl 2 rfl) ?_
                    refine x_get (x := .int (vl15 1 6)) hE hK hP 1 (Nat.lt_of_lt_of_le (by decide) hNN) (xG_4 rfl) rfl hin4 6 (by decide) mw_155 rfl dX4_step_142 ?_
                    refine x_top (y := iI (z9)) ((hfr15 1 6 (by decide)).trans ((up_oth hv13 (by decide)).trans (up_eq hv10))) ?_
                    refine s_icmp_ne (a := z20) (b := z9) (tgt := 164) hE.1 hE.2.1 (by omega) (by omega) dX4_step_145 (by decide) (fun c21 => ?_) (fun c21 => ?_)
                    · skip
                      exact kr _ _ _ _ _ _ _ ⟨hI, fun i j h => ((hfr15 i j (fun q => h (mem_sub (by decide) q))).trans ((up_oth hv13 (fun q => h (by rcases q with ⟨rfl, rfl⟩; decide))).trans ((up_oth hv10 (fun q => h (by rcases q with ⟨rfl, rfl⟩; decide))).trans ((hfr5 i j (fun q => h (mem_sub (by decide) q))).trans (up_oth hv4 (fun q => h (by rcases q with ⟨rfl, rfl⟩; decide)))))))⟩ hP hS dX4_step_164
                    · skip
                      refine lv_aload_n hE.1 hE.2.1 dX4_step_148 rfl (lv_at hl 2 rfl) ?_
                      refine lv_dup hE.1 hE.2.1 dX4_step_149 rfl ?_
                      refine x_get (x := .int (vl15 1 5)) hE hK hP 1 (Nat.lt_of_lt_of_le (by decide) hNN) (xG_4 rfl) rfl hin4 5 (by decide) mw_154 rfl dX4_step_150 ?_
                      refine x_top (y := iI (z18)) ez18 ?_
                      refine lv_iconst (v := iI (1)) hE.1 hE.2.1 dX4_step_153 (by decide) ?_
                      refine lv_iadd hE.1 hE.2.1 dX4_step_154 ?_
                      obtain ⟨z22, hz22, ez22⟩ := iI_of (iI (z18) + iI (1))
                      refine x_top ez22 ?_
                      refine x_put (x := iI (z22)) hE hK hN hP hS 1 (Nat.lt_of_lt_of_le (by decide) hNN) (xG_4 rfl) rfl hin4 tyX4 tyX4_ok nmX4 5 (by decide) mw_154 rfl rfl rfl (Nat.le_of_ble_eq_true rfl) (xG_4 rfl) dX4_step_155 (fun v23 H locs hv23 hP hS => ?_)
                      have hI := XI_putN hI hv23 (by decide)
                      refine lv_iinc (v := iI (y15_2 + 1)) (lv' := [(2, .int (iI (y15_2 + 1))), (1, .int (iI (1))), (0, .ref (ad 1))]) hE.1 hE.2.1 dX4_step_158 hl (k := 0) rfl ((iI_add (y15_2) (1)).trans (congrArg iI (by omega))) (by decide) rfl (fun ls hl => ?_)
                      refine lv_goto (tgt := 119) hE.1 hE.2.1 dX4_step_161 (by decide) ?_
                      exact ih15 _ (by omega) (y15_2 + 1) v23 arl15 all15 _ _ _ rfl (by omega) hI (fun i j h => ((up_oth hv23 (fun q => h (by rcases q with ⟨rfl, rfl⟩; decide))).trans (hfr15 i j h))) hP hS (lv_sub hl [0, 1, 2] rfl)
              exact loop15 _ (0) v13 arl5 all5 _ _ _ rfl (by omega) hI (fun _ _ _ => rfl) hP hS hl
            · skip
              refine lv_aload_n hE.1 hE.2.1 dX4_step_103 rfl (lv_at hl 1 rfl) ?_
              refine x_get (x := .int (v13 1 6)) hE hK hP 1 (Nat.lt_of_lt_of_le (by decide) hNN) (xG_4 rfl) rfl hin4 6 (by decide) mw_155 rfl dX4_step_104 ?_
              refine x_top (y := iI (z9)) ((up_oth hv13 (by decide)).trans (up_eq hv10)) ?_
              refine lv_iconst (v := iI (3)) hE.1 hE.2.1 dX4_step_107 (by decide) ?_
              refine s_icmp_ne (a := z9) (b := 3) (tgt := 115) hE.1 hE.2.1 (by omega) (by omega) dX4_step_108 (by decide) (fun c24 => ?_) (fun c24 => ?_)
              · skip
                refine lv_iconst (v := iI (0)) hE.1 hE.2.1 dX4_step_115 (by decide) ?_
                refine lv_istore_n (lv' := [(1, .int (iI (0))), (0, .ref (ad 1))]) hE.1 hE.2.1 dX4_step_116 rfl hl (by decide) rfl (fun ls hl => ?_)
                refine lv_iconst (v := iI (0)) hE.1 hE.2.1 dX4_step_117 (by decide) ?_
                refine lv_istore_n (lv' := [(2, .int (iI (0))), (1, .int (iI (0))), (0, .ref (ad 1))]) hE.1 hE.2.1 dX4_step_118 rfl hl (by decide) rfl (fun ls hl => ?_)
                have loop25 : ∀ (k25 : Nat) (y25_2 : Int) (vl25 arl25 : sI) (all25 : sL) (H : Heap) (locs : List Loc) (ls : Array Slot), (1600 - y25_2).toNat = k25 → (0 ≤ y25_2 ∧ y25_2 ≤ 1600) → XI vl25 → (∀ i j : Nat, (i, j) ∉ ([(1, 5)] : List (Nat × Nat)) → vl25 i j = v13 i j) → va_P D xcl (wW ad (xG ad K mm) N vl25 arl25 all25) H → va_S (inW ad N) s.heap H locs → lv_has ls 3 [(2, .int (iI (y25_2))), (1, .int (iI (0))), (0, .ref (ad 1))] → W p l e (rmD 1) s m args below meth c H locs 0 0 Q (F0 m 119 ls []) := by
                  intro k25
                  induction k25 using Nat.strongRecOn with
                  | _ k25 ih25 =>
                    intro y25_2 vl25 arl25 all25 H locs ls hk25 hb_y25_2 hI hfr25 hP hS hl
                    refine lv_iload_n hE.1 hE.2.1 dX4_step_119 rfl (lv_at hl 1 rfl) ?_
                    refine s_if_eq (a := 0) (tgt := 164) hE.1 hE.2.1 (by omega) dX4_step_120 (by decide) (fun _ => ?_) (fun c26 => False.elim (by omega))
                    exact kr _ _ _ _ _ _ _ ⟨hI, fun i j h => ((hfr25 i j (fun q => h (mem_sub (by decide) q))).trans ((up_oth hv13 (fun q => h (by rcases q with ⟨rfl, rfl⟩; decide))).trans ((up_oth hv10 (fun q => h (by rcases q with ⟨rfl, rfl⟩; decide))).trans ((hfr5 i j (fun q => h (mem_sub (by decide) q))).trans (up_oth hv4 (fun q => h (by rcases q with ⟨rfl, rfl⟩; decide)))))))⟩ hP hS dX4_step_164
                exact loop25 _ (0) v13 arl5 all5 _ _ _ rfl (by omega) hI (fun _ _ _ => rfl) hP hS hl
              · skip
                refine lv_iconst (v := iI (1)) hE.1 hE.2.1 dX4_step_111 (by decide) ?_
                refine lv_goto (tgt := 116) hE.1 hE.2.1 dX4_step_112 (by decide) ?_
                refine lv_istore_n (lv' := [(1, .int (iI (1))), (0, .ref (ad 1))]) hE.1 hE.2.1 dX4_step_116 rfl hl (by decide) rfl (fun ls hl => ?_)
                refine lv_iconst (v := iI (0)) hE.1 hE.2.1 dX4_step_117 (by decide) ?_
                refine lv_istore_n (lv' := [(2, .int (iI (0))), (1, .int (iI (1))), (0, .ref (ad 1))]) hE.1 hE.2.1 dX4_step_118 rfl hl (by decide) rfl (fun ls hl => ?_)
                have loop27 : ∀ (k27 : Nat) (y27_2 : Int) (vl27 arl27 : sI) (all27 : sL) (H : Heap) (locs : List Loc) (ls : Array Slot), (1600 - y27_2).toNat = k27 → (0 ≤ y27_2 ∧ y27_2 ≤ 1600) → XI vl27 → (∀ i j : Nat, (i, j) ∉ ([(1, 5)] : List (Nat × Nat)) → vl27 i j = v13 i j) → va_P D xcl (wW ad (xG ad K mm) N vl27 arl27 all27) H → va_S (inW ad N) s.heap H locs → lv_has ls 3 [(2, .int (iI (y27_2))), (1, .int (iI (1))), (0, .ref (ad 1))] → W p l e (rmD 1) s m args below meth c H locs 0 0 Q (F0 m 119 ls []) := by
                  intro k27
                  induction k27 using Nat.strongRecOn with
                  | _ k27 ih27 =>
                    intro y27_2 vl27 arl27 all27 H locs ls hk27 hb_y27_2 hI hfr27 hP hS hl
                    refine lv_iload_n hE.1 hE.2.1 dX4_step_119 rfl (lv_at hl 1 rfl) ?_
                    refine s_if_eq (a := 1) (tgt := 164) hE.1 hE.2.1 (by omega) dX4_step_120 (by decide) (fun c28 => False.elim (by omega)) (fun _ => ?_)
                    refine lv_iload_n hE.1 hE.2.1 dX4_step_123 rfl (lv_at hl 0 rfl) ?_
                    refine lv_sipush (v := iI (1600)) hE.1 hE.2.1 dX4_step_124 (by decide) ?_
                    refine s_icmp_ge (a := y27_2) (b := 1600) (tgt := 164) hE.1 hE.2.1 (by omega) (by omega) dX4_step_127 (by decide) (fun c29 => ?_) (fun c29 => ?_)
                    · skip
                      exact kr _ _ _ _ _ _ _ ⟨hI, fun i j h => ((hfr27 i j (fun q => h (mem_sub (by decide) q))).trans ((up_oth hv13 (fun q => h (by rcases q with ⟨rfl, rfl⟩; decide))).trans ((up_oth hv10 (fun q => h (by rcases q with ⟨rfl, rfl⟩; decide))).trans ((hfr5 i j (fun q => h (mem_sub (by decide) q))).trans (up_oth hv4 (fun q => h (by rcases q with ⟨rfl, rfl⟩; decide)))))))⟩ hP hS dX4_step_164
                    · skip
                      refine lv_aload_n hE.1 hE.2.1 dX4_step_130 rfl (lv_at hl 2 rfl) ?_
                      refine lv_aload_n hE.1 hE.2.1 dX4_step_131 rfl (lv_at hl 2 rfl) ?_
                      obtain ⟨z30, hz30, ez30⟩ := iI_of (vl27 1 5)
                      refine x_get (x := .int (vl27 1 5)) hE hK hP 1 (Nat.lt_of_lt_of_le (by decide) hNN) (xG_4 rfl) rfl hin4 5 (by decide) mw_154 rfl dX4_step_132 ?_
                      refine x_top (y := iI (z30)) ez30 ?_
                      refine x_vp (nn := 1) (As := [.int (iI (z30))]) (rest := []) hE (s_X4_byteAt_1 l D K ad mm N hNN vl27 arl27 all27 hI  (z30) (by omega)) wPre_blind (wPre_now hK hN hP) (x_recv hK hP 1 (Nat.lt_of_lt_of_le (by decide) hNN) (xG_4 rfl) rfl) rfl mw_542 mw_544 mw_1 mw_115 mw_545 (by decide +kernel) ⟨by decide, by decide⟩ hl.1 rfl (Nat.le_of_ble_eq_true rfl) ⟨Nat.zero_le _, Nat.zero_le _⟩ dX4_step_135 (fun r31 hr31 => ?_)
                      obtain ⟨z31, hz31, rfl⟩ := hr31
                      refine x_sp (nn := 1) (As := [.int (iI (z31))]) (rest := []) hE (s_X4_kindOf l (z31) (by omega)) tt_blind (fun _ _ _ => trivial) rfl mw_546 mw_547 mw_115 mw_548 (by decide +kernel) ⟨by decide, by decide⟩ hl.1 rfl (Nat.le_of_ble_eq_true rfl) ⟨Nat.zero_le _, Nat.zero_le _⟩ dX4_step_138 (fun r32 hr32 => ?_)
                      obtain ⟨z32, hz32, rfl⟩ := hr32
                      refine lv_aload_n hE.1 hE.2.1 dX4_step_141 rfl (lv_at hl 2 rfl) ?_
                      refine x_get (x := .int (vl27 1 6)) hE hK hP 1 (Nat.lt_of_lt_of_le (by decide) hNN) (xG_4 rfl) rfl hin4 6 (by decide) mw_155 rfl dX4_step_142 ?_
                      refine x_top (y := iI (z9)) ((hfr27 1 6 (by decide)).trans ((up_oth hv13 (by decide)).trans (up_eq hv10))) ?_
                      refine s_icmp_ne (a := z32) (b := z9) (tgt := 164) hE.1 hE.2.1 (by omega) (by omega) dX4_step_145 (by decide) (fun c33 => ?_) (fun c33 => ?_)
                      · skip
                        exact kr _ _ _ _ _ _ _ ⟨hI, fun i j h => ((hfr27 i j (fun q => h (mem_sub (by decide) q))).trans ((up_oth hv13 (fun q => h (by rcases q with ⟨rfl, rfl⟩; decide))).trans ((up_oth hv10 (fun q => h (by rcases q with ⟨rfl, rfl⟩; decide))).trans ((hfr5 i j (fun q => h (mem_sub (by decide) q))).trans (up_oth hv4 (fun q => h (by rcases q with ⟨rfl, rfl⟩; decide)))))))⟩ hP hS dX4_step_164
                      · skip
                        refine lv_aload_n hE.1 hE.2.1 dX4_step_148 rfl (lv_at hl 2 rfl) ?_
                        refine lv_dup hE.1 hE.2.1 dX4_step_149 rfl ?_
                        refine x_get (x := .int (vl27 1 5)) hE hK hP 1 (Nat.lt_of_lt_of_le (by decide) hNN) (xG_4 rfl) rfl hin4 5 (by decide) mw_154 rfl dX4_step_150 ?_
                        refine x_top (y := iI (z30)) ez30 ?_
                        refine lv_iconst (v := iI (1)) hE.1 hE.2.1 dX4_step_153 (by decide) ?_
                        refine lv_iadd hE.1 hE.2.1 dX4_step_154 ?_
                        obtain ⟨z34, hz34, ez34⟩ := iI_of (iI (z30) + iI (1))
                        refine x_top ez34 ?_
                        refine x_put (x := iI (z34)) hE hK hN hP hS 1 (Nat.lt_of_lt_of_le (by decide) hNN) (xG_4 rfl) rfl hin4 tyX4 tyX4_ok nmX4 5 (by decide) mw_154 rfl rfl rfl (Nat.le_of_ble_eq_true rfl) (xG_4 rfl) dX4_step_155 (fun v35 H locs hv35 hP hS => ?_)
                        have hI := XI_putN hI hv35 (by decide)
                        refine lv_iinc (v := iI (y27_2 + 1)) (lv' := [(2, .int (iI (y27_2 + 1))), (1, .int (iI (1))), (0, .ref (ad 1))]) hE.1 hE.2.1 dX4_step_158 hl (k := 0) rfl ((iI_add (y27_2) (1)).trans (congrArg iI (by omega))) (by decide) rfl (fun ls hl => ?_)
                        refine lv_goto (tgt := 119) hE.1 hE.2.1 dX4_step_161 (by decide) ?_
                        exact ih27 _ (by omega) (y27_2 + 1) v35 arl27 all27 _ _ _ rfl (by omega) hI (fun i j h => ((up_oth hv35 (fun q => h (by rcases q with ⟨rfl, rfl⟩; decide))).trans (hfr27 i j h))) hP hS (lv_sub hl [0, 1, 2] rfl)
                exact loop27 _ (0) v13 arl5 all5 _ _ _ rfl (by omega) hI (fun _ _ _ => rfl) hP hS hl
          · skip
            refine lv_aload_n hE.1 hE.2.1 dX4_step_79 rfl (lv_at hl 1 rfl) ?_
            refine x_get (x := .int (v10 1 4)) hE hK hP 1 (Nat.lt_of_lt_of_le (by decide) hNN) (xG_4 rfl) rfl hin4 4 (by decide) mw_153 rfl dX4_step_80 ?_
            refine x_top (y := iI (z7)) ((up_oth hv10 (by decide)).trans ez7) ?_
            refine lv_goto (tgt := 92) hE.1 hE.2.1 dX4_step_83 (by decide) ?_
            refine x_put (x := iI (z7)) hE hK hN hP hS 1 (Nat.lt_of_lt_of_le (by decide) hNN) (xG_4 rfl) rfl hin4 tyX4 tyX4_ok nmX4 5 (by decide) mw_154 rfl rfl rfl (Nat.le_of_ble_eq_true rfl) (xG_4 rfl) dX4_step_92 (fun v36 H locs hv36 hP hS => ?_)
            have hI := XI_putN hI hv36 (by decide)
            refine lv_aload_n hE.1 hE.2.1 dX4_step_95 rfl (lv_at hl 1 rfl) ?_
            refine x_get (x := .int (v36 1 6)) hE hK hP 1 (Nat.lt_of_lt_of_le (by decide) hNN) (xG_4 rfl) rfl hin4 6 (by decide) mw_155 rfl dX4_step_96 ?_
            refine x_top (y := iI (z9)) ((up_oth hv36 (by decide)).trans (up_eq hv10)) ?_
            refine lv_iconst (v := iI (2)) hE.1 hE.2.1 dX4_step_99 (by decide) ?_
            refine s_icmp_eq (a := z9) (b := 2) (tgt := 111) hE.1 hE.2.1 (by omega) (by omega) dX4_step_100 (by decide) (fun c37 => False.elim (by omega)) (fun _ => ?_)
            refine lv_aload_n hE.1 hE.2.1 dX4_step_103 rfl (lv_at hl 1 rfl) ?_
            refine x_get (x := .int (v36 1 6)) hE hK hP 1 (Nat.lt_of_lt_of_le (by decide) hNN) (xG_4 rfl) rfl hin4 6 (by decide) mw_155 rfl dX4_step_104 ?_
            refine x_top (y := iI (z9)) ((up_oth hv36 (by decide)).trans (up_eq hv10)) ?_
            refine lv_iconst (v := iI (3)) hE.1 hE.2.1 dX4_step_107 (by decide) ?_
            refine s_icmp_ne (a := z9) (b := 3) (tgt := 115) hE.1 hE.2.1 (by omega) (by omega) dX4_step_108 (by decide) (fun _ => ?_) (fun c38 => False.elim (by omega))
            refine lv_iconst (v := iI (0)) hE.1 hE.2.1 dX4_step_115 (by decide) ?_
            refine lv_istore_n (lv' := [(1, .int (iI (0))), (0, .ref (ad 1))]) hE.1 hE.2.1 dX4_step_116 rfl hl (by decide) rfl (fun ls hl => ?_)
            refine lv_iconst (v := iI (0)) hE.1 hE.2.1 dX4_step_117 (by decide) ?_
            refine lv_istore_n (lv' := [(2, .int (iI (0))), (1, .int (iI (0))), (0, .ref (ad 1))]) hE.1 hE.2.1 dX4_step_118 rfl hl (by decide) rfl (fun ls hl => ?_)
            have loop39 : ∀ (k39 : Nat) (y39_2 : Int) (vl39 arl39 : sI) (all39 : sL) (H : Heap) (locs : List Loc) (ls : Array Slot), (1600 - y39_2).toNat = k39 → (0 ≤ y39_2 ∧ y39_2 ≤ 1600) → XI vl39 → (∀ i j : Nat, (i, j) ∉ ([(1, 5)] : List (Nat × Nat)) → vl39 i j = v36 i j) → va_P D xcl (wW ad (xG ad K mm) N vl39 arl39 all39) H → va_S (inW ad N) s.heap H locs → lv_has ls 3 [(2, .int (iI (y39_2))), (1, .int (iI (0))), (0, .ref (ad 1))] → W p l e (rmD 1) s m args below meth c H locs 0 0 Q (F0 m 119 ls []) := by
              intro k39
              induction k39 using Nat.strongRecOn with
              | _ k39 ih39 =>
                intro y39_2 vl39 arl39 all39 H locs ls hk39 hb_y39_2 hI hfr39 hP hS hl
                refine lv_iload_n hE.1 hE.2.1 dX4_step_119 rfl (lv_at hl 1 rfl) ?_
                refine s_if_eq (a := 0) (tgt := 164) hE.1 hE.2.1 (by omega) dX4_step_120 (by decide) (fun _ => ?_) (fun c40 => False.elim (by omega))
                exact kr _ _ _ _ _ _ _ ⟨hI, fun i j h => ((hfr39 i j (fun q => h (mem_sub (by decide) q))).trans ((up_oth hv36 (fun q => h (by rcases q with ⟨rfl, rfl⟩; decide))).trans ((up_oth hv10 (fun q => h (by rcases q with ⟨rfl, rfl⟩; decide))).trans ((hfr5 i j (fun q => h (mem_sub (by decide) q))).trans (up_oth hv4 (fun q => h (by rcases q with ⟨rfl, rfl⟩; decide)))))))⟩ hP hS dX4_step_164
            exact loop39 _ (0) v36 arl5 all5 _ _ _ rfl (by omega) hI (fun _ _ _ => rfl) hP hS hl
        · skip
          refine lv_aload_n hE.1 hE.2.1 dX4_step_25 rfl (lv_at hl 1 rfl) ?_
          refine lv_aload_n hE.1 hE.2.1 dX4_step_26 rfl (lv_at hl 1 rfl) ?_
          obtain ⟨z41, hz41, ez41⟩ := iI_of (vl5 1 4)
          refine x_get (x := .int (vl5 1 4)) hE hK hP 1 (Nat.lt_of_lt_of_le (by decide) hNN) (xG_4 rfl) rfl hin4 4 (by decide) mw_153 rfl dX4_step_27 ?_
          refine x_top (y := iI (z41)) ez41 ?_
          refine x_vp (nn := 1) (As := [.int (iI (z41))]) (rest := []) hE (s_X4_byteAt_1 l D K ad mm N hNN vl5 arl5 all5 hI  (z41) (by omega)) wPre_blind (wPre_now hK hN hP) (x_recv hK hP 1 (Nat.lt_of_lt_of_le (by decide) hNN) (xG_4 rfl) rfl) rfl mw_542 mw_544 mw_1 mw_115 mw_545 (by decide +kernel) ⟨by decide, by decide⟩ hl.1 rfl (Nat.le_of_ble_eq_true rfl) ⟨Nat.zero_le _, Nat.zero_le _⟩ dX4_step_30 (fun r42 hr42 => ?_)
          obtain ⟨z42, hz42, rfl⟩ := hr42
          refine x_sp (nn := 1) (As := [.int (iI (z42))]) (rest := []) hE (s_X4_kindOf l (z42) (by omega)) tt_blind (fun _ _ _ => trivial) rfl mw_546 mw_547 mw_115 mw_548 (by decide +kernel) ⟨by decide, by decide⟩ hl.1 rfl (Nat.le_of_ble_eq_true rfl) ⟨Nat.zero_le _, Nat.zero_le _⟩ dX4_step_33 (fun r43 hr43 => ?_)
          obtain ⟨z43, hz43, rfl⟩ := hr43
          refine lv_iconst (v := iI (1)) hE.1 hE.2.1 dX4_step_36 (by decide) ?_
          refine s_icmp_ne (a := z43) (b := 1) (tgt := 56) hE.1 hE.2.1 (by omega) (by omega) dX4_step_37 (by decide) (fun c44 => ?_) (fun c44 => ?_)
          · skip
            refine lv_aload_n hE.1 hE.2.1 dX4_step_56 rfl (lv_at hl 1 rfl) ?_
            refine lv_aload_n hE.1 hE.2.1 dX4_step_57 rfl (lv_at hl 1 rfl) ?_
            refine lv_aload_n hE.1 hE.2.1 dX4_step_58 rfl (lv_at hl 1 rfl) ?_
            refine x_get (x := .int (vl5 1 4)) hE hK hP 1 (Nat.lt_of_lt_of_le (by decide) hNN) (xG_4 rfl) rfl hin4 4 (by decide) mw_153 rfl dX4_step_59 ?_
            refine x_top (y := iI (z41)) ez41 ?_
            refine x_vp (nn := 1) (As := [.int (iI (z41))]) (rest := [.ref (ad 1)]) hE (s_X4_byteAt_1 l D K ad mm N hNN vl5 arl5 all5 hI  (z41) (by omega)) wPre_blind (wPre_now hK hN hP) (x_recv hK hP 1 (Nat.lt_of_lt_of_le (by decide) hNN) (xG_4 rfl) rfl) rfl mw_542 mw_544 mw_1 mw_115 mw_545 (by decide +kernel) ⟨by decide, by decide⟩ hl.1 rfl (Nat.le_of_ble_eq_true rfl) ⟨Nat.zero_le _, Nat.zero_le _⟩ dX4_step_62 (fun r45 hr45 => ?_)
            obtain ⟨z45, hz45, rfl⟩ := hr45
            refine x_sp (nn := 1) (As := [.int (iI (z45))]) (rest := [.ref (ad 1)]) hE (s_X4_kindOf l (z45) (by omega)) tt_blind (fun _ _ _ => trivial) rfl mw_546 mw_547 mw_115 mw_548 (by decide +kernel) ⟨by decide, by decide⟩ hl.1 rfl (Nat.le_of_ble_eq_true rfl) ⟨Nat.zero_le _, Nat.zero_le _⟩ dX4_step_65 (fun r46 hr46 => ?_)
            obtain ⟨z46, hz46, rfl⟩ := hr46
            refine x_put (x := iI (z46)) hE hK hN hP hS 1 (Nat.lt_of_lt_of_le (by decide) hNN) (xG_4 rfl) rfl hin4 tyX4 tyX4_ok nmX4 6 (by decide) mw_155 rfl rfl rfl (Nat.le_of_ble_eq_true rfl) (xG_4 rfl) dX4_step_68 (fun v47 H locs hv47 hP hS => ?_)
            have hI := XI_putN hI hv47 (by decide)
            refine lv_aload_n hE.1 hE.2.1 dX4_step_71 rfl (lv_at hl 1 rfl) ?_
            refine lv_aload_n hE.1 hE.2.1 dX4_step_72 rfl (lv_at hl 1 rfl) ?_
            refine x_get (x := .int (v47 1 6)) hE hK hP 1 (Nat.lt_of_lt_of_le (by decide) hNN) (xG_4 rfl) rfl hin4 6 (by decide) mw_155 rfl dX4_step_73 ?_
            refine x_top (y := iI (z46)) (up_eq hv47) ?_
            refine s_if_ne (a := z46) (tgt := 86) hE.1 hE.2.1 (by omega) dX4_step_76 (by decide) (fun c48 => ?_) (fun c48 => ?_)
            · skip
              refine lv_aload_n hE.1 hE.2.1 dX4_step_86 rfl (lv_at hl 1 rfl) ?_
              refine x_get (x := .int (v47 1 4)) hE hK hP 1 (Nat.lt_of_lt_of_le (by decide) hNN) (xG_4 rfl) rfl hin4 4 (by decide) mw_153 rfl dX4_step_87 ?_
              refine x_top (y := iI (z41)) ((up_oth hv47 (by decide)).trans ez41) ?_
              refine lv_iconst (v := iI (1)) hE.1 hE.2.1 dX4_step_90 (by decide) ?_
              refine lv_iadd hE.1 hE.2.1 dX4_step_91 ?_
              obtain ⟨z49, hz49, ez49⟩ := iI_of (iI (z41) + iI (1))
              refine x_top ez49 ?_
              refine x_put (x := iI (z49)) hE hK hN hP hS 1 (Nat.lt_of_lt_of_le (by decide) hNN) (xG_4 rfl) rfl hin4 tyX4 tyX4_ok nmX4 5 (by decide) mw_154 rfl rfl rfl (Nat.le_of_ble_eq_true rfl) (xG_4 rfl) dX4_step_92 (fun v50 H locs hv50 hP hS => ?_)
              have hI := XI_putN hI hv50 (by decide)
              refine lv_aload_n hE.1 hE.2.1 dX4_step_95 rfl (lv_at hl 1 rfl) ?_
              refine x_get (x := .int (v50 1 6)) hE hK hP 1 (Nat.lt_of_lt_of_le (by decide) hNN) (xG_4 rfl) rfl hin4 6 (by decide) mw_155 rfl dX4_step_96 ?_
              refine x_top (y := iI (z46)) ((up_oth hv50 (by decide)).trans (up_eq hv47)) ?_
              refine lv_iconst (v := iI (2)) hE.1 hE.2.1 dX4_step_99 (by decide) ?_
              refine s_icmp_eq (a := z46) (b := 2) (tgt := 111) hE.1 hE.2.1 (by omega) (by omega) dX4_step_100 (by decide) (fun c51 => ?_) (fun c51 => ?_)
              · skip
                refine lv_iconst (v := iI (1)) hE.1 hE.2.1 dX4_step_111 (by decide) ?_
                refine lv_goto (tgt := 116) hE.1 hE.2.1 dX4_step_112 (by decide) ?_
                refine lv_istore_n (lv' := [(1, .int (iI (1))), (0, .ref (ad 1))]) hE.1 hE.2.1 dX4_step_116 rfl hl (by decide) rfl (fun ls hl => ?_)
                refine lv_iconst (v := iI (0)) hE.1 hE.2.1 dX4_step_117 (by decide) ?_
                refine lv_istore_n (lv' := [(2, .int (iI (0))), (1, .int (iI (1))), (0, .ref (ad 1))]) hE.1 hE.2.1 dX4_step_118 rfl hl (by decide) rfl (fun ls hl => ?_)
                have loop52 : ∀ (k52 : Nat) (y52_2 : Int) (vl52 arl52 : sI) (all52 : sL) (H : Heap) (locs : List Loc) (ls : Array Slot), (1600 - y52_2).toNat = k52 → (0 ≤ y52_2 ∧ y52_2 ≤ 1600) → XI vl52 → (∀ i j : Nat, (i, j) ∉ ([(1, 5)] : List (Nat × Nat)) → vl52 i j = v50 i j) → va_P D xcl (wW ad (xG ad K mm) N vl52 arl52 all52) H → va_S (inW ad N) s.heap H locs → lv_has ls 3 [(2, .int (iI (y52_2))), (1, .int (iI (1))), (0, .ref (ad 1))] → W p l e (rmD 1) s m args below meth c H locs 0 0 Q (F0 m 119 ls []) := by
                  intro k52
                  induction k52 using Nat.strongRecOn with
                  | _ k52 ih52 =>
                    intro y52_2 vl52 arl52 all52 H locs ls hk52 hb_y52_2 hI hfr52 hP hS hl
                    refine lv_iload_n hE.1 hE.2.1 dX4_step_119 rfl (lv_at hl 1 rfl) ?_
                    refine s_if_eq (a := 1) (tgt := 164) hE.1 hE.2.1 (by omega) dX4_step_120 (by decide) (fun c53 => False.elim (by omega)) (fun _ => ?_)
                    refine lv_iload_n hE.1 hE.2.1 dX4_step_123 rfl (lv_at hl 0 rfl) ?_
                    refine lv_sipush (v := iI (1600)) hE.1 hE.2.1 dX4_step_124 (by decide) ?_
                    refine s_icmp_ge (a := y52_2) (b := 1600) (tgt := 164) hE.1 hE.2.1 (by omega) (by omega) dX4_step_127 (by decide) (fun c54 => ?_) (fun c54 => ?_)
                    · skip
                      exact kr _ _ _ _ _ _ _ ⟨hI, fun i j h => ((hfr52 i j (fun q => h (mem_sub (by decide) q))).trans ((up_oth hv50 (fun q => h (by rcases q with ⟨rfl, rfl⟩; decide))).trans ((up_oth hv47 (fun q => h (by rcases q with ⟨rfl, rfl⟩; decide))).trans ((hfr5 i j (fun q => h (mem_sub (by decide) q))).trans (up_oth hv4 (fun q => h (by rcases q with ⟨rfl, rfl⟩; decide)))))))⟩ hP hS dX4_step_164
                    · skip
                      refine lv_aload_n hE.1 hE.2.1 dX4_step_130 rfl (lv_at hl 2 rfl) ?_
                      refine lv_aload_n hE.1 hE.2.1 dX4_step_131 rfl (lv_at hl 2 rfl) ?_
                      obtain ⟨z55, hz55, ez55⟩ := iI_of (vl52 1 5)
                      refine x_get (x := .int (vl52 1 5)) hE hK hP 1 (Nat.lt_of_lt_of_le (by decide) hNN) (xG_4 rfl) rfl hin4 5 (by decide) mw_154 rfl dX4_step_132 ?_
                      refine x_top (y := iI (z55)) ez55 ?_
                      refine x_vp (nn := 1) (As := [.int (iI (z55))]) (rest := []) hE (s_X4_byteAt_1 l D K ad mm N hNN vl52 arl52 all52 hI  (z55) (by omega)) wPre_blind (wPre_now hK hN hP) (x_recv hK hP 1 (Nat.lt_of_lt_of_le (by decide) hNN) (xG_4 rfl) rfl) rfl mw_542 mw_544 mw_1 mw_115 mw_545 (by decide +kernel) ⟨by decide, by decide⟩ hl.1 rfl (Nat.le_of_ble_eq_true rfl) ⟨Nat.zero_le _, Nat.zero_le _⟩ dX4_step_135 (fun r56 hr56 => ?_)
                      obtain ⟨z56, hz56, rfl⟩ := hr56
                      refine x_sp (nn := 1) (As := [.int (iI (z56))]) (rest := []) hE (s_X4_kindOf l (z56) (by omega)) tt_blind (fun _ _ _ => trivial) rfl mw_546 mw_547 mw_115 mw_548 (by decide +kernel) ⟨by decide, by decide⟩ hl.1 rfl (Nat.le_of_ble_eq_true rfl) ⟨Nat.zero_le _, Nat.zero_le _⟩ dX4_step_138 (fun r57 hr57 => ?_)
                      obtain ⟨z57, hz57, rfl⟩ := hr57
                      refine lv_aload_n hE.1 hE.2.1 dX4_step_141 rfl (lv_at hl 2 rfl) ?_
                      refine x_get (x := .int (vl52 1 6)) hE hK hP 1 (Nat.lt_of_lt_of_le (by decide) hNN) (xG_4 rfl) rfl hin4 6 (by decide) mw_155 rfl dX4_step_142 ?_
                      refine x_top (y := iI (z46)) ((hfr52 1 6 (by decide)).trans ((up_oth hv50 (by decide)).trans (up_eq hv47))) ?_
                      refine s_icmp_ne (a := z57) (b := z46) (tgt := 164) hE.1 hE.2.1 (by omega) (by omega) dX4_step_145 (by decide) (fun c58 => ?_) (fun c58 => ?_)
                      · skip
                        exact kr _ _ _ _ _ _ _ ⟨hI, fun i j h => ((hfr52 i j (fun q => h (mem_sub (by decide) q))).trans ((up_oth hv50 (fun q => h (by rcases q with ⟨rfl, rfl⟩; decide))).trans ((up_oth hv47 (fun q => h (by rcases q with ⟨rfl, rfl⟩; decide))).trans ((hfr5 i j (fun q => h (mem_sub (by decide) q))).trans (up_oth hv4 (fun q => h (by rcases q with ⟨rfl, rfl⟩; decide)))))))⟩ hP hS dX4_step_164
                      · skip
                        refine lv_aload_n hE.1 hE.2.1 dX4_step_148 rfl (lv_at hl 2 rfl) ?_
                        refine lv_dup hE.1 hE.2.1 dX4_step_149 rfl ?_
                        refine x_get (x := .int (vl52 1 5)) hE hK hP 1 (Nat.lt_of_lt_of_le (by decide) hNN) (xG_4 rfl) rfl hin4 5 (by decide) mw_154 rfl dX4_step_150 ?_
                        refine x_top (y := iI (z55)) ez55 ?_
                        refine lv_iconst (v := iI (1)) hE.1 hE.2.1 dX4_step_153 (by decide) ?_
                        refine lv_iadd hE.1 hE.2.1 dX4_step_154 ?_
                        obtain ⟨z59, hz59, ez59⟩ := iI_of (iI (z55) + iI (1))
                        refine x_top ez59 ?_
                        refine x_put (x := iI (z59)) hE hK hN hP hS 1 (Nat.lt_of_lt_of_le (by decide) hNN) (xG_4 rfl) rfl hin4 tyX4 tyX4_ok nmX4 5 (by decide) mw_154 rfl rfl rfl (Nat.le_of_ble_eq_true rfl) (xG_4 rfl) dX4_step_155 (fun v60 H locs hv60 hP hS => ?_)
                        have hI := XI_putN hI hv60 (by decide)
                        refine lv_iinc (v := iI (y52_2 + 1)) (lv' := [(2, .int (iI (y52_2 + 1))), (1, .int (iI (1))), (0, .ref (ad 1))]) hE.1 hE.2.1 dX4_step_158 hl (k := 0) rfl ((iI_add (y52_2) (1)).trans (congrArg iI (by omega))) (by decide) rfl (fun ls hl => ?_)
                        refine lv_goto (tgt := 119) hE.1 hE.2.1 dX4_step_161 (by decide) ?_
                        exact ih52 _ (by omega) (y52_2 + 1) v60 arl52 all52 _ _ _ rfl (by omega) hI (fun i j h => ((up_oth hv60 (fun q => h (by rcases q with ⟨rfl, rfl⟩; decide))).trans (hfr52 i j h))) hP hS (lv_sub hl [0, 1, 2] rfl)
                exact loop52 _ (0) v50 arl5 all5 _ _ _ rfl (by omega) hI (fun _ _ _ => rfl) hP hS hl
              · skip
                refine lv_aload_n hE.1 hE.2.1 dX4_step_103 rfl (lv_at hl 1 rfl) ?_
                refine x_get (x := .int (v50 1 6)) hE hK hP 1 (Nat.lt_of_lt_of_le (by decide) hNN) (xG_4 rfl) rfl hin4 6 (by decide) mw_155 rfl dX4_step_104 ?_
                refine x_top (y := iI (z46)) ((up_oth hv50 (by decide)).trans (up_eq hv47)) ?_
                refine lv_iconst (v := iI (3)) hE.1 hE.2.1 dX4_step_107 (by decide) ?_
                refine s_icmp_ne (a := z46) (b := 3) (tgt := 115) hE.1 hE.2.1 (by omega) (by omega) dX4_step_108 (by decide) (fun c61 => ?_) (fun c61 => ?_)
                · skip
                  refine lv_iconst (v := iI (0)) hE.1 hE.2.1 dX4_step_115 (by decide) ?_
                  refine lv_istore_n (lv' := [(1, .int (iI (0))), (0, .ref (ad 1))]) hE.1 hE.2.1 dX4_step_116 rfl hl (by decide) rfl (fun ls hl => ?_)
                  refine lv_iconst (v := iI (0)) hE.1 hE.2.1 dX4_step_117 (by decide) ?_
                  refine lv_istore_n (lv' := [(2, .int (iI (0))), (1, .int (iI (0))), (0, .ref (ad 1))]) hE.1 hE.2.1 dX4_step_118 rfl hl (by decide) rfl (fun ls hl => ?_)
                  have loop62 : ∀ (k62 : Nat) (y62_2 : Int) (vl62 arl62 : sI) (all62 : sL) (H : Heap) (locs : List Loc) (ls : Array Slot), (1600 - y62_2).toNat = k62 → (0 ≤ y62_2 ∧ y62_2 ≤ 1600) → XI vl62 → (∀ i j : Nat, (i, j) ∉ ([(1, 5)] : List (Nat × Nat)) → vl62 i j = v50 i j) → va_P D xcl (wW ad (xG ad K mm) N vl62 arl62 all62) H → va_S (inW ad N) s.heap H locs → lv_has ls 3 [(2, .int (iI (y62_2))), (1, .int (iI (0))), (0, .ref (ad 1))] → W p l e (rmD 1) s m args below meth c H locs 0 0 Q (F0 m 119 ls []) := by
                    intro k62
                    induction k62 using Nat.strongRecOn with
                    | _ k62 ih62 =>
                      intro y62_2 vl62 arl62 all62 H locs ls hk62 hb_y62_2 hI hfr62 hP hS hl
                      refine lv_iload_n hE.1 hE.2.1 dX4_step_119 rfl (lv_at hl 1 rfl) ?_
                      refine s_if_eq (a := 0) (tgt := 164) hE.1 hE.2.1 (by omega) dX4_step_120 (by decide) (fun _ => ?_) (fun c63 => False.elim (by omega))
                      exact kr _ _ _ _ _ _ _ ⟨hI, fun i j h => ((hfr62 i j (fun q => h (mem_sub (by decide) q))).trans ((up_oth hv50 (fun q => h (by rcases q with ⟨rfl, rfl⟩; decide))).trans ((up_oth hv47 (fun q => h (by rcases q with ⟨rfl, rfl⟩; decide))).trans ((hfr5 i j (fun q => h (mem_sub (by decide) q))).trans (up_oth hv4 (fun q => h (by rcases q with ⟨rfl, rfl⟩; decide)))))))⟩ hP hS dX4_step_164
                  exact loop62 _ (0) v50 arl5 all5 _ _ _ rfl (by omega) hI (fun _ _ _ => rfl) hP hS hl
                · skip
                  refine lv_iconst (v := iI (1)) hE.1 hE.2.1 dX4_step_111 (by decide) ?_
                  refine lv_goto (tgt := 116) hE.1 hE.2.1 dX4_step_112 (by decide) ?_
                  refine lv_istore_n (lv' := [(1, .int (iI (1))), (0, .ref (ad 1))]) hE.1 hE.2.1 dX4_step_116 rfl hl (by decide) rfl (fun ls hl => ?_)
                  refine lv_iconst (v := iI (0)) hE.1 hE.2.1 dX4_step_117 (by decide) ?_
                  refine lv_istore_n (lv' := [(2, .int (iI (0))), (1, .int (iI (1))), (0, .ref (ad 1))]) hE.1 hE.2.1 dX4_step_118 rfl hl (by decide) rfl (fun ls hl => ?_)
                  have loop64 : ∀ (k64 : Nat) (y64_2 : Int) (vl64 arl64 : sI) (all64 : sL) (H : Heap) (locs : List Loc) (ls : Array Slot), (1600 - y64_2).toNat = k64 → (0 ≤ y64_2 ∧ y64_2 ≤ 1600) → XI vl64 → (∀ i j : Nat, (i, j) ∉ ([(1, 5)] : List (Nat × Nat)) → vl64 i j = v50 i j) → va_P D xcl (wW ad (xG ad K mm) N vl64 arl64 all64) H → va_S (inW ad N) s.heap H locs → lv_has ls 3 [(2, .int (iI (y64_2))), (1, .int (iI (1))), (0, .ref (ad 1))] → W p l e (rmD 1) s m args below meth c H locs 0 0 Q (F0 m 119 ls []) := by
                    intro k64
                    induction k64 using Nat.strongRecOn with
                    | _ k64 ih64 =>
                      intro y64_2 vl64 arl64 all64 H locs ls hk64 hb_y64_2 hI hfr64 hP hS hl
                      refine lv_iload_n hE.1 hE.2.1 dX4_step_119 rfl (lv_at hl 1 rfl) ?_
                      refine s_if_eq (a := 1) (tgt := 164) hE.1 hE.2.1 (by omega) dX4_step_120 (by decide) (fun c65 => False.elim (by omega)) (fun _ => ?_)
                      refine lv_iload_n hE.1 hE.2.1 dX4_step_123 rfl (lv_at hl 0 rfl) ?_
                      refine lv_sipush (v := iI (1600)) hE.1 hE.2.1 dX4_step_124 (by decide) ?_
                      refine s_icmp_ge (a := y64_2) (b := 1600) (tgt := 164) hE.1 hE.2.1 (by omega) (by omega) dX4_step_127 (by decide) (fun c66 => ?_) (fun c66 => ?_)
                      · skip
                        exact kr _ _ _ _ _ _ _ ⟨hI, fun i j h => ((hfr64 i j (fun q => h (mem_sub (by decide) q))).trans ((up_oth hv50 (fun q => h (by rcases q with ⟨rfl, rfl⟩; decide))).trans ((up_oth hv47 (fun q => h (by rcases q with ⟨rfl, rfl⟩; decide))).trans ((hfr5 i j (fun q => h (mem_sub (by decide) q))).trans (up_oth hv4 (fun q => h (by rcases q with ⟨rfl, rfl⟩; decide)))))))⟩ hP hS dX4_step_164
                      · skip
                        refine lv_aload_n hE.1 hE.2.1 dX4_step_130 rfl (lv_at hl 2 rfl) ?_
                        refine lv_aload_n hE.1 hE.2.1 dX4_step_131 rfl (lv_at hl 2 rfl) ?_
                        obtain ⟨z67, hz67, ez67⟩ := iI_of (vl64 1 5)
                        refine x_get (x := .int (vl64 1 5)) hE hK hP 1 (Nat.lt_of_lt_of_le (by decide) hNN) (xG_4 rfl) rfl hin4 5 (by decide) mw_154 rfl dX4_step_132 ?_
                        refine x_top (y := iI (z67)) ez67 ?_
                        refine x_vp (nn := 1) (As := [.int (iI (z67))]) (rest := []) hE (s_X4_byteAt_1 l D K ad mm N hNN vl64 arl64 all64 hI  (z67) (by omega)) wPre_blind (wPre_now hK hN hP) (x_recv hK hP 1 (Nat.lt_of_lt_of_le (by decide) hNN) (xG_4 rfl) rfl) rfl mw_542 mw_544 mw_1 mw_115 mw_545 (by decide +kernel) ⟨by decide, by decide⟩ hl.1 rfl (Nat.le_of_ble_eq_true rfl) ⟨Nat.zero_le _, Nat.zero_le _⟩ dX4_step_135 (fun r68 hr68 => ?_)
                        obtain ⟨z68, hz68, rfl⟩ := hr68
                        refine x_sp (nn := 1) (As := [.int (iI (z68))]) (rest := []) hE (s_X4_kindOf l (z68) (by omega)) tt_blind (fun _ _ _ => trivial) rfl mw_546 mw_547 mw_115 mw_548 (by decide +kernel) ⟨by decide, by decide⟩ hl.1 rfl (Nat.le_of_ble_eq_true rfl) ⟨Nat.zero_le _, Nat.zero_le _⟩ dX4_step_138 (fun r69 hr69 => ?_)
                        obtain ⟨z69, hz69, rfl⟩ := hr69
                        refine lv_aload_n hE.1 hE.2.1 dX4_step_141 rfl (lv_at hl 2 rfl) ?_
                        refine x_get (x := .int (vl64 1 6)) hE hK hP 1 (Nat.lt_of_lt_of_le (by decide) hNN) (xG_4 rfl) rfl hin4 6 (by decide) mw_155 rfl dX4_step_142 ?_
                        refine x_top (y := iI (z46)) ((hfr64 1 6 (by decide)).trans ((up_oth hv50 (by decide)).trans (up_eq hv47))) ?_
                        refine s_icmp_ne (a := z69) (b := z46) (tgt := 164) hE.1 hE.2.1 (by omega) (by omega) dX4_step_145 (by decide) (fun c70 => ?_) (fun c70 => ?_)
                        · skip
                          exact kr _ _ _ _ _ _ _ ⟨hI, fun i j h => ((hfr64 i j (fun q => h (mem_sub (by decide) q))).trans ((up_oth hv50 (fun q => h (by rcases q with ⟨rfl, rfl⟩; decide))).trans ((up_oth hv47 (fun q => h (by rcases q with ⟨rfl, rfl⟩; decide))).trans ((hfr5 i j (fun q => h (mem_sub (by decide) q))).trans (up_oth hv4 (fun q => h (by rcases q with ⟨rfl, rfl⟩; decide)))))))⟩ hP hS dX4_step_164
                        · skip
                          refine lv_aload_n hE.1 hE.2.1 dX4_step_148 rfl (lv_at hl 2 rfl) ?_
                          refine lv_dup hE.1 hE.2.1 dX4_step_149 rfl ?_
                          refine x_get (x := .int (vl64 1 5)) hE hK hP 1 (Nat.lt_of_lt_of_le (by decide) hNN) (xG_4 rfl) rfl hin4 5 (by decide) mw_154 rfl dX4_step_150 ?_
                          refine x_top (y := iI (z67)) ez67 ?_
                          refine lv_iconst (v := iI (1)) hE.1 hE.2.1 dX4_step_153 (by decide) ?_
                          refine lv_iadd hE.1 hE.2.1 dX4_step_154 ?_
                          obtain ⟨z71, hz71, ez71⟩ := iI_of (iI (z67) + iI (1))
                          refine x_top ez71 ?_
                          refine x_put (x := iI (z71)) hE hK hN hP hS 1 (Nat.lt_of_lt_of_le (by decide) hNN) (xG_4 rfl) rfl hin4 tyX4 tyX4_ok nmX4 5 (by decide) mw_154 rfl rfl rfl (Nat.le_of_ble_eq_true rfl) (xG_4 rfl) dX4_step_155 (fun v72 H locs hv72 hP hS => ?_)
                          have hI := XI_putN hI hv72 (by decide)
                          refine lv_iinc (v := iI (y64_2 + 1)) (lv' := [(2, .int (iI (y64_2 + 1))), (1, .int (iI (1))), (0, .ref (ad 1))]) hE.1 hE.2.1 dX4_step_158 hl (k := 0) rfl ((iI_add (y64_2) (1)).trans (congrArg iI (by omega))) (by decide) rfl (fun ls hl => ?_)
                          refine lv_goto (tgt := 119) hE.1 hE.2.1 dX4_step_161 (by decide) ?_
                          exact ih64 _ (by omega) (y64_2 + 1) v72 arl64 all64 _ _ _ rfl (by omega) hI (fun i j h => ((up_oth hv72 (fun q => h (by rcases q with ⟨rfl, rfl⟩; decide))).trans (hfr64 i j h))) hP hS (lv_sub hl [0, 1, 2] rfl)
                  exact loop64 _ (0) v50 arl5 all5 _ _ _ rfl (by omega) hI (fun _ _ _ => rfl) hP hS hl
            · skip
              refine lv_aload_n hE.1 hE.2.1 dX4_step_79 rfl (lv_at hl 1 rfl) ?_
              refine x_get (x := .int (v47 1 4)) hE hK hP 1 (Nat.lt_of_lt_of_le (by decide) hNN) (xG_4 rfl) rfl hin4 4 (by decide) mw_153 rfl dX4_step_80 ?_
              refine x_top (y := iI (z41)) ((up_oth hv47 (by decide)).trans ez41) ?_
              refine lv_goto (tgt := 92) hE.1 hE.2.1 dX4_step_83 (by decide) ?_
              refine x_put (x := iI (z41)) hE hK hN hP hS 1 (Nat.lt_of_lt_of_le (by decide) hNN) (xG_4 rfl) rfl hin4 tyX4 tyX4_ok nmX4 5 (by decide) mw_154 rfl rfl rfl (Nat.le_of_ble_eq_true rfl) (xG_4 rfl) dX4_step_92 (fun v73 H locs hv73 hP hS => ?_)
              have hI := XI_putN hI hv73 (by decide)
              refine lv_aload_n hE.1 hE.2.1 dX4_step_95 rfl (lv_at hl 1 rfl) ?_
              refine x_get (x := .int (v73 1 6)) hE hK hP 1 (Nat.lt_of_lt_of_le (by decide) hNN) (xG_4 rfl) rfl hin4 6 (by decide) mw_155 rfl dX4_step_96 ?_
              refine x_top (y := iI (z46)) ((up_oth hv73 (by decide)).trans (up_eq hv47)) ?_
              refine lv_iconst (v := iI (2)) hE.1 hE.2.1 dX4_step_99 (by decide) ?_
              refine s_icmp_eq (a := z46) (b := 2) (tgt := 111) hE.1 hE.2.1 (by omega) (by omega) dX4_step_100 (by decide) (fun c74 => False.elim (by omega)) (fun _ => ?_)
              refine lv_aload_n hE.1 hE.2.1 dX4_step_103 rfl (lv_at hl 1 rfl) ?_
              refine x_get (x := .int (v73 1 6)) hE hK hP 1 (Nat.lt_of_lt_of_le (by decide) hNN) (xG_4 rfl) rfl hin4 6 (by decide) mw_155 rfl dX4_step_104 ?_
              refine x_top (y := iI (z46)) ((up_oth hv73 (by decide)).trans (up_eq hv47)) ?_
              refine lv_iconst (v := iI (3)) hE.1 hE.2.1 dX4_step_107 (by decide) ?_
              refine s_icmp_ne (a := z46) (b := 3) (tgt := 115) hE.1 hE.2.1 (by omega) (by omega) dX4_step_108 (by decide) (fun _ => ?_) (fun c75 => False.elim (by omega))
              refine lv_iconst (v := iI (0)) hE.1 hE.2.1 dX4_step_115 (by decide) ?_
              refine lv_istore_n (lv' := [(1, .int (iI (0))), (0, .ref (ad 1))]) hE.1 hE.2.1 dX4_step_116 rfl hl (by decide) rfl (fun ls hl => ?_)
              refine lv_iconst (v := iI (0)) hE.1 hE.2.1 dX4_step_117 (by decide) ?_
              refine lv_istore_n (lv' := [(2, .int (iI (0))), (1, .int (iI (0))), (0, .ref (ad 1))]) hE.1 hE.2.1 dX4_step_118 rfl hl (by decide) rfl (fun ls hl => ?_)
              have loop76 : ∀ (k76 : Nat) (y76_2 : Int) (vl76 arl76 : sI) (all76 : sL) (H : Heap) (locs : List Loc) (ls : Array Slot), (1600 - y76_2).toNat = k76 → (0 ≤ y76_2 ∧ y76_2 ≤ 1600) → XI vl76 → (∀ i j : Nat, (i, j) ∉ ([(1, 5)] : List (Nat × Nat)) → vl76 i j = v73 i j) → va_P D xcl (wW ad (xG ad K mm) N vl76 arl76 all76) H → va_S (inW ad N) s.heap H locs → lv_has ls 3 [(2, .int (iI (y76_2))), (1, .int (iI (0))), (0, .ref (ad 1))] → W p l e (rmD 1) s m args below meth c H locs 0 0 Q (F0 m 119 ls []) := by
                intro k76
                induction k76 using Nat.strongRecOn with
                | _ k76 ih76 =>
                  intro y76_2 vl76 arl76 all76 H locs ls hk76 hb_y76_2 hI hfr76 hP hS hl
                  refine lv_iload_n hE.1 hE.2.1 dX4_step_119 rfl (lv_at hl 1 rfl) ?_
                  refine s_if_eq (a := 0) (tgt := 164) hE.1 hE.2.1 (by omega) dX4_step_120 (by decide) (fun _ => ?_) (fun c77 => False.elim (by omega))
                  exact kr _ _ _ _ _ _ _ ⟨hI, fun i j h => ((hfr76 i j (fun q => h (mem_sub (by decide) q))).trans ((up_oth hv73 (fun q => h (by rcases q with ⟨rfl, rfl⟩; decide))).trans ((up_oth hv47 (fun q => h (by rcases q with ⟨rfl, rfl⟩; decide))).trans ((hfr5 i j (fun q => h (mem_sub (by decide) q))).trans (up_oth hv4 (fun q => h (by rcases q with ⟨rfl, rfl⟩; decide)))))))⟩ hP hS dX4_step_164
              exact loop76 _ (0) v73 arl5 all5 _ _ _ rfl (by omega) hI (fun _ _ _ => rfl) hP hS hl
          · skip
            refine lv_aload_n hE.1 hE.2.1 dX4_step_40 rfl (lv_at hl 1 rfl) ?_
            refine lv_dup hE.1 hE.2.1 dX4_step_41 rfl ?_
            refine x_get (x := .int (vl5 1 4)) hE hK hP 1 (Nat.lt_of_lt_of_le (by decide) hNN) (xG_4 rfl) rfl hin4 4 (by decide) mw_153 rfl dX4_step_42 ?_
            refine x_top (y := iI (z41)) ez41 ?_
            refine lv_iconst (v := iI (1)) hE.1 hE.2.1 dX4_step_45 (by decide) ?_
            refine lv_iadd hE.1 hE.2.1 dX4_step_46 ?_
            obtain ⟨z78, hz78, ez78⟩ := iI_of (iI (z41) + iI (1))
            refine x_top ez78 ?_
            refine x_put (x := iI (z78)) hE hK hN hP hS 1 (Nat.lt_of_lt_of_le (by decide) hNN) (xG_4 rfl) rfl hin4 tyX4 tyX4_ok nmX4 4 (by decide) mw_153 rfl rfl rfl (Nat.le_of_ble_eq_true rfl) (xG_4 rfl) dX4_step_47 (fun v79 H locs hv79 hP hS => ?_)
            have hI := XI_putN hI hv79 (by decide)
            refine lv_iinc (v := iI (y5_1 + 1)) (lv' := [(1, .int (iI (y5_1 + 1))), (0, .ref (ad 1))]) hE.1 hE.2.1 dX4_step_50 hl (k := 0) rfl ((iI_add (y5_1) (1)).trans (congrArg iI (by omega))) (by decide) rfl (fun ls hl => ?_)
            refine lv_goto (tgt := 18) hE.1 hE.2.1 dX4_step_53 (by decide) ?_
            exact ih5 _ (by omega) (y5_1 + 1) v79 arl5 all5 _ _ _ rfl (by omega) hI (fun i j h => ((up_oth hv79 (fun q => h (by rcases q with ⟨rfl, rfl⟩; decide))).trans (hfr5 i j h))) hP hS (lv_sub hl [0, 1] rfl)
    exact loop5 _ (0) v4 ar al _ _ _ rfl (by omega) hI (fun _ _ _ => rfl) hP hS hl
  · skip
    exact kr _ _ _ _ _ _ _ ⟨hI, fun i j h => rfl⟩ hP hS dX4_step_7

theorem dX4_isWord_0 : decode cX4_isWord 0 = .ok (.aload_n 0, 1) := by decide +kernel
theorem dX4_isWord_1 : decode cX4_isWord 1 = .ok (.getfield 36, 3) := by decide +kernel
theorem dX4_isWord_4 : decode cX4_isWord 4 = .ok (.iconst 2, 1) := by decide +kernel
theorem dX4_isWord_5 : decode cX4_isWord 5 = .ok (.if_icmp .ne 19, 3) := by decide +kernel
theorem dX4_isWord_8 : decode cX4_isWord 8 = .ok (.aload_n 0, 1) := by decide +kernel
theorem dX4_isWord_9 : decode cX4_isWord 9 = .ok (.getfield 30, 3) := by decide +kernel
theorem dX4_isWord_12 : decode cX4_isWord 12 = .ok (.aload_n 0, 1) := by decide +kernel
theorem dX4_isWord_13 : decode cX4_isWord 13 = .ok (.getfield 172, 3) := by decide +kernel
theorem dX4_isWord_16 : decode cX4_isWord 16 = .ok (.isub, 1) := by decide +kernel
theorem dX4_isWord_17 : decode cX4_isWord 17 = .ok (.aload_n 1, 1) := by decide +kernel
theorem dX4_isWord_18 : decode cX4_isWord 18 = .ok (.invokevirtual 179, 3) := by decide +kernel
theorem dX4_isWord_21 : decode cX4_isWord 21 = .ok (.if_icmp .eq 5, 3) := by decide +kernel
theorem dX4_isWord_24 : decode cX4_isWord 24 = .ok (.iconst 0, 1) := by decide +kernel
theorem dX4_isWord_25 : decode cX4_isWord 25 = .ok (.ireturn, 1) := by decide +kernel
theorem dX4_isWord_26 : decode cX4_isWord 26 = .ok (.iconst 0, 1) := by decide +kernel
theorem dX4_isWord_27 : decode cX4_isWord 27 = .ok (.istore_n 2, 1) := by decide +kernel
theorem dX4_isWord_28 : decode cX4_isWord 28 = .ok (.iload_n 2, 1) := by decide +kernel
theorem dX4_isWord_29 : decode cX4_isWord 29 = .ok (.aload_n 1, 1) := by decide +kernel
theorem dX4_isWord_30 : decode cX4_isWord 30 = .ok (.invokevirtual 179, 3) := by decide +kernel
theorem dX4_isWord_33 : decode cX4_isWord 33 = .ok (.if_icmp .ge 29, 3) := by decide +kernel
theorem dX4_isWord_36 : decode cX4_isWord 36 = .ok (.aload_n 0, 1) := by decide +kernel
theorem dX4_isWord_37 : decode cX4_isWord 37 = .ok (.aload_n 0, 1) := by decide +kernel
theorem dX4_isWord_38 : decode cX4_isWord 38 = .ok (.getfield 172, 3) := by decide +kernel
theorem dX4_isWord_41 : decode cX4_isWord 41 = .ok (.iload_n 2, 1) := by decide +kernel
theorem dX4_isWord_42 : decode cX4_isWord 42 = .ok (.iadd, 1) := by decide +kernel
theorem dX4_isWord_43 : decode cX4_isWord 43 = .ok (.invokevirtual 184, 3) := by decide +kernel
theorem dX4_isWord_46 : decode cX4_isWord 46 = .ok (.aload_n 1, 1) := by decide +kernel
theorem dX4_isWord_47 : decode cX4_isWord 47 = .ok (.iload_n 2, 1) := by decide +kernel
theorem dX4_isWord_48 : decode cX4_isWord 48 = .ok (.invokevirtual 188, 3) := by decide +kernel
theorem dX4_isWord_51 : decode cX4_isWord 51 = .ok (.if_icmp .eq 5, 3) := by decide +kernel
theorem dX4_isWord_54 : decode cX4_isWord 54 = .ok (.iconst 0, 1) := by decide +kernel
theorem dX4_isWord_55 : decode cX4_isWord 55 = .ok (.ireturn, 1) := by decide +kernel
theorem dX4_isWord_56 : decode cX4_isWord 56 = .ok (.iinc 2 1, 3) := by decide +kernel
theorem dX4_isWord_59 : decode cX4_isWord 59 = .ok (.goto (-31), 3) := by decide +kernel
theorem dX4_isWord_62 : decode cX4_isWord 62 = .ok (.iconst 1, 1) := by decide +kernel
theorem dX4_isWord_63 : decode cX4_isWord 63 = .ok (.ireturn, 1) := by decide +kernel
set_option maxHeartbeats 4000000 in
set_option maxRecDepth 100000 in
theorem s_X4_isWord_1_1003 (l : Launch) (D : va_G) (K : Nat → ClassId) (ad : Nat → Nat) (mm : Option Nat) (N : Nat) (hNN : 132 ≤ N) (v ar : sI) (al : sL) (hI : XI v) (tk tv : Nat → Nat) : Met l yX4_isWord (wM yX4_isWord cX4_isWord 3 (some .boolean)) (rmD 4) (va_Pc [.ref (ad 1), .ref (tk 3)] (twPre D K ad (xG ad K mm) N v ar al tk tv)) (va_Qi (fun (r : Int32) (u : sT) => (∃ z : Int, (0 ≤ z ∧ z ≤ 1) ∧ r = iI z) ∧ XI u.1 ∧ (∀ i j : Nat, (i, j) ∉ ([] : List (Nat × Nat)) → u.1 i j = v i j)) (wB D ad (xG ad K mm) N) (inW ad N)) 0 0 (inW ad N) := by
  refine s_metI (by decide) (Nat.le_of_ble_eq_true rfl) ?_
  intro p e s m below meth c ls args Q hE hB hl kr
  have hE : CallFix p m c cX4_isWord 3 s args tbG "TaleCourt$Reader" := hE
  obtain ⟨⟨hP, hK, hN⟩, hT, hTR⟩ := hB
  have hS : va_S (inW ad N) s.heap s.heap [] := va_S.rf
  have hl : lv_has ls 3 [(0, .ref (ad 1)), (1, .ref (tk 3))] := hl
  refine lv_aload_n hE.1 hE.2.1 dX4_isWord_0 rfl (lv_at hl 0 rfl) ?_
  obtain ⟨z1, hz1, ez1⟩ := iI_of (v 1 6)
  refine x_get (x := .int (v 1 6)) hE hK hP 1 (Nat.lt_of_lt_of_le (by decide) hNN) (xG_4 rfl) rfl hin4 6 (by decide) mw_155 rfl dX4_isWord_1 ?_
  refine x_top (y := iI (z1)) ez1 ?_
  refine lv_iconst (v := iI (2)) hE.1 hE.2.1 dX4_isWord_4 (by decide) ?_
  refine s_icmp_ne (a := z1) (b := 2) (tgt := 24) hE.1 hE.2.1 (by omega) (by omega) dX4_isWord_5 (by decide) (fun c2 => ?_) (fun c2 => ?_)
  · skip
    refine lv_iconst (v := iI (0)) hE.1 hE.2.1 dX4_isWord_24 (by decide) ?_
    exact kr _ v ar al _ _ _ _ (nar01 (by omega)) ⟨⟨0, by omega, rfl⟩, hI, fun i j h => rfl⟩ hP hS dX4_isWord_25
  · skip
    refine lv_aload_n hE.1 hE.2.1 dX4_isWord_8 rfl (lv_at hl 0 rfl) ?_
    obtain ⟨z3, hz3, ez3⟩ := iI_of (v 1 5)
    refine x_get (x := .int (v 1 5)) hE hK hP 1 (Nat.lt_of_lt_of_le (by decide) hNN) (xG_4 rfl) rfl hin4 5 (by decide) mw_154 rfl dX4_isWord_9 ?_
    refine x_top (y := iI (z3)) ez3 ?_
    refine lv_aload_n hE.1 hE.2.1 dX4_isWord_12 rfl (lv_at hl 0 rfl) ?_
    obtain ⟨z4, hz4, ez4⟩ := iI_of (v 1 4)
    refine x_get (x := .int (v 1 4)) hE hK hP 1 (Nat.lt_of_lt_of_le (by decide) hNN) (xG_4 rfl) rfl hin4 4 (by decide) mw_153 rfl dX4_isWord_13 ?_
    refine x_top (y := iI (z4)) ez4 ?_
    refine lv_isub hE.1 hE.2.1 dX4_isWord_16 ?_
    obtain ⟨z5, hz5, ez5⟩ := iI_of (iI (z3) - iI (z4))
    refine x_top ez5 ?_
    refine lv_aload_n hE.1 hE.2.1 dX4_isWord_17 rfl (lv_at hl 1 rfl) ?_
    refine x_vp (nn := 0) (As := []) (rest := [.int (iI (z5))]) hE (t_length l tk tv (inW ad N) 3 (by decide) 5 rfl) tP_blind (tP_now hT hS) (vk_recv hT.1 (by decide) hS) rfl mw_566 mw_567 mw_568 mw_125 mw_569 (by decide +kernel) ⟨by decide, by decide⟩ hl.1 rfl (Nat.le_of_ble_eq_true rfl) ⟨Nat.zero_le _, Nat.zero_le _⟩ dX4_isWord_18 (fun r6 hr6 => ?_)
    subst hr6
    refine s_icmp_eq (a := z5) (b := 5) (tgt := 26) hE.1 hE.2.1 (by omega) (by omega) dX4_isWord_21 (by decide) (fun c7 => ?_) (fun c7 => ?_)
    · skip
      refine lv_iconst (v := iI (0)) hE.1 hE.2.1 dX4_isWord_26 (by decide) ?_
      refine lv_istore_n (lv' := [(2, .int (iI (0))), (0, .ref (ad 1)), (1, .ref (tk 3))]) hE.1 hE.2.1 dX4_isWord_27 rfl hl (by decide) rfl (fun ls hl => ?_)
      have loop8 : ∀ (k8 : Nat) (y8_2 : Int) (vl8 arl8 : sI) (all8 : sL) (H : Heap) (locs : List Loc) (ls : Array Slot), (8 - y8_2).toNat = k8 → (0 ≤ y8_2 ∧ y8_2 ≤ 8) → XI vl8 → (∀ i j : Nat, (i, j) ∉ ([] : List (Nat × Nat)) → vl8 i j = v i j) → va_P D xcl (wW ad (xG ad K mm) N vl8 arl8 all8) H → va_S (inW ad N) s.heap H locs → lv_has ls 3 [(2, .int (iI (y8_2))), (0, .ref (ad 1)), (1, .ref (tk 3))] → W p l e (rmD 4) s m args below meth c H locs 0 0 Q (F0 m 28 ls []) := by
        intro k8
        induction k8 using Nat.strongRecOn with
        | _ k8 ih8 =>
          intro y8_2 vl8 arl8 all8 H locs ls hk8 hb_y8_2 hI hfr8 hP hS hl
          refine lv_iload_n hE.1 hE.2.1 dX4_isWord_28 rfl (lv_at hl 0 rfl) ?_
          refine lv_aload_n hE.1 hE.2.1 dX4_isWord_29 rfl (lv_at hl 2 rfl) ?_
          refine x_vp (nn := 0) (As := []) (rest := [.int (iI (y8_2))]) hE (t_length l tk tv (inW ad N) 3 (by decide) 5 rfl) tP_blind (tP_now hT hS) (vk_recv hT.1 (by decide) hS) rfl mw_566 mw_567 mw_568 mw_125 mw_569 (by decide +kernel) ⟨by decide, by decide⟩ hl.1 rfl (Nat.le_of_ble_eq_true rfl) ⟨Nat.zero_le _, Nat.zero_le _⟩ dX4_isWord_30 (fun r9 hr9 => ?_)
          subst hr9
          refine s_icmp_ge (a := y8_2) (b := 5) (tgt := 62) hE.1 hE.2.1 (by omega) (by omega) dX4_isWord_33 (by decide) (fun c10 => ?_) (fun c10 => ?_)
          · skip
            refine lv_iconst (v := iI (1)) hE.1 hE.2.1 dX4_isWord_62 (by decide) ?_
            exact kr _ vl8 arl8 all8 _ _ _ _ (nar01 (by omega)) ⟨⟨1, by omega, rfl⟩, hI, fun i j h => (hfr8 i j (fun q => h (mem_sub (by decide) q)))⟩ hP hS dX4_isWord_63
          · skip
            refine lv_aload_n hE.1 hE.2.1 dX4_isWord_36 rfl (lv_at hl 1 rfl) ?_
            refine lv_aload_n hE.1 hE.2.1 dX4_isWord_37 rfl (lv_at hl 1 rfl) ?_
            refine x_get (x := .int (vl8 1 4)) hE hK hP 1 (Nat.lt_of_lt_of_le (by decide) hNN) (xG_4 rfl) rfl hin4 4 (by decide) mw_153 rfl dX4_isWord_38 ?_
            refine x_top (y := iI (z4)) ((hfr8 1 4 (by decide)).trans ez4) ?_
            refine lv_iload_n hE.1 hE.2.1 dX4_isWord_41 rfl (lv_at hl 0 rfl) ?_
            refine lv_iadd hE.1 hE.2.1 dX4_isWord_42 ?_
            obtain ⟨z11, hz11, ez11⟩ := iI_of (iI (z4) + iI (y8_2))
            refine x_top ez11 ?_
            refine x_vp (nn := 1) (As := [.int (iI (z11))]) (rest := []) hE (s_X4_byteAt_1 l D K ad mm N hNN vl8 arl8 all8 hI  (z11) (by omega)) wPre_blind (wPre_now hK hN hP) (x_recv hK hP 1 (Nat.lt_of_lt_of_le (by decide) hNN) (xG_4 rfl) rfl) rfl mw_542 mw_544 mw_1 mw_115 mw_545 (by decide +kernel) ⟨by decide, by decide⟩ hl.1 rfl (Nat.le_of_ble_eq_true rfl) ⟨Nat.zero_le _, Nat.zero_le _⟩ dX4_isWord_43 (fun r12 hr12 => ?_)
            obtain ⟨z12, hz12, rfl⟩ := hr12
            refine lv_aload_n hE.1 hE.2.1 dX4_isWord_46 rfl (lv_at hl 2 rfl) ?_
            refine lv_iload_n hE.1 hE.2.1 dX4_isWord_47 rfl (lv_at hl 0 rfl) ?_
            refine x_vp (nn := 1) (As := [.int (iI (y8_2))]) (rest := [.int (iI (z12))]) hE (t_charAt l tk tv (inW ad N) 3 (by decide) (y8_2) (show 0 ≤ y8_2 ∧ y8_2 < ((5 : Nat) : Int) by omega)) tP_blind (tP_now hT hS) (vk_recv hT.1 (by decide) hS) rfl mw_576 mw_577 mw_578 mw_125 mw_579 (by decide +kernel) ⟨by decide, by decide⟩ hl.1 rfl (Nat.le_of_ble_eq_true rfl) ⟨Nat.zero_le _, Nat.zero_le _⟩ dX4_isWord_48 (fun r13 _ => ?_)
            obtain ⟨z13, hz13, rfl⟩ := iI_of r13
            refine s_icmp_eq (a := z12) (b := z13) (tgt := 56) hE.1 hE.2.1 (by omega) (by omega) dX4_isWord_51 (by decide) (fun c14 => ?_) (fun c14 => ?_)
            · skip
              refine lv_iinc (v := iI (y8_2 + 1)) (lv' := [(2, .int (iI (y8_2 + 1))), (0, .ref (ad 1)), (1, .ref (tk 3))]) hE.1 hE.2.1 dX4_isWord_56 hl (k := 0) rfl ((iI_add (y8_2) (1)).trans (congrArg iI (by omega))) (by decide) rfl (fun ls hl => ?_)
              refine lv_goto (tgt := 28) hE.1 hE.2.1 dX4_isWord_59 (by decide) ?_
              exact ih8 _ (by omega) (y8_2 + 1) vl8 arl8 all8 _ _ _ rfl (by omega) hI (fun i j h => (hfr8 i j h)) hP hS (lv_sub hl [0, 1, 2] rfl)
            · skip
              refine lv_iconst (v := iI (0)) hE.1 hE.2.1 dX4_isWord_54 (by decide) ?_
              exact kr _ vl8 arl8 all8 _ _ _ _ (nar01 (by omega)) ⟨⟨0, by omega, rfl⟩, hI, fun i j h => (hfr8 i j (fun q => h (mem_sub (by decide) q)))⟩ hP hS dX4_isWord_55
      exact loop8 _ (0) v ar al _ _ _ rfl (by omega) hI (fun _ _ _ => rfl) hP hS hl
    · skip
      refine lv_iconst (v := iI (0)) hE.1 hE.2.1 dX4_isWord_24 (by decide) ?_
      exact kr _ v ar al _ _ _ _ (nar01 (by omega)) ⟨⟨0, by omega, rfl⟩, hI, fun i j h => rfl⟩ hP hS dX4_isWord_25

set_option maxHeartbeats 4000000 in
set_option maxRecDepth 100000 in
theorem s_X4_isWord_1_1010 (l : Launch) (D : va_G) (K : Nat → ClassId) (ad : Nat → Nat) (mm : Option Nat) (N : Nat) (hNN : 132 ≤ N) (v ar : sI) (al : sL) (hI : XI v) (tk tv : Nat → Nat) : Met l yX4_isWord (wM yX4_isWord cX4_isWord 3 (some .boolean)) (rmD 4) (va_Pc [.ref (ad 1), .ref (tk 10)] (twPre D K ad (xG ad K mm) N v ar al tk tv)) (va_Qi (fun (r : Int32) (u : sT) => (∃ z : Int, (0 ≤ z ∧ z ≤ 1) ∧ r = iI z) ∧ XI u.1 ∧ (∀ i j : Nat, (i, j) ∉ ([] : List (Nat × Nat)) → u.1 i j = v i j)) (wB D ad (xG ad K mm) N) (inW ad N)) 0 0 (inW ad N) := by
  refine s_metI (by decide) (Nat.le_of_ble_eq_true rfl) ?_
  intro p e s m below meth c ls args Q hE hB hl kr
  have hE : CallFix p m c cX4_isWord 3 s args tbG "TaleCourt$Reader" := hE
  obtain ⟨⟨hP, hK, hN⟩, hT, hTR⟩ := hB
  have hS : va_S (inW ad N) s.heap s.heap [] := va_S.rf
  have hl : lv_has ls 3 [(0, .ref (ad 1)), (1, .ref (tk 10))] := hl
  refine lv_aload_n hE.1 hE.2.1 dX4_isWord_0 rfl (lv_at hl 0 rfl) ?_
  obtain ⟨z1, hz1, ez1⟩ := iI_of (v 1 6)
  refine x_get (x := .int (v 1 6)) hE hK hP 1 (Nat.lt_of_lt_of_le (by decide) hNN) (xG_4 rfl) rfl hin4 6 (by decide) mw_155 rfl dX4_isWord_1 ?_
  refine x_top (y := iI (z1)) ez1 ?_
  refine lv_iconst (v := iI (2)) hE.1 hE.2.1 dX4_isWord_4 (by decide) ?_
  refine s_icmp_ne (a := z1) (b := 2) (tgt := 24) hE.1 hE.2.1 (by omega) (by omega) dX4_isWord_5 (by decide) (fun c2 => ?_) (fun c2 => ?_)
  · skip
    refine lv_iconst (v := iI (0)) hE.1 hE.2.1 dX4_isWord_24 (by decide) ?_
    exact kr _ v ar al _ _ _ _ (nar01 (by omega)) ⟨⟨0, by omega, rfl⟩, hI, fun i j h => rfl⟩ hP hS dX4_isWord_25
  · skip
    refine lv_aload_n hE.1 hE.2.1 dX4_isWord_8 rfl (lv_at hl 0 rfl) ?_
    obtain ⟨z3, hz3, ez3⟩ := iI_of (v 1 5)
    refine x_get (x := .int (v 1 5)) hE hK hP 1 (Nat.lt_of_lt_of_le (by decide) hNN) (xG_4 rfl) rfl hin4 5 (by decide) mw_154 rfl dX4_isWord_9 ?_
    refine x_top (y := iI (z3)) ez3 ?_
    refine lv_aload_n hE.1 hE.2.1 dX4_isWord_12 rfl (lv_at hl 0 rfl) ?_
    obtain ⟨z4, hz4, ez4⟩ := iI_of (v 1 4)
    refine x_get (x := .int (v 1 4)) hE hK hP 1 (Nat.lt_of_lt_of_le (by decide) hNN) (xG_4 rfl) rfl hin4 4 (by decide) mw_153 rfl dX4_isWord_13 ?_
    refine x_top (y := iI (z4)) ez4 ?_
    refine lv_isub hE.1 hE.2.1 dX4_isWord_16 ?_
    obtain ⟨z5, hz5, ez5⟩ := iI_of (iI (z3) - iI (z4))
    refine x_top ez5 ?_
    refine lv_aload_n hE.1 hE.2.1 dX4_isWord_17 rfl (lv_at hl 1 rfl) ?_
    refine x_vp (nn := 0) (As := []) (rest := [.int (iI (z5))]) hE (t_length l tk tv (inW ad N) 10 (by decide) 4 rfl) tP_blind (tP_now hT hS) (vk_recv hT.1 (by decide) hS) rfl mw_566 mw_567 mw_568 mw_125 mw_569 (by decide +kernel) ⟨by decide, by decide⟩ hl.1 rfl (Nat.le_of_ble_eq_true rfl) ⟨Nat.zero_le _, Nat.zero_le _⟩ dX4_isWord_18 (fun r6 hr6 => ?_)
    subst hr6
    refine s_icmp_eq (a := z5) (b := 4) (tgt := 26) hE.1 hE.2.1 (by omega) (by omega) dX4_isWord_21 (by decide) (fun c7 => ?_) (fun c7 => ?_)
    · skip
      refine lv_iconst (v := iI (0)) hE.1 hE.2.1 dX4_isWord_26 (by decide) ?_
      refine lv_istore_n (lv' := [(2, .int (iI (0))), (0, .ref (ad 1)), (1, .ref (tk 10))]) hE.1 hE.2.1 dX4_isWord_27 rfl hl (by decide) rfl (fun ls hl => ?_)
      have loop8 : ∀ (k8 : Nat) (y8_2 : Int) (vl8 arl8 : sI) (all8 : sL) (H : Heap) (locs : List Loc) (ls : Array Slot), (8 - y8_2).toNat = k8 → (0 ≤ y8_2 ∧ y8_2 ≤ 8) → XI vl8 → (∀ i j : Nat, (i, j) ∉ ([] : List (Nat × Nat)) → vl8 i j = v i j) → va_P D xcl (wW ad (xG ad K mm) N vl8 arl8 all8) H → va_S (inW ad N) s.heap H locs → lv_has ls 3 [(2, .int (iI (y8_2))), (0, .ref (ad 1)), (1, .ref (tk 10))] → W p l e (rmD 4) s m args below meth c H locs 0 0 Q (F0 m 28 ls []) := by
        intro k8
        induction k8 using Nat.strongRecOn with
        | _ k8 ih8 =>
          intro y8_2 vl8 arl8 all8 H locs ls hk8 hb_y8_2 hI hfr8 hP hS hl
          refine lv_iload_n hE.1 hE.2.1 dX4_isWord_28 rfl (lv_at hl 0 rfl) ?_
          refine lv_aload_n hE.1 hE.2.1 dX4_isWord_29 rfl (lv_at hl 2 rfl) ?_
          refine x_vp (nn := 0) (As := []) (rest := [.int (iI (y8_2))]) hE (t_length l tk tv (inW ad N) 10 (by decide) 4 rfl) tP_blind (tP_now hT hS) (vk_recv hT.1 (by decide) hS) rfl mw_566 mw_567 mw_568 mw_125 mw_569 (by decide +kernel) ⟨by decide, by decide⟩ hl.1 rfl (Nat.le_of_ble_eq_true rfl) ⟨Nat.zero_le _, Nat.zero_le _⟩ dX4_isWord_30 (fun r9 hr9 => ?_)
          subst hr9
          refine s_icmp_ge (a := y8_2) (b := 4) (tgt := 62) hE.1 hE.2.1 (by omega) (by omega) dX4_isWord_33 (by decide) (fun c10 => ?_) (fun c10 => ?_)
          · skip
            refine lv_iconst (v := iI (1)) hE.1 hE.2.1 dX4_isWord_62 (by decide) ?_
            exact kr _ vl8 arl8 all8 _ _ _ _ (nar01 (by omega)) ⟨⟨1, by omega, rfl⟩, hI, fun i j h => (hfr8 i j (fun q => h (mem_sub (by decide) q)))⟩ hP hS dX4_isWord_63
          · skip
            refine lv_aload_n hE.1 hE.2.1 dX4_isWord_36 rfl (lv_at hl 1 rfl) ?_
            refine lv_aload_n hE.1 hE.2.1 dX4_isWord_37 rfl (lv_at hl 1 rfl) ?_
            refine x_get (x := .int (vl8 1 4)) hE hK hP 1 (Nat.lt_of_lt_of_le (by decide) hNN) (xG_4 rfl) rfl hin4 4 (by decide) mw_153 rfl dX4_isWord_38 ?_
            refine x_top (y := iI (z4)) ((hfr8 1 4 (by decide)).trans ez4) ?_
            refine lv_iload_n hE.1 hE.2.1 dX4_isWord_41 rfl (lv_at hl 0 rfl) ?_
            refine lv_iadd hE.1 hE.2.1 dX4_isWord_42 ?_
            obtain ⟨z11, hz11, ez11⟩ := iI_of (iI (z4) + iI (y8_2))
            refine x_top ez11 ?_
            refine x_vp (nn := 1) (As := [.int (iI (z11))]) (rest := []) hE (s_X4_byteAt_1 l D K ad mm N hNN vl8 arl8 all8 hI  (z11) (by omega)) wPre_blind (wPre_now hK hN hP) (x_recv hK hP 1 (Nat.lt_of_lt_of_le (by decide) hNN) (xG_4 rfl) rfl) rfl mw_542 mw_544 mw_1 mw_115 mw_545 (by decide +kernel) ⟨by decide, by decide⟩ hl.1 rfl (Nat.le_of_ble_eq_true rfl) ⟨Nat.zero_le _, Nat.zero_le _⟩ dX4_isWord_43 (fun r12 hr12 => ?_)
            obtain ⟨z12, hz12, rfl⟩ := hr12
            refine lv_aload_n hE.1 hE.2.1 dX4_isWord_46 rfl (lv_at hl 2 rfl) ?_
            refine lv_iload_n hE.1 hE.2.1 dX4_isWord_47 rfl (lv_at hl 0 rfl) ?_
            refine x_vp (nn := 1) (As := [.int (iI (y8_2))]) (rest := [.int (iI (z12))]) hE (t_charAt l tk tv (inW ad N) 10 (by decide) (y8_2) (show 0 ≤ y8_2 ∧ y8_2 < ((4 : Nat) : Int) by omega)) tP_blind (tP_now hT hS) (vk_recv hT.1 (by decide) hS) rfl mw_576 mw_577 mw_578 mw_125 mw_579 (by decide +kernel) ⟨by decide, by decide⟩ hl.1 rfl (Nat.le_of_ble_eq_true rfl) ⟨Nat.zero_le _, Nat.zero_le _⟩ dX4_isWord_48 (fun r13 _ => ?_)
            obtain ⟨z13, hz13, rfl⟩ := iI_of r13
            refine s_icmp_eq (a := z12) (b := z13) (tgt := 56) hE.1 hE.2.1 (by omega) (by omega) dX4_isWord_51 (by decide) (fun c14 => ?_) (fun c14 => ?_)
            · skip
              refine lv_iinc (v := iI (y8_2 + 1)) (lv' := [(2, .int (iI (y8_2 + 1))), (0, .ref (ad 1)), (1, .ref (tk 10))]) hE.1 hE.2.1 dX4_isWord_56 hl (k := 0) rfl ((iI_add (y8_2) (1)).trans (congrArg iI (by omega))) (by decide) rfl (fun ls hl => ?_)
              refine lv_goto (tgt := 28) hE.1 hE.2.1 dX4_isWord_59 (by decide) ?_
              exact ih8 _ (by omega) (y8_2 + 1) vl8 arl8 all8 _ _ _ rfl (by omega) hI (fun i j h => (hfr8 i j h)) hP hS (lv_sub hl [0, 1, 2] rfl)
            · skip
              refine lv_iconst (v := iI (0)) hE.1 hE.2.1 dX4_isWord_54 (by decide) ?_
              exact kr _ vl8 arl8 all8 _ _ _ _ (nar01 (by omega)) ⟨⟨0, by omega, rfl⟩, hI, fun i j h => (hfr8 i j (fun q => h (mem_sub (by decide) q)))⟩ hP hS dX4_isWord_55
      exact loop8 _ (0) v ar al _ _ _ rfl (by omega) hI (fun _ _ _ => rfl) hP hS hl
    · skip
      refine lv_iconst (v := iI (0)) hE.1 hE.2.1 dX4_isWord_24 (by decide) ?_
      exact kr _ v ar al _ _ _ _ (nar01 (by omega)) ⟨⟨0, by omega, rfl⟩, hI, fun i j h => rfl⟩ hP hS dX4_isWord_25

set_option maxHeartbeats 4000000 in
set_option maxRecDepth 100000 in
theorem s_X4_isWord_1_1012 (l : Launch) (D : va_G) (K : Nat → ClassId) (ad : Nat → Nat) (mm : Option Nat) (N : Nat) (hNN : 132 ≤ N) (v ar : sI) (al : sL) (hI : XI v) (tk tv : Nat → Nat) : Met l yX4_isWord (wM yX4_isWord cX4_isWord 3 (some .boolean)) (rmD 4) (va_Pc [.ref (ad 1), .ref (tk 12)] (twPre D K ad (xG ad K mm) N v ar al tk tv)) (va_Qi (fun (r : Int32) (u : sT) => (∃ z : Int, (0 ≤ z ∧ z ≤ 1) ∧ r = iI z) ∧ XI u.1 ∧ (∀ i j : Nat, (i, j) ∉ ([] : List (Nat × Nat)) → u.1 i j = v i j)) (wB D ad (xG ad K mm) N) (inW ad N)) 0 0 (inW ad N) := by
  refine s_metI (by decide) (Nat.le_of_ble_eq_true rfl) ?_
  intro p e s m below meth c ls args Q hE hB hl kr
  have hE : CallFix p m c cX4_isWord 3 s args tbG "TaleCourt$Reader" := hE
  obtain ⟨⟨hP, hK, hN⟩, hT, hTR⟩ := hB
  have hS : va_S (inW ad N) s.heap s.heap [] := va_S.rf
  have hl : lv_has ls 3 [(0, .ref (ad 1)), (1, .ref (tk 12))] := hl
  refine lv_aload_n hE.1 hE.2.1 dX4_isWord_0 rfl (lv_at hl 0 rfl) ?_
  obtain ⟨z1, hz1, ez1⟩ := iI_of (v 1 6)
  refine x_get (x := .int (v 1 6)) hE hK hP 1 (Nat.lt_of_lt_of_le (by decide) hNN) (xG_4 rfl) rfl hin4 6 (by decide) mw_155 rfl dX4_isWord_1 ?_
  refine x_top (y := iI (z1)) ez1 ?_
  refine lv_iconst (v := iI (2)) hE.1 hE.2.1 dX4_isWord_4 (by decide) ?_
  refine s_icmp_ne (a := z1) (b := 2) (tgt := 24) hE.1 hE.2.1 (by omega) (by omega) dX4_isWord_5 (by decide) (fun c2 => ?_) (fun c2 => ?_)
  · skip
    refine lv_iconst (v := iI (0)) hE.1 hE.2.1 dX4_isWord_24 (by decide) ?_
    exact kr _ v ar al _ _ _ _ (nar01 (by omega)) ⟨⟨0, by omega, rfl⟩, hI, fun i j h => rfl⟩ hP hS dX4_isWord_25
  · skip
    refine lv_aload_n hE.1 hE.2.1 dX4_isWord_8 rfl (lv_at hl 0 rfl) ?_
    obtain ⟨z3, hz3, ez3⟩ := iI_of (v 1 5)
    refine x_get (x := .int (v 1 5)) hE hK hP 1 (Nat.lt_of_lt_of_le (by decide) hNN) (xG_4 rfl) rfl hin4 5 (by decide) mw_154 rfl dX4_isWord_9 ?_
    refine x_top (y := iI (z3)) ez3 ?_
    refine lv_aload_n hE.1 hE.2.1 dX4_isWord_12 rfl (lv_at hl 0 rfl) ?_
    obtain ⟨z4, hz4, ez4⟩ := iI_of (v 1 4)
    refine x_get (x := .int (v 1 4)) hE hK hP 1 (Nat.lt_of_lt_of_le (by decide) hNN) (xG_4 rfl) rfl hin4 4 (by decide) mw_153 rfl dX4_isWord_13 ?_
    refine x_top (y := iI (z4)) ez4 ?_
    refine lv_isub hE.1 hE.2.1 dX4_isWord_16 ?_
    obtain ⟨z5, hz5, ez5⟩ := iI_of (iI (z3) - iI (z4))
    refine x_top ez5 ?_
    refine lv_aload_n hE.1 hE.2.1 dX4_isWord_17 rfl (lv_at hl 1 rfl) ?_
    refine x_vp (nn := 0) (As := []) (rest := [.int (iI (z5))]) hE (t_length l tk tv (inW ad N) 12 (by decide) 5 rfl) tP_blind (tP_now hT hS) (vk_recv hT.1 (by decide) hS) rfl mw_566 mw_567 mw_568 mw_125 mw_569 (by decide +kernel) ⟨by decide, by decide⟩ hl.1 rfl (Nat.le_of_ble_eq_true rfl) ⟨Nat.zero_le _, Nat.zero_le _⟩ dX4_isWord_18 (fun r6 hr6 => ?_)
    subst hr6
    refine s_icmp_eq (a := z5) (b := 5) (tgt := 26) hE.1 hE.2.1 (by omega) (by omega) dX4_isWord_21 (by decide) (fun c7 => ?_) (fun c7 => ?_)
    · skip
      refine lv_iconst (v := iI (0)) hE.1 hE.2.1 dX4_isWord_26 (by decide) ?_
      refine lv_istore_n (lv' := [(2, .int (iI (0))), (0, .ref (ad 1)), (1, .ref (tk 12))]) hE.1 hE.2.1 dX4_isWord_27 rfl hl (by decide) rfl (fun ls hl => ?_)
      have loop8 : ∀ (k8 : Nat) (y8_2 : Int) (vl8 arl8 : sI) (all8 : sL) (H : Heap) (locs : List Loc) (ls : Array Slot), (8 - y8_2).toNat = k8 → (0 ≤ y8_2 ∧ y8_2 ≤ 8) → XI vl8 → (∀ i j : Nat, (i, j) ∉ ([] : List (Nat × Nat)) → vl8 i j = v i j) → va_P D xcl (wW ad (xG ad K mm) N vl8 arl8 all8) H → va_S (inW ad N) s.heap H locs → lv_has ls 3 [(2, .int (iI (y8_2))), (0, .ref (ad 1)), (1, .ref (tk 12))] → W p l e (rmD 4) s m args below meth c H locs 0 0 Q (F0 m 28 ls []) := by
        intro k8
        induction k8 using Nat.strongRecOn with
        | _ k8 ih8 =>
          intro y8_2 vl8 arl8 all8 H locs ls hk8 hb_y8_2 hI hfr8 hP hS hl
          refine lv_iload_n hE.1 hE.2.1 dX4_isWord_28 rfl (lv_at hl 0 rfl) ?_
          refine lv_aload_n hE.1 hE.2.1 dX4_isWord_29 rfl (lv_at hl 2 rfl) ?_
          refine x_vp (nn := 0) (As := []) (rest := [.int (iI (y8_2))]) hE (t_length l tk tv (inW ad N) 12 (by decide) 5 rfl) tP_blind (tP_now hT hS) (vk_recv hT.1 (by decide) hS) rfl mw_566 mw_567 mw_568 mw_125 mw_569 (by decide +kernel) ⟨by decide, by decide⟩ hl.1 rfl (Nat.le_of_ble_eq_true rfl) ⟨Nat.zero_le _, Nat.zero_le _⟩ dX4_isWord_30 (fun r9 hr9 => ?_)
          subst hr9
          refine s_icmp_ge (a := y8_2) (b := 5) (tgt := 62) hE.1 hE.2.1 (by omega) (by omega) dX4_isWord_33 (by decide) (fun c10 => ?_) (fun c10 => ?_)
          · skip
            refine lv_iconst (v := iI (1)) hE.1 hE.2.1 dX4_isWord_62 (by decide) ?_
            exact kr _ vl8 arl8 all8 _ _ _ _ (nar01 (by omega)) ⟨⟨1, by omega, rfl⟩, hI, fun i j h => (hfr8 i j (fun q => h (mem_sub (by decide) q)))⟩ hP hS dX4_isWord_63
          · skip
            refine lv_aload_n hE.1 hE.2.1 dX4_isWord_36 rfl (lv_at hl 1 rfl) ?_
            refine lv_aload_n hE.1 hE.2.1 dX4_isWord_37 rfl (lv_at hl 1 rfl) ?_
            refine x_get (x := .int (vl8 1 4)) hE hK hP 1 (Nat.lt_of_lt_of_le (by decide) hNN) (xG_4 rfl) rfl hin4 4 (by decide) mw_153 rfl dX4_isWord_38 ?_
            refine x_top (y := iI (z4)) ((hfr8 1 4 (by decide)).trans ez4) ?_
            refine lv_iload_n hE.1 hE.2.1 dX4_isWord_41 rfl (lv_at hl 0 rfl) ?_
            refine lv_iadd hE.1 hE.2.1 dX4_isWord_42 ?_
            obtain ⟨z11, hz11, ez11⟩ := iI_of (iI (z4) + iI (y8_2))
            refine x_top ez11 ?_
            refine x_vp (nn := 1) (As := [.int (iI (z11))]) (rest := []) hE (s_X4_byteAt_1 l D K ad mm N hNN vl8 arl8 all8 hI  (z11) (by omega)) wPre_blind (wPre_now hK hN hP) (x_recv hK hP 1 (Nat.lt_of_lt_of_le (by decide) hNN) (xG_4 rfl) rfl) rfl mw_542 mw_544 mw_1 mw_115 mw_545 (by decide +kernel) ⟨by decide, by decide⟩ hl.1 rfl (Nat.le_of_ble_eq_true rfl) ⟨Nat.zero_le _, Nat.zero_le _⟩ dX4_isWord_43 (fun r12 hr12 => ?_)
            obtain ⟨z12, hz12, rfl⟩ := hr12
            refine lv_aload_n hE.1 hE.2.1 dX4_isWord_46 rfl (lv_at hl 2 rfl) ?_
            refine lv_iload_n hE.1 hE.2.1 dX4_isWord_47 rfl (lv_at hl 0 rfl) ?_
            refine x_vp (nn := 1) (As := [.int (iI (y8_2))]) (rest := [.int (iI (z12))]) hE (t_charAt l tk tv (inW ad N) 12 (by decide) (y8_2) (show 0 ≤ y8_2 ∧ y8_2 < ((5 : Nat) : Int) by omega)) tP_blind (tP_now hT hS) (vk_recv hT.1 (by decide) hS) rfl mw_576 mw_577 mw_578 mw_125 mw_579 (by decide +kernel) ⟨by decide, by decide⟩ hl.1 rfl (Nat.le_of_ble_eq_true rfl) ⟨Nat.zero_le _, Nat.zero_le _⟩ dX4_isWord_48 (fun r13 _ => ?_)
            obtain ⟨z13, hz13, rfl⟩ := iI_of r13
            refine s_icmp_eq (a := z12) (b := z13) (tgt := 56) hE.1 hE.2.1 (by omega) (by omega) dX4_isWord_51 (by decide) (fun c14 => ?_) (fun c14 => ?_)
            · skip
              refine lv_iinc (v := iI (y8_2 + 1)) (lv' := [(2, .int (iI (y8_2 + 1))), (0, .ref (ad 1)), (1, .ref (tk 12))]) hE.1 hE.2.1 dX4_isWord_56 hl (k := 0) rfl ((iI_add (y8_2) (1)).trans (congrArg iI (by omega))) (by decide) rfl (fun ls hl => ?_)
              refine lv_goto (tgt := 28) hE.1 hE.2.1 dX4_isWord_59 (by decide) ?_
              exact ih8 _ (by omega) (y8_2 + 1) vl8 arl8 all8 _ _ _ rfl (by omega) hI (fun i j h => (hfr8 i j h)) hP hS (lv_sub hl [0, 1, 2] rfl)
            · skip
              refine lv_iconst (v := iI (0)) hE.1 hE.2.1 dX4_isWord_54 (by decide) ?_
              exact kr _ vl8 arl8 all8 _ _ _ _ (nar01 (by omega)) ⟨⟨0, by omega, rfl⟩, hI, fun i j h => (hfr8 i j (fun q => h (mem_sub (by decide) q)))⟩ hP hS dX4_isWord_55
      exact loop8 _ (0) v ar al _ _ _ rfl (by omega) hI (fun _ _ _ => rfl) hP hS hl
    · skip
      refine lv_iconst (v := iI (0)) hE.1 hE.2.1 dX4_isWord_24 (by decide) ?_
      exact kr _ v ar al _ _ _ _ (nar01 (by omega)) ⟨⟨0, by omega, rfl⟩, hI, fun i j h => rfl⟩ hP hS dX4_isWord_25

set_option maxHeartbeats 4000000 in
set_option maxRecDepth 100000 in
theorem s_X4_isWord_1_1014 (l : Launch) (D : va_G) (K : Nat → ClassId) (ad : Nat → Nat) (mm : Option Nat) (N : Nat) (hNN : 132 ≤ N) (v ar : sI) (al : sL) (hI : XI v) (tk tv : Nat → Nat) : Met l yX4_isWord (wM yX4_isWord cX4_isWord 3 (some .boolean)) (rmD 4) (va_Pc [.ref (ad 1), .ref (tk 14)] (twPre D K ad (xG ad K mm) N v ar al tk tv)) (va_Qi (fun (r : Int32) (u : sT) => (∃ z : Int, (0 ≤ z ∧ z ≤ 1) ∧ r = iI z) ∧ XI u.1 ∧ (∀ i j : Nat, (i, j) ∉ ([] : List (Nat × Nat)) → u.1 i j = v i j)) (wB D ad (xG ad K mm) N) (inW ad N)) 0 0 (inW ad N) := by
  refine s_metI (by decide) (Nat.le_of_ble_eq_true rfl) ?_
  intro p e s m below meth c ls args Q hE hB hl kr
  have hE : CallFix p m c cX4_isWord 3 s args tbG "TaleCourt$Reader" := hE
  obtain ⟨⟨hP, hK, hN⟩, hT, hTR⟩ := hB
  have hS : va_S (inW ad N) s.heap s.heap [] := va_S.rf
  have hl : lv_has ls 3 [(0, .ref (ad 1)), (1, .ref (tk 14))] := hl
  refine lv_aload_n hE.1 hE.2.1 dX4_isWord_0 rfl (lv_at hl 0 rfl) ?_
  obtain ⟨z1, hz1, ez1⟩ := iI_of (v 1 6)
  refine x_get (x := .int (v 1 6)) hE hK hP 1 (Nat.lt_of_lt_of_le (by decide) hNN) (xG_4 rfl) rfl hin4 6 (by decide) mw_155 rfl dX4_isWord_1 ?_
  refine x_top (y := iI (z1)) ez1 ?_
  refine lv_iconst (v := iI (2)) hE.1 hE.2.1 dX4_isWord_4 (by decide) ?_
  refine s_icmp_ne (a := z1) (b := 2) (tgt := 24) hE.1 hE.2.1 (by omega) (by omega) dX4_isWord_5 (by decide) (fun c2 => ?_) (fun c2 => ?_)
  · skip
    refine lv_iconst (v := iI (0)) hE.1 hE.2.1 dX4_isWord_24 (by decide) ?_
    exact kr _ v ar al _ _ _ _ (nar01 (by omega)) ⟨⟨0, by omega, rfl⟩, hI, fun i j h => rfl⟩ hP hS dX4_isWord_25
  · skip
    refine lv_aload_n hE.1 hE.2.1 dX4_isWord_8 rfl (lv_at hl 0 rfl) ?_
    obtain ⟨z3, hz3, ez3⟩ := iI_of (v 1 5)
    refine x_get (x := .int (v 1 5)) hE hK hP 1 (Nat.lt_of_lt_of_le (by decide) hNN) (xG_4 rfl) rfl hin4 5 (by decide) mw_154 rfl dX4_isWord_9 ?_
    refine x_top (y := iI (z3)) ez3 ?_
    refine lv_aload_n hE.1 hE.2.1 dX4_isWord_12 rfl (lv_at hl 0 rfl) ?_
    obtain ⟨z4, hz4, ez4⟩ := iI_of (v 1 4)
    refine x_get (x := .int (v 1 4)) hE hK hP 1 (Nat.lt_of_lt_of_le (by decide) hNN) (xG_4 rfl) rfl hin4 4 (by decide) mw_153 rfl dX4_isWord_13 ?_
    refine x_top (y := iI (z4)) ez4 ?_
    refine lv_isub hE.1 hE.2.1 dX4_isWord_16 ?_
    obtain ⟨z5, hz5, ez5⟩ := iI_of (iI (z3) - iI (z4))
    refine x_top ez5 ?_
    refine lv_aload_n hE.1 hE.2.1 dX4_isWord_17 rfl (lv_at hl 1 rfl) ?_
    refine x_vp (nn := 0) (As := []) (rest := [.int (iI (z5))]) hE (t_length l tk tv (inW ad N) 14 (by decide) 5 rfl) tP_blind (tP_now hT hS) (vk_recv hT.1 (by decide) hS) rfl mw_566 mw_567 mw_568 mw_125 mw_569 (by decide +kernel) ⟨by decide, by decide⟩ hl.1 rfl (Nat.le_of_ble_eq_true rfl) ⟨Nat.zero_le _, Nat.zero_le _⟩ dX4_isWord_18 (fun r6 hr6 => ?_)
    subst hr6
    refine s_icmp_eq (a := z5) (b := 5) (tgt := 26) hE.1 hE.2.1 (by omega) (by omega) dX4_isWord_21 (by decide) (fun c7 => ?_) (fun c7 => ?_)
    · skip
      refine lv_iconst (v := iI (0)) hE.1 hE.2.1 dX4_isWord_26 (by decide) ?_
      refine lv_istore_n (lv' := [(2, .int (iI (0))), (0, .ref (ad 1)), (1, .ref (tk 14))]) hE.1 hE.2.1 dX4_isWord_27 rfl hl (by decide) rfl (fun ls hl => ?_)
      have loop8 : ∀ (k8 : Nat) (y8_2 : Int) (vl8 arl8 : sI) (all8 : sL) (H : Heap) (locs : List Loc) (ls : Array Slot), (8 - y8_2).toNat = k8 → (0 ≤ y8_2 ∧ y8_2 ≤ 8) → XI vl8 → (∀ i j : Nat, (i, j) ∉ ([] : List (Nat × Nat)) → vl8 i j = v i j) → va_P D xcl (wW ad (xG ad K mm) N vl8 arl8 all8) H → va_S (inW ad N) s.heap H locs → lv_has ls 3 [(2, .int (iI (y8_2))), (0, .ref (ad 1)), (1, .ref (tk 14))] → W p l e (rmD 4) s m args below meth c H locs 0 0 Q (F0 m 28 ls []) := by
        intro k8
        induction k8 using Nat.strongRecOn with
        | _ k8 ih8 =>
          intro y8_2 vl8 arl8 all8 H locs ls hk8 hb_y8_2 hI hfr8 hP hS hl
          refine lv_iload_n hE.1 hE.2.1 dX4_isWord_28 rfl (lv_at hl 0 rfl) ?_
          refine lv_aload_n hE.1 hE.2.1 dX4_isWord_29 rfl (lv_at hl 2 rfl) ?_
          refine x_vp (nn := 0) (As := []) (rest := [.int (iI (y8_2))]) hE (t_length l tk tv (inW ad N) 14 (by decide) 5 rfl) tP_blind (tP_now hT hS) (vk_recv hT.1 (by decide) hS) rfl mw_566 mw_567 mw_568 mw_125 mw_569 (by decide +kernel) ⟨by decide, by decide⟩ hl.1 rfl (Nat.le_of_ble_eq_true rfl) ⟨Nat.zero_le _, Nat.zero_le _⟩ dX4_isWord_30 (fun r9 hr9 => ?_)
          subst hr9
          refine s_icmp_ge (a := y8_2) (b := 5) (tgt := 62) hE.1 hE.2.1 (by omega) (by omega) dX4_isWord_33 (by decide) (fun c10 => ?_) (fun c10 => ?_)
          · skip
            refine lv_iconst (v := iI (1)) hE.1 hE.2.1 dX4_isWord_62 (by decide) ?_
            exact kr _ vl8 arl8 all8 _ _ _ _ (nar01 (by omega)) ⟨⟨1, by omega, rfl⟩, hI, fun i j h => (hfr8 i j (fun q => h (mem_sub (by decide) q)))⟩ hP hS dX4_isWord_63
          · skip
            refine lv_aload_n hE.1 hE.2.1 dX4_isWord_36 rfl (lv_at hl 1 rfl) ?_
            refine lv_aload_n hE.1 hE.2.1 dX4_isWord_37 rfl (lv_at hl 1 rfl) ?_
            refine x_get (x := .int (vl8 1 4)) hE hK hP 1 (Nat.lt_of_lt_of_le (by decide) hNN) (xG_4 rfl) rfl hin4 4 (by decide) mw_153 rfl dX4_isWord_38 ?_
            refine x_top (y := iI (z4)) ((hfr8 1 4 (by decide)).trans ez4) ?_
            refine lv_iload_n hE.1 hE.2.1 dX4_isWord_41 rfl (lv_at hl 0 rfl) ?_
            refine lv_iadd hE.1 hE.2.1 dX4_isWord_42 ?_
            obtain ⟨z11, hz11, ez11⟩ := iI_of (iI (z4) + iI (y8_2))
            refine x_top ez11 ?_
            refine x_vp (nn := 1) (As := [.int (iI (z11))]) (rest := []) hE (s_X4_byteAt_1 l D K ad mm N hNN vl8 arl8 all8 hI  (z11) (by omega)) wPre_blind (wPre_now hK hN hP) (x_recv hK hP 1 (Nat.lt_of_lt_of_le (by decide) hNN) (xG_4 rfl) rfl) rfl mw_542 mw_544 mw_1 mw_115 mw_545 (by decide +kernel) ⟨by decide, by decide⟩ hl.1 rfl (Nat.le_of_ble_eq_true rfl) ⟨Nat.zero_le _, Nat.zero_le _⟩ dX4_isWord_43 (fun r12 hr12 => ?_)
            obtain ⟨z12, hz12, rfl⟩ := hr12
            refine lv_aload_n hE.1 hE.2.1 dX4_isWord_46 rfl (lv_at hl 2 rfl) ?_
            refine lv_iload_n hE.1 hE.2.1 dX4_isWord_47 rfl (lv_at hl 0 rfl) ?_
            refine x_vp (nn := 1) (As := [.int (iI (y8_2))]) (rest := [.int (iI (z12))]) hE (t_charAt l tk tv (inW ad N) 14 (by decide) (y8_2) (show 0 ≤ y8_2 ∧ y8_2 < ((5 : Nat) : Int) by omega)) tP_blind (tP_now hT hS) (vk_recv hT.1 (by decide) hS) rfl mw_576 mw_577 mw_578 mw_125 mw_579 (by decide +kernel) ⟨by decide, by decide⟩ hl.1 rfl (Nat.le_of_ble_eq_true rfl) ⟨Nat.zero_le _, Nat.zero_le _⟩ dX4_isWord_48 (fun r13 _ => ?_)
            obtain ⟨z13, hz13, rfl⟩ := iI_of r13
            refine s_icmp_eq (a := z12) (b := z13) (tgt := 56) hE.1 hE.2.1 (by omega) (by omega) dX4_isWord_51 (by decide) (fun c14 => ?_) (fun c14 => ?_)
            · skip
              refine lv_iinc (v := iI (y8_2 + 1)) (lv' := [(2, .int (iI (y8_2 + 1))), (0, .ref (ad 1)), (1, .ref (tk 14))]) hE.1 hE.2.1 dX4_isWord_56 hl (k := 0) rfl ((iI_add (y8_2) (1)).trans (congrArg iI (by omega))) (by decide) rfl (fun ls hl => ?_)
              refine lv_goto (tgt := 28) hE.1 hE.2.1 dX4_isWord_59 (by decide) ?_
              exact ih8 _ (by omega) (y8_2 + 1) vl8 arl8 all8 _ _ _ rfl (by omega) hI (fun i j h => (hfr8 i j h)) hP hS (lv_sub hl [0, 1, 2] rfl)
            · skip
              refine lv_iconst (v := iI (0)) hE.1 hE.2.1 dX4_isWord_54 (by decide) ?_
              exact kr _ vl8 arl8 all8 _ _ _ _ (nar01 (by omega)) ⟨⟨0, by omega, rfl⟩, hI, fun i j h => (hfr8 i j (fun q => h (mem_sub (by decide) q)))⟩ hP hS dX4_isWord_55
      exact loop8 _ (0) v ar al _ _ _ rfl (by omega) hI (fun _ _ _ => rfl) hP hS hl
    · skip
      refine lv_iconst (v := iI (0)) hE.1 hE.2.1 dX4_isWord_24 (by decide) ?_
      exact kr _ v ar al _ _ _ _ (nar01 (by omega)) ⟨⟨0, by omega, rfl⟩, hI, fun i j h => rfl⟩ hP hS dX4_isWord_25

set_option maxHeartbeats 4000000 in
set_option maxRecDepth 100000 in
theorem s_X4_isWord_1_1015 (l : Launch) (D : va_G) (K : Nat → ClassId) (ad : Nat → Nat) (mm : Option Nat) (N : Nat) (hNN : 132 ≤ N) (v ar : sI) (al : sL) (hI : XI v) (tk tv : Nat → Nat) : Met l yX4_isWord (wM yX4_isWord cX4_isWord 3 (some .boolean)) (rmD 4) (va_Pc [.ref (ad 1), .ref (tk 15)] (twPre D K ad (xG ad K mm) N v ar al tk tv)) (va_Qi (fun (r : Int32) (u : sT) => (∃ z : Int, (0 ≤ z ∧ z ≤ 1) ∧ r = iI z) ∧ XI u.1 ∧ (∀ i j : Nat, (i, j) ∉ ([] : List (Nat × Nat)) → u.1 i j = v i j)) (wB D ad (xG ad K mm) N) (inW ad N)) 0 0 (inW ad N) := by
  refine s_metI (by decide) (Nat.le_of_ble_eq_true rfl) ?_
  intro p e s m below meth c ls args Q hE hB hl kr
  have hE : CallFix p m c cX4_isWord 3 s args tbG "TaleCourt$Reader" := hE
  obtain ⟨⟨hP, hK, hN⟩, hT, hTR⟩ := hB
  have hS : va_S (inW ad N) s.heap s.heap [] := va_S.rf
  have hl : lv_has ls 3 [(0, .ref (ad 1)), (1, .ref (tk 15))] := hl
  refine lv_aload_n hE.1 hE.2.1 dX4_isWord_0 rfl (lv_at hl 0 rfl) ?_
  obtain ⟨z1, hz1, ez1⟩ := iI_of (v 1 6)
  refine x_get (x := .int (v 1 6)) hE hK hP 1 (Nat.lt_of_lt_of_le (by decide) hNN) (xG_4 rfl) rfl hin4 6 (by decide) mw_155 rfl dX4_isWord_1 ?_
  refine x_top (y := iI (z1)) ez1 ?_
  refine lv_iconst (v := iI (2)) hE.1 hE.2.1 dX4_isWord_4 (by decide) ?_
  refine s_icmp_ne (a := z1) (b := 2) (tgt := 24) hE.1 hE.2.1 (by omega) (by omega) dX4_isWord_5 (by decide) (fun c2 => ?_) (fun c2 => ?_)
  · skip
    refine lv_iconst (v := iI (0)) hE.1 hE.2.1 dX4_isWord_24 (by decide) ?_
    exact kr _ v ar al _ _ _ _ (nar01 (by omega)) ⟨⟨0, by omega, rfl⟩, hI, fun i j h => rfl⟩ hP hS dX4_isWord_25
  · skip
    refine lv_aload_n hE.1 hE.2.1 dX4_isWord_8 rfl (lv_at hl 0 rfl) ?_
    obtain ⟨z3, hz3, ez3⟩ := iI_of (v 1 5)
    refine x_get (x := .int (v 1 5)) hE hK hP 1 (Nat.lt_of_lt_of_le (by decide) hNN) (xG_4 rfl) rfl hin4 5 (by decide) mw_154 rfl dX4_isWord_9 ?_
    refine x_top (y := iI (z3)) ez3 ?_
    refine lv_aload_n hE.1 hE.2.1 dX4_isWord_12 rfl (lv_at hl 0 rfl) ?_
    obtain ⟨z4, hz4, ez4⟩ := iI_of (v 1 4)
    refine x_get (x := .int (v 1 4)) hE hK hP 1 (Nat.lt_of_lt_of_le (by decide) hNN) (xG_4 rfl) rfl hin4 4 (by decide) mw_153 rfl dX4_isWord_13 ?_
    refine x_top (y := iI (z4)) ez4 ?_
    refine lv_isub hE.1 hE.2.1 dX4_isWord_16 ?_
    obtain ⟨z5, hz5, ez5⟩ := iI_of (iI (z3) - iI (z4))
    refine x_top ez5 ?_
    refine lv_aload_n hE.1 hE.2.1 dX4_isWord_17 rfl (lv_at hl 1 rfl) ?_
    refine x_vp (nn := 0) (As := []) (rest := [.int (iI (z5))]) hE (t_length l tk tv (inW ad N) 15 (by decide) 6 rfl) tP_blind (tP_now hT hS) (vk_recv hT.1 (by decide) hS) rfl mw_566 mw_567 mw_568 mw_125 mw_569 (by decide +kernel) ⟨by decide, by decide⟩ hl.1 rfl (Nat.le_of_ble_eq_true rfl) ⟨Nat.zero_le _, Nat.zero_le _⟩ dX4_isWord_18 (fun r6 hr6 => ?_)
    subst hr6
    refine s_icmp_eq (a := z5) (b := 6) (tgt := 26) hE.1 hE.2.1 (by omega) (by omega) dX4_isWord_21 (by decide) (fun c7 => ?_) (fun c7 => ?_)
    · skip
      refine lv_iconst (v := iI (0)) hE.1 hE.2.1 dX4_isWord_26 (by decide) ?_
      refine lv_istore_n (lv' := [(2, .int (iI (0))), (0, .ref (ad 1)), (1, .ref (tk 15))]) hE.1 hE.2.1 dX4_isWord_27 rfl hl (by decide) rfl (fun ls hl => ?_)
      have loop8 : ∀ (k8 : Nat) (y8_2 : Int) (vl8 arl8 : sI) (all8 : sL) (H : Heap) (locs : List Loc) (ls : Array Slot), (8 - y8_2).toNat = k8 → (0 ≤ y8_2 ∧ y8_2 ≤ 8) → XI vl8 → (∀ i j : Nat, (i, j) ∉ ([] : List (Nat × Nat)) → vl8 i j = v i j) → va_P D xcl (wW ad (xG ad K mm) N vl8 arl8 all8) H → va_S (inW ad N) s.heap H locs → lv_has ls 3 [(2, .int (iI (y8_2))), (0, .ref (ad 1)), (1, .ref (tk 15))] → W p l e (rmD 4) s m args below meth c H locs 0 0 Q (F0 m 28 ls []) := by
        intro k8
        induction k8 using Nat.strongRecOn with
        | _ k8 ih8 =>
          intro y8_2 vl8 arl8 all8 H locs ls hk8 hb_y8_2 hI hfr8 hP hS hl
          refine lv_iload_n hE.1 hE.2.1 dX4_isWord_28 rfl (lv_at hl 0 rfl) ?_
          refine lv_aload_n hE.1 hE.2.1 dX4_isWord_29 rfl (lv_at hl 2 rfl) ?_
          refine x_vp (nn := 0) (As := []) (rest := [.int (iI (y8_2))]) hE (t_length l tk tv (inW ad N) 15 (by decide) 6 rfl) tP_blind (tP_now hT hS) (vk_recv hT.1 (by decide) hS) rfl mw_566 mw_567 mw_568 mw_125 mw_569 (by decide +kernel) ⟨by decide, by decide⟩ hl.1 rfl (Nat.le_of_ble_eq_true rfl) ⟨Nat.zero_le _, Nat.zero_le _⟩ dX4_isWord_30 (fun r9 hr9 => ?_)
          subst hr9
          refine s_icmp_ge (a := y8_2) (b := 6) (tgt := 62) hE.1 hE.2.1 (by omega) (by omega) dX4_isWord_33 (by decide) (fun c10 => ?_) (fun c10 => ?_)
          · skip
            refine lv_iconst (v := iI (1)) hE.1 hE.2.1 dX4_isWord_62 (by decide) ?_
            exact kr _ vl8 arl8 all8 _ _ _ _ (nar01 (by omega)) ⟨⟨1, by omega, rfl⟩, hI, fun i j h => (hfr8 i j (fun q => h (mem_sub (by decide) q)))⟩ hP hS dX4_isWord_63
          · skip
            refine lv_aload_n hE.1 hE.2.1 dX4_isWord_36 rfl (lv_at hl 1 rfl) ?_
            refine lv_aload_n hE.1 hE.2.1 dX4_isWord_37 rfl (lv_at hl 1 rfl) ?_
            refine x_get (x := .int (vl8 1 4)) hE hK hP 1 (Nat.lt_of_lt_of_le (by decide) hNN) (xG_4 rfl) rfl hin4 4 (by decide) mw_153 rfl dX4_isWord_38 ?_
            refine x_top (y := iI (z4)) ((hfr8 1 4 (by decide)).trans ez4) ?_
            refine lv_iload_n hE.1 hE.2.1 dX4_isWord_41 rfl (lv_at hl 0 rfl) ?_
            refine lv_iadd hE.1 hE.2.1 dX4_isWord_42 ?_
            obtain ⟨z11, hz11, ez11⟩ := iI_of (iI (z4) + iI (y8_2))
            refine x_top ez11 ?_
            refine x_vp (nn := 1) (As := [.int (iI (z11))]) (rest := []) hE (s_X4_byteAt_1 l D K ad mm N hNN vl8 arl8 all8 hI  (z11) (by omega)) wPre_blind (wPre_now hK hN hP) (x_recv hK hP 1 (Nat.lt_of_lt_of_le (by decide) hNN) (xG_4 rfl) rfl) rfl mw_542 mw_544 mw_1 mw_115 mw_545 (by decide +kernel) ⟨by decide, by decide⟩ hl.1 rfl (Nat.le_of_ble_eq_true rfl) ⟨Nat.zero_le _, Nat.zero_le _⟩ dX4_isWord_43 (fun r12 hr12 => ?_)
            obtain ⟨z12, hz12, rfl⟩ := hr12
            refine lv_aload_n hE.1 hE.2.1 dX4_isWord_46 rfl (lv_at hl 2 rfl) ?_
            refine lv_iload_n hE.1 hE.2.1 dX4_isWord_47 rfl (lv_at hl 0 rfl) ?_
            refine x_vp (nn := 1) (As := [.int (iI (y8_2))]) (rest := [.int (iI (z12))]) hE (t_charAt l tk tv (inW ad N) 15 (by decide) (y8_2) (show 0 ≤ y8_2 ∧ y8_2 < ((6 : Nat) : Int) by omega)) tP_blind (tP_now hT hS) (vk_recv hT.1 (by decide) hS) rfl mw_576 mw_577 mw_578 mw_125 mw_579 (by decide +kernel) ⟨by decide, by decide⟩ hl.1 rfl (Nat.le_of_ble_eq_true rfl) ⟨Nat.zero_le _, Nat.zero_le _⟩ dX4_isWord_48 (fun r13 _ => ?_)
            obtain ⟨z13, hz13, rfl⟩ := iI_of r13
            refine s_icmp_eq (a := z12) (b := z13) (tgt := 56) hE.1 hE.2.1 (by omega) (by omega) dX4_isWord_51 (by decide) (fun c14 => ?_) (fun c14 => ?_)
            · skip
              refine lv_iinc (v := iI (y8_2 + 1)) (lv' := [(2, .int (iI (y8_2 + 1))), (0, .ref (ad 1)), (1, .ref (tk 15))]) hE.1 hE.2.1 dX4_isWord_56 hl (k := 0) rfl ((iI_add (y8_2) (1)).trans (congrArg iI (by omega))) (by decide) rfl (fun ls hl => ?_)
              refine lv_goto (tgt := 28) hE.1 hE.2.1 dX4_isWord_59 (by decide) ?_
              exact ih8 _ (by omega) (y8_2 + 1) vl8 arl8 all8 _ _ _ rfl (by omega) hI (fun i j h => (hfr8 i j h)) hP hS (lv_sub hl [0, 1, 2] rfl)
            · skip
              refine lv_iconst (v := iI (0)) hE.1 hE.2.1 dX4_isWord_54 (by decide) ?_
              exact kr _ vl8 arl8 all8 _ _ _ _ (nar01 (by omega)) ⟨⟨0, by omega, rfl⟩, hI, fun i j h => (hfr8 i j (fun q => h (mem_sub (by decide) q)))⟩ hP hS dX4_isWord_55
      exact loop8 _ (0) v ar al _ _ _ rfl (by omega) hI (fun _ _ _ => rfl) hP hS hl
    · skip
      refine lv_iconst (v := iI (0)) hE.1 hE.2.1 dX4_isWord_24 (by decide) ?_
      exact kr _ v ar al _ _ _ _ (nar01 (by omega)) ⟨⟨0, by omega, rfl⟩, hI, fun i j h => rfl⟩ hP hS dX4_isWord_25

set_option maxHeartbeats 4000000 in
set_option maxRecDepth 100000 in
theorem s_X4_isWord_1_1016 (l : Launch) (D : va_G) (K : Nat → ClassId) (ad : Nat → Nat) (mm : Option Nat) (N : Nat) (hNN : 132 ≤ N) (v ar : sI) (al : sL) (hI : XI v) (tk tv : Nat → Nat) : Met l yX4_isWord (wM yX4_isWord cX4_isWord 3 (some .boolean)) (rmD 4) (va_Pc [.ref (ad 1), .ref (tk 16)] (twPre D K ad (xG ad K mm) N v ar al tk tv)) (va_Qi (fun (r : Int32) (u : sT) => (∃ z : Int, (0 ≤ z ∧ z ≤ 1) ∧ r = iI z) ∧ XI u.1 ∧ (∀ i j : Nat, (i, j) ∉ ([] : List (Nat × Nat)) → u.1 i j = v i j)) (wB D ad (xG ad K mm) N) (inW ad N)) 0 0 (inW ad N) := by
  refine s_metI (by decide) (Nat.le_of_ble_eq_true rfl) ?_
  intro p e s m below meth c ls args Q hE hB hl kr
  have hE : CallFix p m c cX4_isWord 3 s args tbG "TaleCourt$Reader" := hE
  obtain ⟨⟨hP, hK, hN⟩, hT, hTR⟩ := hB
  have hS : va_S (inW ad N) s.heap s.heap [] := va_S.rf
  have hl : lv_has ls 3 [(0, .ref (ad 1)), (1, .ref (tk 16))] := hl
  refine lv_aload_n hE.1 hE.2.1 dX4_isWord_0 rfl (lv_at hl 0 rfl) ?_
  obtain ⟨z1, hz1, ez1⟩ := iI_of (v 1 6)
  refine x_get (x := .int (v 1 6)) hE hK hP 1 (Nat.lt_of_lt_of_le (by decide) hNN) (xG_4 rfl) rfl hin4 6 (by decide) mw_155 rfl dX4_isWord_1 ?_
  refine x_top (y := iI (z1)) ez1 ?_
  refine lv_iconst (v := iI (2)) hE.1 hE.2.1 dX4_isWord_4 (by decide) ?_
  refine s_icmp_ne (a := z1) (b := 2) (tgt := 24) hE.1 hE.2.1 (by omega) (by omega) dX4_isWord_5 (by decide) (fun c2 => ?_) (fun c2 => ?_)
  · skip
    refine lv_iconst (v := iI (0)) hE.1 hE.2.1 dX4_isWord_24 (by decide) ?_
    exact kr _ v ar al _ _ _ _ (nar01 (by omega)) ⟨⟨0, by omega, rfl⟩, hI, fun i j h => rfl⟩ hP hS dX4_isWord_25
  · skip
    refine lv_aload_n hE.1 hE.2.1 dX4_isWord_8 rfl (lv_at hl 0 rfl) ?_
    obtain ⟨z3, hz3, ez3⟩ := iI_of (v 1 5)
    refine x_get (x := .int (v 1 5)) hE hK hP 1 (Nat.lt_of_lt_of_le (by decide) hNN) (xG_4 rfl) rfl hin4 5 (by decide) mw_154 rfl dX4_isWord_9 ?_
    refine x_top (y := iI (z3)) ez3 ?_
    refine lv_aload_n hE.1 hE.2.1 dX4_isWord_12 rfl (lv_at hl 0 rfl) ?_
    obtain ⟨z4, hz4, ez4⟩ := iI_of (v 1 4)
    refine x_get (x := .int (v 1 4)) hE hK hP 1 (Nat.lt_of_lt_of_le (by decide) hNN) (xG_4 rfl) rfl hin4 4 (by decide) mw_153 rfl dX4_isWord_13 ?_
    refine x_top (y := iI (z4)) ez4 ?_
    refine lv_isub hE.1 hE.2.1 dX4_isWord_16 ?_
    obtain ⟨z5, hz5, ez5⟩ := iI_of (iI (z3) - iI (z4))
    refine x_top ez5 ?_
    refine lv_aload_n hE.1 hE.2.1 dX4_isWord_17 rfl (lv_at hl 1 rfl) ?_
    refine x_vp (nn := 0) (As := []) (rest := [.int (iI (z5))]) hE (t_length l tk tv (inW ad N) 16 (by decide) 8 rfl) tP_blind (tP_now hT hS) (vk_recv hT.1 (by decide) hS) rfl mw_566 mw_567 mw_568 mw_125 mw_569 (by decide +kernel) ⟨by decide, by decide⟩ hl.1 rfl (Nat.le_of_ble_eq_true rfl) ⟨Nat.zero_le _, Nat.zero_le _⟩ dX4_isWord_18 (fun r6 hr6 => ?_)
    subst hr6
    refine s_icmp_eq (a := z5) (b := 8) (tgt := 26) hE.1 hE.2.1 (by omega) (by omega) dX4_isWord_21 (by decide) (fun c7 => ?_) (fun c7 => ?_)
    · skip
      refine lv_iconst (v := iI (0)) hE.1 hE.2.1 dX4_isWord_26 (by decide) ?_
      refine lv_istore_n (lv' := [(2, .int (iI (0))), (0, .ref (ad 1)), (1, .ref (tk 16))]) hE.1 hE.2.1 dX4_isWord_27 rfl hl (by decide) rfl (fun ls hl => ?_)
      have loop8 : ∀ (k8 : Nat) (y8_2 : Int) (vl8 arl8 : sI) (all8 : sL) (H : Heap) (locs : List Loc) (ls : Array Slot), (8 - y8_2).toNat = k8 → (0 ≤ y8_2 ∧ y8_2 ≤ 8) → XI vl8 → (∀ i j : Nat, (i, j) ∉ ([] : List (Nat × Nat)) → vl8 i j = v i j) → va_P D xcl (wW ad (xG ad K mm) N vl8 arl8 all8) H → va_S (inW ad N) s.heap H locs → lv_has ls 3 [(2, .int (iI (y8_2))), (0, .ref (ad 1)), (1, .ref (tk 16))] → W p l e (rmD 4) s m args below meth c H locs 0 0 Q (F0 m 28 ls []) := by
        intro k8
        induction k8 using Nat.strongRecOn with
        | _ k8 ih8 =>
          intro y8_2 vl8 arl8 all8 H locs ls hk8 hb_y8_2 hI hfr8 hP hS hl
          refine lv_iload_n hE.1 hE.2.1 dX4_isWord_28 rfl (lv_at hl 0 rfl) ?_
          refine lv_aload_n hE.1 hE.2.1 dX4_isWord_29 rfl (lv_at hl 2 rfl) ?_
          refine x_vp (nn := 0) (As := []) (rest := [.int (iI (y8_2))]) hE (t_length l tk tv (inW ad N) 16 (by decide) 8 rfl) tP_blind (tP_now hT hS) (vk_recv hT.1 (by decide) hS) rfl mw_566 mw_567 mw_568 mw_125 mw_569 (by decide +kernel) ⟨by decide, by decide⟩ hl.1 rfl (Nat.le_of_ble_eq_true rfl) ⟨Nat.zero_le _, Nat.zero_le _⟩ dX4_isWord_30 (fun r9 hr9 => ?_)
          subst hr9
          refine s_icmp_ge (a := y8_2) (b := 8) (tgt := 62) hE.1 hE.2.1 (by omega) (by omega) dX4_isWord_33 (by decide) (fun c10 => ?_) (fun c10 => ?_)
          · skip
            refine lv_iconst (v := iI (1)) hE.1 hE.2.1 dX4_isWord_62 (by decide) ?_
            exact kr _ vl8 arl8 all8 _ _ _ _ (nar01 (by omega)) ⟨⟨1, by omega, rfl⟩, hI, fun i j h => (hfr8 i j (fun q => h (mem_sub (by decide) q)))⟩ hP hS dX4_isWord_63
          · skip
            refine lv_aload_n hE.1 hE.2.1 dX4_isWord_36 rfl (lv_at hl 1 rfl) ?_
            refine lv_aload_n hE.1 hE.2.1 dX4_isWord_37 rfl (lv_at hl 1 rfl) ?_
            refine x_get (x := .int (vl8 1 4)) hE hK hP 1 (Nat.lt_of_lt_of_le (by decide) hNN) (xG_4 rfl) rfl hin4 4 (by decide) mw_153 rfl dX4_isWord_38 ?_
            refine x_top (y := iI (z4)) ((hfr8 1 4 (by decide)).trans ez4) ?_
            refine lv_iload_n hE.1 hE.2.1 dX4_isWord_41 rfl (lv_at hl 0 rfl) ?_
            refine lv_iadd hE.1 hE.2.1 dX4_isWord_42 ?_
            obtain ⟨z11, hz11, ez11⟩ := iI_of (iI (z4) + iI (y8_2))
            refine x_top ez11 ?_
            refine x_vp (nn := 1) (As := [.int (iI (z11))]) (rest := []) hE (s_X4_byteAt_1 l D K ad mm N hNN vl8 arl8 all8 hI  (z11) (by omega)) wPre_blind (wPre_now hK hN hP) (x_recv hK hP 1 (Nat.lt_of_lt_of_le (by decide) hNN) (xG_4 rfl) rfl) rfl mw_542 mw_544 mw_1 mw_115 mw_545 (by decide +kernel) ⟨by decide, by decide⟩ hl.1 rfl (Nat.le_of_ble_eq_true rfl) ⟨Nat.zero_le _, Nat.zero_le _⟩ dX4_isWord_43 (fun r12 hr12 => ?_)
            obtain ⟨z12, hz12, rfl⟩ := hr12
            refine lv_aload_n hE.1 hE.2.1 dX4_isWord_46 rfl (lv_at hl 2 rfl) ?_
            refine lv_iload_n hE.1 hE.2.1 dX4_isWord_47 rfl (lv_at hl 0 rfl) ?_
            refine x_vp (nn := 1) (As := [.int (iI (y8_2))]) (rest := [.int (iI (z12))]) hE (t_charAt l tk tv (inW ad N) 16 (by decide) (y8_2) (show 0 ≤ y8_2 ∧ y8_2 < ((8 : Nat) : Int) by omega)) tP_blind (tP_now hT hS) (vk_recv hT.1 (by decide) hS) rfl mw_576 mw_577 mw_578 mw_125 mw_579 (by decide +kernel) ⟨by decide, by decide⟩ hl.1 rfl (Nat.le_of_ble_eq_true rfl) ⟨Nat.zero_le _, Nat.zero_le _⟩ dX4_isWord_48 (fun r13 _ => ?_)
            obtain ⟨z13, hz13, rfl⟩ := iI_of r13
            refine s_icmp_eq (a := z12) (b := z13) (tgt := 56) hE.1 hE.2.1 (by omega) (by omega) dX4_isWord_51 (by decide) (fun c14 => ?_) (fun c14 => ?_)
            · skip
              refine lv_iinc (v := iI (y8_2 + 1)) (lv' := [(2, .int (iI (y8_2 + 1))), (0, .ref (ad 1)), (1, .ref (tk 16))]) hE.1 hE.2.1 dX4_isWord_56 hl (k := 0) rfl ((iI_add (y8_2) (1)).trans (congrArg iI (by omega))) (by decide) rfl (fun ls hl => ?_)
              refine lv_goto (tgt := 28) hE.1 hE.2.1 dX4_isWord_59 (by decide) ?_
              exact ih8 _ (by omega) (y8_2 + 1) vl8 arl8 all8 _ _ _ rfl (by omega) hI (fun i j h => (hfr8 i j h)) hP hS (lv_sub hl [0, 1, 2] rfl)
            · skip
              refine lv_iconst (v := iI (0)) hE.1 hE.2.1 dX4_isWord_54 (by decide) ?_
              exact kr _ vl8 arl8 all8 _ _ _ _ (nar01 (by omega)) ⟨⟨0, by omega, rfl⟩, hI, fun i j h => (hfr8 i j (fun q => h (mem_sub (by decide) q)))⟩ hP hS dX4_isWord_55
      exact loop8 _ (0) v ar al _ _ _ rfl (by omega) hI (fun _ _ _ => rfl) hP hS hl
    · skip
      refine lv_iconst (v := iI (0)) hE.1 hE.2.1 dX4_isWord_24 (by decide) ?_
      exact kr _ v ar al _ _ _ _ (nar01 (by omega)) ⟨⟨0, by omega, rfl⟩, hI, fun i j h => rfl⟩ hP hS dX4_isWord_25

theorem dX4_fail_0 : decode cX4_fail 0 = .ok (.aload_n 0, 1) := by decide +kernel
theorem dX4_fail_1 : decode cX4_fail 1 = .ok (.getfield 27, 3) := by decide +kernel
theorem dX4_fail_4 : decode cX4_fail 4 = .ok (.ifCond .ne 16, 3) := by decide +kernel
theorem dX4_fail_7 : decode cX4_fail 7 = .ok (.aload_n 0, 1) := by decide +kernel
theorem dX4_fail_8 : decode cX4_fail 8 = .ok (.iload_n 1, 1) := by decide +kernel
theorem dX4_fail_9 : decode cX4_fail 9 = .ok (.putfield 27, 3) := by decide +kernel
theorem dX4_fail_12 : decode cX4_fail 12 = .ok (.aload_n 0, 1) := by decide +kernel
theorem dX4_fail_13 : decode cX4_fail 13 = .ok (.aload_n 0, 1) := by decide +kernel
theorem dX4_fail_14 : decode cX4_fail 14 = .ok (.getfield 172, 3) := by decide +kernel
theorem dX4_fail_17 : decode cX4_fail 17 = .ok (.putfield 9, 3) := by decide +kernel
theorem dX4_fail_20 : decode cX4_fail 20 = .ok (.return_, 1) := by decide +kernel
set_option maxHeartbeats 4000000 in
set_option maxRecDepth 100000 in
theorem s_X4_fail_1 (l : Launch) (D : va_G) (K : Nat → ClassId) (ad : Nat → Nat) (mm : Option Nat) (N : Nat) (hNN : 132 ≤ N) (v ar : sI) (al : sL) (hI : XI v) (z_1 : Int) (hz_1 : -2147483648 ≤ z_1 ∧ z_1 ≤ 2147483647) : Met l yX4_fail (wM yX4_fail cX4_fail 2 none) (rmD 0) (va_Pc [.ref (ad 1), .int (iI (z_1))] (wPre D K ad (xG ad K mm) N v ar al)) (va_Qv (fun u : sT => XI u.1 ∧ (∀ i j : Nat, (i, j) ∉ ([(1, 1), (1, 2)] : List (Nat × Nat)) → u.1 i j = v i j)) (wB D ad (xG ad K mm) N) (inW ad N)) 0 0 (inW ad N) := by
  refine s_metV (by decide) (Nat.le_of_ble_eq_true rfl) ?_
  intro p e s m below meth c ls args Q hE hB hl kr
  have hE : CallFix p m c cX4_fail 2 s args tbG "TaleCourt$Reader" := hE
  obtain ⟨hP, hK, hN⟩ := hB
  have hS : va_S (inW ad N) s.heap s.heap [] := va_S.rf
  have hl : lv_has ls 2 [(0, .ref (ad 1)), (1, .int (iI (z_1)))] := hl
  refine lv_aload_n hE.1 hE.2.1 dX4_fail_0 rfl (lv_at hl 0 rfl) ?_
  obtain ⟨z1, hz1, ez1⟩ := iI_of (v 1 1)
  refine x_get (x := .int (v 1 1)) hE hK hP 1 (Nat.lt_of_lt_of_le (by decide) hNN) (xG_4 rfl) rfl hin4 1 (by decide) mw_148 rfl dX4_fail_1 ?_
  refine x_top (y := iI (z1)) ez1 ?_
  refine s_if_ne (a := z1) (tgt := 20) hE.1 hE.2.1 (by omega) dX4_fail_4 (by decide) (fun c2 => ?_) (fun c2 => ?_)
  · skip
    exact kr _ _ _ _ _ _ _ ⟨hI, fun i j h => rfl⟩ hP hS dX4_fail_20
  · skip
    refine lv_aload_n hE.1 hE.2.1 dX4_fail_7 rfl (lv_at hl 0 rfl) ?_
    refine lv_iload_n hE.1 hE.2.1 dX4_fail_8 rfl (lv_at hl 1 rfl) ?_
    refine x_put (x := iI (z_1)) hE hK hN hP hS 1 (Nat.lt_of_lt_of_le (by decide) hNN) (xG_4 rfl) rfl hin4 tyX4 tyX4_ok nmX4 1 (by decide) mw_148 rfl rfl rfl (Nat.le_of_ble_eq_true rfl) (xG_4 rfl) dX4_fail_9 (fun v3 H locs hv3 hP hS => ?_)
    have hI := XI_putN hI hv3 (by decide)
    refine lv_aload_n hE.1 hE.2.1 dX4_fail_12 rfl (lv_at hl 0 rfl) ?_
    refine lv_aload_n hE.1 hE.2.1 dX4_fail_13 rfl (lv_at hl 0 rfl) ?_
    obtain ⟨z4, hz4, ez4⟩ := iI_of (v3 1 4)
    refine x_get (x := .int (v3 1 4)) hE hK hP 1 (Nat.lt_of_lt_of_le (by decide) hNN) (xG_4 rfl) rfl hin4 4 (by decide) mw_153 rfl dX4_fail_14 ?_
    refine x_top (y := iI (z4)) ez4 ?_
    refine x_put (x := iI (z4)) hE hK hN hP hS 1 (Nat.lt_of_lt_of_le (by decide) hNN) (xG_4 rfl) rfl hin4 tyX4 tyX4_ok nmX4 2 (by decide) mw_150 rfl rfl rfl (Nat.le_of_ble_eq_true rfl) (xG_4 rfl) dX4_fail_17 (fun v5 H locs hv5 hP hS => ?_)
    have hI := XI_putN hI hv5 (by decide)
    exact kr _ _ _ _ _ _ _ ⟨hI, fun i j h => ((up_oth hv5 (fun q => h (by rcases q with ⟨rfl, rfl⟩; decide))).trans (up_oth hv3 (fun q => h (by rcases q with ⟨rfl, rfl⟩; decide))))⟩ hP hS dX4_fail_20

set_option maxHeartbeats 4000000 in
set_option maxRecDepth 100000 in
theorem s_X4_isWord_1_1017 (l : Launch) (D : va_G) (K : Nat → ClassId) (ad : Nat → Nat) (mm : Option Nat) (N : Nat) (hNN : 132 ≤ N) (v ar : sI) (al : sL) (hI : XI v) (tk tv : Nat → Nat) : Met l yX4_isWord (wM yX4_isWord cX4_isWord 3 (some .boolean)) (rmD 4) (va_Pc [.ref (ad 1), .ref (tk 17)] (twPre D K ad (xG ad K mm) N v ar al tk tv)) (va_Qi (fun (r : Int32) (u : sT) => (∃ z : Int, (0 ≤ z ∧ z ≤ 1) ∧ r = iI z) ∧ XI u.1 ∧ (∀ i j : Nat, (i, j) ∉ ([] : List (Nat × Nat)) → u.1 i j = v i j)) (wB D ad (xG ad K mm) N) (inW ad N)) 0 0 (inW ad N) := by
  refine s_metI (by decide) (Nat.le_of_ble_eq_true rfl) ?_
  intro p e s m below meth c ls args Q hE hB hl kr
  have hE : CallFix p m c cX4_isWord 3 s args tbG "TaleCourt$Reader" := hE
  obtain ⟨⟨hP, hK, hN⟩, hT, hTR⟩ := hB
  have hS : va_S (inW ad N) s.heap s.heap [] := va_S.rf
  have hl : lv_has ls 3 [(0, .ref (ad 1)), (1, .ref (tk 17))] := hl
  refine lv_aload_n hE.1 hE.2.1 dX4_isWord_0 rfl (lv_at hl 0 rfl) ?_
  obtain ⟨z1, hz1, ez1⟩ := iI_of (v 1 6)
  refine x_get (x := .int (v 1 6)) hE hK hP 1 (Nat.lt_of_lt_of_le (by decide) hNN) (xG_4 rfl) rfl hin4 6 (by decide) mw_155 rfl dX4_isWord_1 ?_
  refine x_top (y := iI (z1)) ez1 ?_
  refine lv_iconst (v := iI (2)) hE.1 hE.2.1 dX4_isWord_4 (by decide) ?_
  refine s_icmp_ne (a := z1) (b := 2) (tgt := 24) hE.1 hE.2.1 (by omega) (by omega) dX4_isWord_5 (by decide) (fun c2 => ?_) (fun c2 => ?_)
  · skip
    refine lv_iconst (v := iI (0)) hE.1 hE.2.1 dX4_isWord_24 (by decide) ?_
    exact kr _ v ar al _ _ _ _ (nar01 (by omega)) ⟨⟨0, by omega, rfl⟩, hI, fun i j h => rfl⟩ hP hS dX4_isWord_25
  · skip
    refine lv_aload_n hE.1 hE.2.1 dX4_isWord_8 rfl (lv_at hl 0 rfl) ?_
    obtain ⟨z3, hz3, ez3⟩ := iI_of (v 1 5)
    refine x_get (x := .int (v 1 5)) hE hK hP 1 (Nat.lt_of_lt_of_le (by decide) hNN) (xG_4 rfl) rfl hin4 5 (by decide) mw_154 rfl dX4_isWord_9 ?_
    refine x_top (y := iI (z3)) ez3 ?_
    refine lv_aload_n hE.1 hE.2.1 dX4_isWord_12 rfl (lv_at hl 0 rfl) ?_
    obtain ⟨z4, hz4, ez4⟩ := iI_of (v 1 4)
    refine x_get (x := .int (v 1 4)) hE hK hP 1 (Nat.lt_of_lt_of_le (by decide) hNN) (xG_4 rfl) rfl hin4 4 (by decide) mw_153 rfl dX4_isWord_13 ?_
    refine x_top (y := iI (z4)) ez4 ?_
    refine lv_isub hE.1 hE.2.1 dX4_isWord_16 ?_
    obtain ⟨z5, hz5, ez5⟩ := iI_of (iI (z3) - iI (z4))
    refine x_top ez5 ?_
    refine lv_aload_n hE.1 hE.2.1 dX4_isWord_17 rfl (lv_at hl 1 rfl) ?_
    refine x_vp (nn := 0) (As := []) (rest := [.int (iI (z5))]) hE (t_length l tk tv (inW ad N) 17 (by decide) 5 rfl) tP_blind (tP_now hT hS) (vk_recv hT.1 (by decide) hS) rfl mw_566 mw_567 mw_568 mw_125 mw_569 (by decide +kernel) ⟨by decide, by decide⟩ hl.1 rfl (Nat.le_of_ble_eq_true rfl) ⟨Nat.zero_le _, Nat.zero_le _⟩ dX4_isWord_18 (fun r6 hr6 => ?_)
    subst hr6
    refine s_icmp_eq (a := z5) (b := 5) (tgt := 26) hE.1 hE.2.1 (by omega) (by omega) dX4_isWord_21 (by decide) (fun c7 => ?_) (fun c7 => ?_)
    · skip
      refine lv_iconst (v := iI (0)) hE.1 hE.2.1 dX4_isWord_26 (by decide) ?_
      refine lv_istore_n (lv' := [(2, .int (iI (0))), (0, .ref (ad 1)), (1, .ref (tk 17))]) hE.1 hE.2.1 dX4_isWord_27 rfl hl (by decide) rfl (fun ls hl => ?_)
      have loop8 : ∀ (k8 : Nat) (y8_2 : Int) (vl8 arl8 : sI) (all8 : sL) (H : Heap) (locs : List Loc) (ls : Array Slot), (8 - y8_2).toNat = k8 → (0 ≤ y8_2 ∧ y8_2 ≤ 8) → XI vl8 → (∀ i j : Nat, (i, j) ∉ ([] : List (Nat × Nat)) → vl8 i j = v i j) → va_P D xcl (wW ad (xG ad K mm) N vl8 arl8 all8) H → va_S (inW ad N) s.heap H locs → lv_has ls 3 [(2, .int (iI (y8_2))), (0, .ref (ad 1)), (1, .ref (tk 17))] → W p l e (rmD 4) s m args below meth c H locs 0 0 Q (F0 m 28 ls []) := by
        intro k8
        induction k8 using Nat.strongRecOn with
        | _ k8 ih8 =>
          intro y8_2 vl8 arl8 all8 H locs ls hk8 hb_y8_2 hI hfr8 hP hS hl
          refine lv_iload_n hE.1 hE.2.1 dX4_isWord_28 rfl (lv_at hl 0 rfl) ?_
          refine lv_aload_n hE.1 hE.2.1 dX4_isWord_29 rfl (lv_at hl 2 rfl) ?_
          refine x_vp (nn := 0) (As := []) (rest := [.int (iI (y8_2))]) hE (t_length l tk tv (inW ad N) 17 (by decide) 5 rfl) tP_blind (tP_now hT hS) (vk_recv hT.1 (by decide) hS) rfl mw_566 mw_567 mw_568 mw_125 mw_569 (by decide +kernel) ⟨by decide, by decide⟩ hl.1 rfl (Nat.le_of_ble_eq_true rfl) ⟨Nat.zero_le _, Nat.zero_le _⟩ dX4_isWord_30 (fun r9 hr9 => ?_)
          subst hr9
          refine s_icmp_ge (a := y8_2) (b := 5) (tgt := 62) hE.1 hE.2.1 (by omega) (by omega) dX4_isWord_33 (by decide) (fun c10 => ?_) (fun c10 => ?_)
          · skip
            refine lv_iconst (v := iI (1)) hE.1 hE.2.1 dX4_isWord_62 (by decide) ?_
            exact kr _ vl8 arl8 all8 _ _ _ _ (nar01 (by omega)) ⟨⟨1, by omega, rfl⟩, hI, fun i j h => (hfr8 i j (fun q => h (mem_sub (by decide) q)))⟩ hP hS dX4_isWord_63
          · skip
            refine lv_aload_n hE.1 hE.2.1 dX4_isWord_36 rfl (lv_at hl 1 rfl) ?_
            refine lv_aload_n hE.1 hE.2.1 dX4_isWord_37 rfl (lv_at hl 1 rfl) ?_
            refine x_get (x := .int (vl8 1 4)) hE hK hP 1 (Nat.lt_of_lt_of_le (by decide) hNN) (xG_4 rfl) rfl hin4 4 (by decide) mw_153 rfl dX4_isWord_38 ?_
            refine x_top (y := iI (z4)) ((hfr8 1 4 (by decide)).trans ez4) ?_
            refine lv_iload_n hE.1 hE.2.1 dX4_isWord_41 rfl (lv_at hl 0 rfl) ?_
            refine lv_iadd hE.1 hE.2.1 dX4_isWord_42 ?_
            obtain ⟨z11, hz11, ez11⟩ := iI_of (iI (z4) + iI (y8_2))
            refine x_top ez11 ?_
            refine x_vp (nn := 1) (As := [.int (iI (z11))]) (rest := []) hE (s_X4_byteAt_1 l D K ad mm N hNN vl8 arl8 all8 hI  (z11) (by omega)) wPre_blind (wPre_now hK hN hP) (x_recv hK hP 1 (Nat.lt_of_lt_of_le (by decide) hNN) (xG_4 rfl) rfl) rfl mw_542 mw_544 mw_1 mw_115 mw_545 (by decide +kernel) ⟨by decide, by decide⟩ hl.1 rfl (Nat.le_of_ble_eq_true rfl) ⟨Nat.zero_le _, Nat.zero_le _⟩ dX4_isWord_43 (fun r12 hr12 => ?_)
            obtain ⟨z12, hz12, rfl⟩ := hr12
            refine lv_aload_n hE.1 hE.2.1 dX4_isWord_46 rfl (lv_at hl 2 rfl) ?_
            refine lv_iload_n hE.1 hE.2.1 dX4_isWord_47 rfl (lv_at hl 0 rfl) ?_
            refine x_vp (nn := 1) (As := [.int (iI (y8_2))]) (rest := [.int (iI (z12))]) hE (t_charAt l tk tv (inW ad N) 17 (by decide) (y8_2) (show 0 ≤ y8_2 ∧ y8_2 < ((5 : Nat) : Int) by omega)) tP_blind (tP_now hT hS) (vk_recv hT.1 (by decide) hS) rfl mw_576 mw_577 mw_578 mw_125 mw_579 (by decide +kernel) ⟨by decide, by decide⟩ hl.1 rfl (Nat.le_of_ble_eq_true rfl) ⟨Nat.zero_le _, Nat.zero_le _⟩ dX4_isWord_48 (fun r13 _ => ?_)
            obtain ⟨z13, hz13, rfl⟩ := iI_of r13
            refine s_icmp_eq (a := z12) (b := z13) (tgt := 56) hE.1 hE.2.1 (by omega) (by omega) dX4_isWord_51 (by decide) (fun c14 => ?_) (fun c14 => ?_)
            · skip
              refine lv_iinc (v := iI (y8_2 + 1)) (lv' := [(2, .int (iI (y8_2 + 1))), (0, .ref (ad 1)), (1, .ref (tk 17))]) hE.1 hE.2.1 dX4_isWord_56 hl (k := 0) rfl ((iI_add (y8_2) (1)).trans (congrArg iI (by omega))) (by decide) rfl (fun ls hl => ?_)
              refine lv_goto (tgt := 28) hE.1 hE.2.1 dX4_isWord_59 (by decide) ?_
              exact ih8 _ (by omega) (y8_2 + 1) vl8 arl8 all8 _ _ _ rfl (by omega) hI (fun i j h => (hfr8 i j h)) hP hS (lv_sub hl [0, 1, 2] rfl)
            · skip
              refine lv_iconst (v := iI (0)) hE.1 hE.2.1 dX4_isWord_54 (by decide) ?_
              exact kr _ vl8 arl8 all8 _ _ _ _ (nar01 (by omega)) ⟨⟨0, by omega, rfl⟩, hI, fun i j h => (hfr8 i j (fun q => h (mem_sub (by decide) q)))⟩ hP hS dX4_isWord_55
      exact loop8 _ (0) v ar al _ _ _ rfl (by omega) hI (fun _ _ _ => rfl) hP hS hl
    · skip
      refine lv_iconst (v := iI (0)) hE.1 hE.2.1 dX4_isWord_24 (by decide) ?_
      exact kr _ v ar al _ _ _ _ (nar01 (by omega)) ⟨⟨0, by omega, rfl⟩, hI, fun i j h => rfl⟩ hP hS dX4_isWord_25

theorem dX4_takeWord_0 : decode cX4_takeWord 0 = .ok (.aload_n 0, 1) := by decide +kernel
theorem dX4_takeWord_1 : decode cX4_takeWord 1 = .ok (.aload_n 1, 1) := by decide +kernel
theorem dX4_takeWord_2 : decode cX4_takeWord 2 = .ok (.invokevirtual 51, 3) := by decide +kernel
theorem dX4_takeWord_5 : decode cX4_takeWord 5 = .ok (.ifCond .eq 10, 3) := by decide +kernel
theorem dX4_takeWord_8 : decode cX4_takeWord 8 = .ok (.aload_n 0, 1) := by decide +kernel
theorem dX4_takeWord_9 : decode cX4_takeWord 9 = .ok (.invokevirtual 33, 3) := by decide +kernel
theorem dX4_takeWord_12 : decode cX4_takeWord 12 = .ok (.goto 8, 3) := by decide +kernel
theorem dX4_takeWord_15 : decode cX4_takeWord 15 = .ok (.aload_n 0, 1) := by decide +kernel
theorem dX4_takeWord_16 : decode cX4_takeWord 16 = .ok (.iconst 1, 1) := by decide +kernel
theorem dX4_takeWord_17 : decode cX4_takeWord 17 = .ok (.invokevirtual 90, 3) := by decide +kernel
theorem dX4_takeWord_20 : decode cX4_takeWord 20 = .ok (.return_, 1) := by decide +kernel
set_option maxHeartbeats 4000000 in
set_option maxRecDepth 100000 in
theorem s_X4_takeWord_1_1017 (l : Launch) (D : va_G) (K : Nat → ClassId) (ad : Nat → Nat) (mm : Option Nat) (N : Nat) (hNN : 132 ≤ N) (v ar : sI) (al : sL) (hI : XI v) (tk tv : Nat → Nat) : Met l yX4_takeWord (wM yX4_takeWord cX4_takeWord 2 none) (rmD 5) (va_Pc [.ref (ad 1), .ref (tk 17)] (twPre D K ad (xG ad K mm) N v ar al tk tv)) (va_Qv (fun u : sT => XI u.1 ∧ (∀ i j : Nat, (i, j) ∉ ([(1, 1), (1, 2), (1, 4), (1, 5), (1, 6)] : List (Nat × Nat)) → u.1 i j = v i j)) (wB D ad (xG ad K mm) N) (inW ad N)) 0 0 (inW ad N) := by
  refine s_metV (by decide) (Nat.le_of_ble_eq_true rfl) ?_
  intro p e s m below meth c ls args Q hE hB hl kr
  have hE : CallFix p m c cX4_takeWord 2 s args tbG "TaleCourt$Reader" := hE
  obtain ⟨⟨hP, hK, hN⟩, hT, hTR⟩ := hB
  have hS : va_S (inW ad N) s.heap s.heap [] := va_S.rf
  have hl : lv_has ls 2 [(0, .ref (ad 1)), (1, .ref (tk 17))] := hl
  refine lv_aload_n hE.1 hE.2.1 dX4_takeWord_0 rfl (lv_at hl 0 rfl) ?_
  refine lv_aload_n hE.1 hE.2.1 dX4_takeWord_1 rfl (lv_at hl 1 rfl) ?_
  refine x_viB (nn := 1) (As := [.ref (tk 17)]) (rest := []) hE hK hN hP hS (s_X4_isWord_1_1017 l D K ad mm N hNN v ar al hI tk tv  ) tw_blind (tw_now hK hN hP hT hTR hS) (x_recv hK hP 1 (Nat.lt_of_lt_of_le (by decide) hNN) (xG_4 rfl) rfl) rfl mw_562 mw_564 mw_5 mw_115 mw_565 (by decide +kernel) ⟨by decide, by decide⟩ hl.1 rfl (Nat.le_of_ble_eq_true rfl) ⟨Nat.zero_le _, Nat.zero_le _⟩ dX4_takeWord_2 (fun r1 v1 ar1 al1 H locs hq1 hP hS => ?_)
  obtain ⟨⟨z1, hz1, rfl⟩, hI, hq1⟩ := hq1
  have hI : XI v1 := hI
  refine s_if_eq (a := z1) (tgt := 15) hE.1 hE.2.1 (by omega) dX4_takeWord_5 (by decide) (fun c2 => ?_) (fun c2 => ?_)
  · skip
    refine lv_aload_n hE.1 hE.2.1 dX4_takeWord_15 rfl (lv_at hl 0 rfl) ?_
    refine lv_iconst (v := iI (1)) hE.1 hE.2.1 dX4_takeWord_16 (by decide) ?_
    refine x_vv (nn := 1) (As := [.int (iI (1))]) (rest := []) hE hK hN hP hS (s_X4_fail_1 l D K ad mm N hNN v1 ar1 al1 hI  (1) (by omega)) (x_recv hK hP 1 (Nat.lt_of_lt_of_le (by decide) hNN) (xG_4 rfl) rfl) rfl mw_614 mw_616 mw_6 mw_115 mw_617 (by decide +kernel) ⟨by decide, by decide⟩ hl.1 rfl (Nat.le_of_ble_eq_true rfl) ⟨Nat.zero_le _, Nat.zero_le _⟩ dX4_takeWord_17 (fun v3 ar3 al3 H locs hq3 hP hS => ?_)
    obtain ⟨hI, hq3⟩ := hq3
    have hI : XI v3 := hI
    exact kr v3 ar3 al3 _ _ _ _ ⟨hI, fun i j h => ((hq3 i j (fun q => h (mem_sub (by decide) q))).trans (hq1 i j (fun q => h (mem_sub (by decide) q))))⟩ hP hS dX4_takeWord_20
  · skip
    refine lv_aload_n hE.1 hE.2.1 dX4_takeWord_8 rfl (lv_at hl 0 rfl) ?_
    refine x_vv (nn := 0) (As := []) (rest := []) hE hK hN hP hS (s_X4_step_1 l D K ad mm N hNN v1 ar1 al1 hI  ) (x_recv hK hP 1 (Nat.lt_of_lt_of_le (by decide) hNN) (xG_4 rfl) rfl) rfl mw_538 mw_540 mw_0 mw_115 mw_541 (by decide +kernel) ⟨by decide, by decide⟩ hl.1 rfl (Nat.le_of_ble_eq_true rfl) ⟨Nat.zero_le _, Nat.zero_le _⟩ dX4_takeWord_9 (fun v4 ar4 al4 H locs hq4 hP hS => ?_)
    obtain ⟨hI, hq4⟩ := hq4
    have hI : XI v4 := hI
    refine lv_goto (tgt := 20) hE.1 hE.2.1 dX4_takeWord_12 (by decide) ?_
    exact kr v4 ar4 al4 _ _ _ _ ⟨hI, fun i j h => ((hq4 i j (fun q => h (mem_sub (by decide) q))).trans (hq1 i j (fun q => h (mem_sub (by decide) q))))⟩ hP hS dX4_takeWord_20

theorem dX4_numberHere_0 : decode cX4_numberHere 0 = .ok (.iconst 0, 1) := by decide +kernel
theorem dX4_numberHere_1 : decode cX4_numberHere 1 = .ok (.istore_n 1, 1) := by decide +kernel
theorem dX4_numberHere_2 : decode cX4_numberHere 2 = .ok (.aload_n 0, 1) := by decide +kernel
theorem dX4_numberHere_3 : decode cX4_numberHere 3 = .ok (.getfield 172, 3) := by decide +kernel
theorem dX4_numberHere_6 : decode cX4_numberHere 6 = .ok (.istore_n 2, 1) := by decide +kernel
theorem dX4_numberHere_7 : decode cX4_numberHere 7 = .ok (.iload_n 2, 1) := by decide +kernel
theorem dX4_numberHere_8 : decode cX4_numberHere 8 = .ok (.aload_n 0, 1) := by decide +kernel
theorem dX4_numberHere_9 : decode cX4_numberHere 9 = .ok (.getfield 30, 3) := by decide +kernel
theorem dX4_numberHere_12 : decode cX4_numberHere 12 = .ok (.if_icmp .ge 29, 3) := by decide +kernel
theorem dX4_numberHere_15 : decode cX4_numberHere 15 = .ok (.sipush 1000, 3) := by decide +kernel
theorem dX4_numberHere_18 : decode cX4_numberHere 18 = .ok (.bipush 10, 2) := by decide +kernel
theorem dX4_numberHere_20 : decode cX4_numberHere 20 = .ok (.iload_n 1, 1) := by decide +kernel
theorem dX4_numberHere_21 : decode cX4_numberHere 21 = .ok (.imul, 1) := by decide +kernel
theorem dX4_numberHere_22 : decode cX4_numberHere 22 = .ok (.aload_n 0, 1) := by decide +kernel
theorem dX4_numberHere_23 : decode cX4_numberHere 23 = .ok (.iload_n 2, 1) := by decide +kernel
theorem dX4_numberHere_24 : decode cX4_numberHere 24 = .ok (.invokevirtual 184, 3) := by decide +kernel
theorem dX4_numberHere_27 : decode cX4_numberHere 27 = .ok (.iadd, 1) := by decide +kernel
theorem dX4_numberHere_28 : decode cX4_numberHere 28 = .ok (.bipush 48, 2) := by decide +kernel
theorem dX4_numberHere_30 : decode cX4_numberHere 30 = .ok (.isub, 1) := by decide +kernel
theorem dX4_numberHere_31 : decode cX4_numberHere 31 = .ok (.invokestatic 195, 3) := by decide +kernel
theorem dX4_numberHere_34 : decode cX4_numberHere 34 = .ok (.istore_n 1, 1) := by decide +kernel
theorem dX4_numberHere_35 : decode cX4_numberHere 35 = .ok (.iinc 2 1, 3) := by decide +kernel
theorem dX4_numberHere_38 : decode cX4_numberHere 38 = .ok (.goto (-31), 3) := by decide +kernel
theorem dX4_numberHere_41 : decode cX4_numberHere 41 = .ok (.iload_n 1, 1) := by decide +kernel
theorem dX4_numberHere_42 : decode cX4_numberHere 42 = .ok (.ireturn, 1) := by decide +kernel
set_option maxHeartbeats 4000000 in
set_option maxRecDepth 100000 in
theorem s_X4_numberHere_1 (l : Launch) (D : va_G) (K : Nat → ClassId) (ad : Nat → Nat) (mm : Option Nat) (N : Nat) (hNN : 132 ≤ N) (v ar : sI) (al : sL) (hI : XI v) : Met l yX4_numberHere (wM yX4_numberHere cX4_numberHere 3 (some .int)) (rmD 1) (va_Pc [.ref (ad 1)] (wPre D K ad (xG ad K mm) N v ar al)) (vp_Si (fun r => ∃ z : Int, (-2147483648 ≤ z ∧ z ≤ 2147483647) ∧ r = iI z)) 0 0 (fun _ => False) := by
  refine s_metP (by decide) (Nat.le_of_ble_eq_true rfl) ?_
  intro p e s m below meth c ls args Q hE hB hl kr
  have hE : CallFix p m c cX4_numberHere 3 s args tbG "TaleCourt$Reader" := hE
  obtain ⟨hP, hK, hN⟩ := hB
  have hl : lv_has ls 3 [(0, .ref (ad 1))] := hl
  refine lv_iconst (v := iI (0)) hE.1 hE.2.1 dX4_numberHere_0 (by decide) ?_
  refine lv_istore_n (lv' := [(1, .int (iI (0))), (0, .ref (ad 1))]) hE.1 hE.2.1 dX4_numberHere_1 rfl hl (by decide) rfl (fun ls hl => ?_)
  refine lv_aload_n hE.1 hE.2.1 dX4_numberHere_2 rfl (lv_at hl 1 rfl) ?_
  obtain ⟨z1, hz1, ez1⟩ := iI_of (v 1 4)
  refine x_get (x := .int (v 1 4)) hE hK hP 1 (Nat.lt_of_lt_of_le (by decide) hNN) (xG_4 rfl) rfl hin4 4 (by decide) mw_153 rfl dX4_numberHere_3 ?_
  refine x_top (y := iI (z1)) ez1 ?_
  refine lv_istore_n (lv' := [(2, .int (iI (z1))), (1, .int (iI (0))), (0, .ref (ad 1))]) hE.1 hE.2.1 dX4_numberHere_6 rfl hl (by decide) rfl (fun ls hl => ?_)
  have loop2 : ∀ (k2 : Nat) (y2_2 : Int) (y2_1 : Int) (ls : Array Slot), (2147483647 - y2_2).toNat = k2 → (-2147483648 ≤ y2_2 ∧ y2_2 ≤ 2147483647) → (-2147483648 ≤ y2_1 ∧ y2_1 ≤ 2147483647) → lv_has ls 3 [(2, .int (iI (y2_2))), (1, .int (iI (y2_1))), (0, .ref (ad 1))] → W p l e (rmD 1) s m args below meth c s.heap [] 0 0 Q (F0 m 7 ls []) := by
    intro k2
    induction k2 using Nat.strongRecOn with
    | _ k2 ih2 =>
      intro y2_2 y2_1 ls hk2 hb_y2_2 hb_y2_1 hl
      refine lv_iload_n hE.1 hE.2.1 dX4_numberHere_7 rfl (lv_at hl 0 rfl) ?_
      refine lv_aload_n hE.1 hE.2.1 dX4_numberHere_8 rfl (lv_at hl 2 rfl) ?_
      obtain ⟨z3, hz3, ez3⟩ := iI_of (v 1 5)
      refine x_get (x := .int (v 1 5)) hE hK hP 1 (Nat.lt_of_lt_of_le (by decide) hNN) (xG_4 rfl) rfl hin4 5 (by decide) mw_154 rfl dX4_numberHere_9 ?_
      refine x_top (y := iI (z3)) ez3 ?_
      refine s_icmp_ge (a := y2_2) (b := z3) (tgt := 41) hE.1 hE.2.1 (by omega) (by omega) dX4_numberHere_12 (by decide) (fun c4 => ?_) (fun c4 => ?_)
      · skip
        refine lv_iload_n hE.1 hE.2.1 dX4_numberHere_41 rfl (lv_at hl 1 rfl) ?_
        exact kr _ _ _ rfl ⟨y2_1, by omega, rfl⟩ dX4_numberHere_42
      · skip
        refine lv_sipush (v := iI (1000)) hE.1 hE.2.1 dX4_numberHere_15 (by decide) ?_
        refine lv_bipush (v := iI (10)) hE.1 hE.2.1 dX4_numberHere_18 (by decide) ?_
        refine lv_iload_n hE.1 hE.2.1 dX4_numberHere_20 rfl (lv_at hl 1 rfl) ?_
        refine lv_imul hE.1 hE.2.1 dX4_numberHere_21 ?_
        obtain ⟨z5, hz5, ez5⟩ := iI_of (iI (10) * iI (y2_1))
        refine x_top ez5 ?_
        refine lv_aload_n hE.1 hE.2.1 dX4_numberHere_22 rfl (lv_at hl 2 rfl) ?_
        refine lv_iload_n hE.1 hE.2.1 dX4_numberHere_23 rfl (lv_at hl 0 rfl) ?_
        refine x_vp (nn := 1) (As := [.int (iI (y2_2))]) (rest := [.int (iI (z5)), .int (iI (1000))]) hE (s_X4_byteAt_1 l D K ad mm N hNN v ar al hI  (y2_2) (by omega)) wPre_blind (wPre_now hK hN hP) (x_recv hK hP 1 (Nat.lt_of_lt_of_le (by decide) hNN) (xG_4 rfl) rfl) rfl mw_542 mw_544 mw_1 mw_115 mw_545 (by decide +kernel) ⟨by decide, by decide⟩ hl.1 rfl (Nat.le_of_ble_eq_true rfl) ⟨Nat.zero_le _, Nat.zero_le _⟩ dX4_numberHere_24 (fun r6 hr6 => ?_)
        obtain ⟨z6, hz6, rfl⟩ := hr6
        refine lv_iadd hE.1 hE.2.1 dX4_numberHere_27 ?_
        obtain ⟨z7, hz7, ez7⟩ := iI_of (iI (z5) + iI (z6))
        refine x_top ez7 ?_
        refine lv_bipush (v := iI (48)) hE.1 hE.2.1 dX4_numberHere_28 (by decide) ?_
        refine lv_isub hE.1 hE.2.1 dX4_numberHere_30 ?_
        obtain ⟨z8, hz8, ez8⟩ := iI_of (iI (z7) - iI (48))
        refine x_top ez8 ?_
        refine va_mmin (rest := []) hE.1 hE.2.1 (hE.2.2.1.trans hl.1.symm) hE.2.2.2.1 (hE.2.2.2.2 _ mw_627) (hE.2.2.2.2 _ mw_628) (hE.2.2.2.2 _ mw_129) (hE.2.2.2.2 _ mw_629) (Nat.le_of_ble_eq_true rfl) (Nat.le_of_ble_eq_true rfl) (Nat.zero_le _) (Nat.zero_le _) dX4_numberHere_31 ?_
        obtain ⟨z9, hz9, ez9⟩ := iI_min (a := 1000) (b := z8) (by omega) (by omega)
        refine x_top ez9 ?_
        refine lv_istore_n (lv' := [(1, .int (iI (z9))), (2, .int (iI (y2_2))), (0, .ref (ad 1))]) hE.1 hE.2.1 dX4_numberHere_34 rfl hl (by decide) rfl (fun ls hl => ?_)
        refine lv_iinc (v := iI (y2_2 + 1)) (lv' := [(2, .int (iI (y2_2 + 1))), (1, .int (iI (z9))), (0, .ref (ad 1))]) hE.1 hE.2.1 dX4_numberHere_35 hl (k := 1) rfl ((iI_add (y2_2) (1)).trans (congrArg iI (by omega))) (by decide) rfl (fun ls hl => ?_)
        refine lv_goto (tgt := 7) hE.1 hE.2.1 dX4_numberHere_38 (by decide) ?_
        exact ih2 _ (by omega) (y2_2 + 1) (z9) _ rfl (by omega) (by omega) (lv_sub hl [0, 1, 2] rfl)
  exact loop2 _ (z1) (0) _ rfl (by omega) (by omega) hl

theorem dX4_takeNumber_0 : decode cX4_takeNumber 0 = .ok (.aload_n 0, 1) := by decide +kernel
theorem dX4_takeNumber_1 : decode cX4_takeNumber 1 = .ok (.getfield 27, 3) := by decide +kernel
theorem dX4_takeNumber_4 : decode cX4_takeNumber 4 = .ok (.ifCond .eq 5, 3) := by decide +kernel
theorem dX4_takeNumber_7 : decode cX4_takeNumber 7 = .ok (.iconst 0, 1) := by decide +kernel
theorem dX4_takeNumber_8 : decode cX4_takeNumber 8 = .ok (.ireturn, 1) := by decide +kernel
theorem dX4_takeNumber_9 : decode cX4_takeNumber 9 = .ok (.aload_n 0, 1) := by decide +kernel
theorem dX4_takeNumber_10 : decode cX4_takeNumber 10 = .ok (.getfield 36, 3) := by decide +kernel
theorem dX4_takeNumber_13 : decode cX4_takeNumber 13 = .ok (.iconst 3, 1) := by decide +kernel
theorem dX4_takeNumber_14 : decode cX4_takeNumber 14 = .ok (.if_icmp .eq 10, 3) := by decide +kernel
theorem dX4_takeNumber_17 : decode cX4_takeNumber 17 = .ok (.aload_n 0, 1) := by decide +kernel
theorem dX4_takeNumber_18 : decode cX4_takeNumber 18 = .ok (.iconst 1, 1) := by decide +kernel
theorem dX4_takeNumber_19 : decode cX4_takeNumber 19 = .ok (.invokevirtual 90, 3) := by decide +kernel
theorem dX4_takeNumber_22 : decode cX4_takeNumber 22 = .ok (.iconst 0, 1) := by decide +kernel
theorem dX4_takeNumber_23 : decode cX4_takeNumber 23 = .ok (.ireturn, 1) := by decide +kernel
theorem dX4_takeNumber_24 : decode cX4_takeNumber 24 = .ok (.aload_n 0, 1) := by decide +kernel
theorem dX4_takeNumber_25 : decode cX4_takeNumber 25 = .ok (.invokevirtual 175, 3) := by decide +kernel
theorem dX4_takeNumber_28 : decode cX4_takeNumber 28 = .ok (.istore 4, 2) := by decide +kernel
theorem dX4_takeNumber_30 : decode cX4_takeNumber 30 = .ok (.iload 4, 2) := by decide +kernel
theorem dX4_takeNumber_32 : decode cX4_takeNumber 32 = .ok (.iload_n 1, 1) := by decide +kernel
theorem dX4_takeNumber_33 : decode cX4_takeNumber 33 = .ok (.if_icmp .lt 18, 3) := by decide +kernel
theorem dX4_takeNumber_36 : decode cX4_takeNumber 36 = .ok (.iload 4, 2) := by decide +kernel
theorem dX4_takeNumber_38 : decode cX4_takeNumber 38 = .ok (.iload_n 2, 1) := by decide +kernel
theorem dX4_takeNumber_39 : decode cX4_takeNumber 39 = .ok (.if_icmp .gt 12, 3) := by decide +kernel
theorem dX4_takeNumber_42 : decode cX4_takeNumber 42 = .ok (.iload_n 3, 1) := by decide +kernel
theorem dX4_takeNumber_43 : decode cX4_takeNumber 43 = .ok (.iload 4, 2) := by decide +kernel
theorem dX4_takeNumber_45 : decode cX4_takeNumber 45 = .ok (.ishr, 1) := by decide +kernel
theorem dX4_takeNumber_46 : decode cX4_takeNumber 46 = .ok (.iconst 1, 1) := by decide +kernel
theorem dX4_takeNumber_47 : decode cX4_takeNumber 47 = .ok (.iand, 1) := by decide +kernel
theorem dX4_takeNumber_48 : decode cX4_takeNumber 48 = .ok (.ifCond .eq 10, 3) := by decide +kernel
theorem dX4_takeNumber_51 : decode cX4_takeNumber 51 = .ok (.aload_n 0, 1) := by decide +kernel
theorem dX4_takeNumber_52 : decode cX4_takeNumber 52 = .ok (.iconst 2, 1) := by decide +kernel
theorem dX4_takeNumber_53 : decode cX4_takeNumber 53 = .ok (.invokevirtual 90, 3) := by decide +kernel
theorem dX4_takeNumber_56 : decode cX4_takeNumber 56 = .ok (.iconst 0, 1) := by decide +kernel
theorem dX4_takeNumber_57 : decode cX4_takeNumber 57 = .ok (.ireturn, 1) := by decide +kernel
theorem dX4_takeNumber_58 : decode cX4_takeNumber 58 = .ok (.aload_n 0, 1) := by decide +kernel
theorem dX4_takeNumber_59 : decode cX4_takeNumber 59 = .ok (.invokevirtual 33, 3) := by decide +kernel
theorem dX4_takeNumber_62 : decode cX4_takeNumber 62 = .ok (.iload 4, 2) := by decide +kernel
theorem dX4_takeNumber_64 : decode cX4_takeNumber 64 = .ok (.ireturn, 1) := by decide +kernel
set_option maxHeartbeats 4000000 in
set_option maxRecDepth 100000 in
theorem s_X4_takeNumber_1 (l : Launch) (D : va_G) (K : Nat → ClassId) (ad : Nat → Nat) (mm : Option Nat) (N : Nat) (hNN : 132 ≤ N) (v ar : sI) (al : sL) (hI : XI v) (z_1 : Int) (hz_1 : 0 ≤ z_1 ∧ z_1 ≤ 9) (z_2 : Int) (hz_2 : -2147483648 ≤ z_2 ∧ z_2 ≤ 2147483647) (z_3 : Int) (hz_3 : -2147483648 ≤ z_3 ∧ z_3 ≤ 2147483647) : Met l yX4_takeNumber (wM yX4_takeNumber cX4_takeNumber 5 (some .int)) (rmD 2) (va_Pc [.ref (ad 1), .int (iI (z_1)), .int (iI (z_2)), .int (iI (z_3))] (wPre D K ad (xG ad K mm) N v ar al)) (va_Qi (fun (r : Int32) (u : sT) => (∃ z : Int, (0 ≤ z ∧ (z ≤ z_2 ∨ z = 0) ∧ z ≤ 2147483647) ∧ r = iI z) ∧ XI u.1 ∧ (∀ i j : Nat, (i, j) ∉ ([(1, 1), (1, 2), (1, 4), (1, 5), (1, 6)] : List (Nat × Nat)) → u.1 i j = v i j)) (wB D ad (xG ad K mm) N) (inW ad N)) 0 0 (inW ad N) := by
  refine s_metI (by decide) (Nat.le_of_ble_eq_true rfl) ?_
  intro p e s m below meth c ls args Q hE hB hl kr
  have hE : CallFix p m c cX4_takeNumber 5 s args tbG "TaleCourt$Reader" := hE
  obtain ⟨hP, hK, hN⟩ := hB
  have hS : va_S (inW ad N) s.heap s.heap [] := va_S.rf
  have hl : lv_has ls 5 [(0, .ref (ad 1)), (1, .int (iI (z_1))), (2, .int (iI (z_2))), (3, .int (iI (z_3)))] := hl
  refine lv_aload_n hE.1 hE.2.1 dX4_takeNumber_0 rfl (lv_at hl 0 rfl) ?_
  obtain ⟨z1, hz1, ez1⟩ := iI_of (v 1 1)
  refine x_get (x := .int (v 1 1)) hE hK hP 1 (Nat.lt_of_lt_of_le (by decide) hNN) (xG_4 rfl) rfl hin4 1 (by decide) mw_148 rfl dX4_takeNumber_1 ?_
  refine x_top (y := iI (z1)) ez1 ?_
  refine s_if_eq (a := z1) (tgt := 9) hE.1 hE.2.1 (by omega) dX4_takeNumber_4 (by decide) (fun c2 => ?_) (fun c2 => ?_)
  · skip
    refine lv_aload_n hE.1 hE.2.1 dX4_takeNumber_9 rfl (lv_at hl 0 rfl) ?_
    obtain ⟨z3, hz3, ez3⟩ := iI_of (v 1 6)
    refine x_get (x := .int (v 1 6)) hE hK hP 1 (Nat.lt_of_lt_of_le (by decide) hNN) (xG_4 rfl) rfl hin4 6 (by decide) mw_155 rfl dX4_takeNumber_10 ?_
    refine x_top (y := iI (z3)) ez3 ?_
    refine lv_iconst (v := iI (3)) hE.1 hE.2.1 dX4_takeNumber_13 (by decide) ?_
    refine s_icmp_eq (a := z3) (b := 3) (tgt := 24) hE.1 hE.2.1 (by omega) (by omega) dX4_takeNumber_14 (by decide) (fun c4 => ?_) (fun c4 => ?_)
    · skip
      refine lv_aload_n hE.1 hE.2.1 dX4_takeNumber_24 rfl (lv_at hl 0 rfl) ?_
      refine x_vp (nn := 0) (As := []) (rest := []) hE (s_X4_numberHere_1 l D K ad mm N hNN v ar al hI  ) wPre_blind (wPre_now hK hN hP) (x_recv hK hP 1 (Nat.lt_of_lt_of_le (by decide) hNN) (xG_4 rfl) rfl) rfl mw_623 mw_625 mw_8 mw_115 mw_626 (by decide +kernel) ⟨by decide, by decide⟩ hl.1 rfl (Nat.le_of_ble_eq_true rfl) ⟨Nat.zero_le _, Nat.zero_le _⟩ dX4_takeNumber_25 (fun r5 hr5 => ?_)
      obtain ⟨z5, hz5, rfl⟩ := hr5
      refine lv_istore (lv' := [(4, .int (iI (z5))), (0, .ref (ad 1)), (1, .int (iI (z_1))), (2, .int (iI (z_2))), (3, .int (iI (z_3)))]) hE.1 hE.2.1 dX4_takeNumber_28 hl (by decide) rfl (fun ls hl => ?_)
      refine lv_iload hE.1 hE.2.1 dX4_takeNumber_30 (lv_at hl 0 rfl) ?_
      refine lv_iload_n hE.1 hE.2.1 dX4_takeNumber_32 rfl (lv_at hl 2 rfl) ?_
      refine s_icmp_lt (a := z5) (b := z_1) (tgt := 51) hE.1 hE.2.1 (by omega) (by omega) dX4_takeNumber_33 (by decide) (fun c6 => ?_) (fun c6 => ?_)
      · skip
        refine lv_aload_n hE.1 hE.2.1 dX4_takeNumber_51 rfl (lv_at hl 1 rfl) ?_
        refine lv_iconst (v := iI (2)) hE.1 hE.2.1 dX4_takeNumber_52 (by decide) ?_
        refine x_vv (nn := 1) (As := [.int (iI (2))]) (rest := []) hE hK hN hP hS (s_X4_fail_1 l D K ad mm N hNN v ar al hI  (2) (by omega)) (x_recv hK hP 1 (Nat.lt_of_lt_of_le (by decide) hNN) (xG_4 rfl) rfl) rfl mw_614 mw_616 mw_6 mw_115 mw_617 (by decide +kernel) ⟨by decide, by decide⟩ hl.1 rfl (Nat.le_of_ble_eq_true rfl) ⟨Nat.zero_le _, Nat.zero_le _⟩ dX4_takeNumber_53 (fun v7 ar7 al7 H locs hq7 hP hS => ?_)
        obtain ⟨hI, hq7⟩ := hq7
        have hI : XI v7 := hI
        refine lv_iconst (v := iI (0)) hE.1 hE.2.1 dX4_takeNumber_56 (by decide) ?_
        exact kr _ _ _ _ _ _ _ _ rfl ⟨⟨0, by omega, rfl⟩, hI, fun i j h => (hq7 i j (fun q => h (mem_sub (by decide) q)))⟩ hP hS dX4_takeNumber_57
      · skip
        refine lv_iload hE.1 hE.2.1 dX4_takeNumber_36 (lv_at hl 0 rfl) ?_
        refine lv_iload_n hE.1 hE.2.1 dX4_takeNumber_38 rfl (lv_at hl 3 rfl) ?_
        refine s_icmp_gt (a := z5) (b := z_2) (tgt := 51) hE.1 hE.2.1 (by omega) (by omega) dX4_takeNumber_39 (by decide) (fun c8 => ?_) (fun c8 => ?_)
        · skip
          refine lv_aload_n hE.1 hE.2.1 dX4_takeNumber_51 rfl (lv_at hl 1 rfl) ?_
          refine lv_iconst (v := iI (2)) hE.1 hE.2.1 dX4_takeNumber_52 (by decide) ?_
          refine x_vv (nn := 1) (As := [.int (iI (2))]) (rest := []) hE hK hN hP hS (s_X4_fail_1 l D K ad mm N hNN v ar al hI  (2) (by omega)) (x_recv hK hP 1 (Nat.lt_of_lt_of_le (by decide) hNN) (xG_4 rfl) rfl) rfl mw_614 mw_616 mw_6 mw_115 mw_617 (by decide +kernel) ⟨by decide, by decide⟩ hl.1 rfl (Nat.le_of_ble_eq_true rfl) ⟨Nat.zero_le _, Nat.zero_le _⟩ dX4_takeNumber_53 (fun v9 ar9 al9 H locs hq9 hP hS => ?_)
          obtain ⟨hI, hq9⟩ := hq9
          have hI : XI v9 := hI
          refine lv_iconst (v := iI (0)) hE.1 hE.2.1 dX4_takeNumber_56 (by decide) ?_
          exact kr _ _ _ _ _ _ _ _ rfl ⟨⟨0, by omega, rfl⟩, hI, fun i j h => (hq9 i j (fun q => h (mem_sub (by decide) q)))⟩ hP hS dX4_takeNumber_57
        · skip
          refine lv_iload_n hE.1 hE.2.1 dX4_takeNumber_42 rfl (lv_at hl 4 rfl) ?_
          refine lv_iload hE.1 hE.2.1 dX4_takeNumber_43 (lv_at hl 0 rfl) ?_
          refine lv_ishr hE.1 hE.2.1 dX4_takeNumber_45 ?_
          obtain ⟨z10, hz10, ez10⟩ := iI_of (iI (z_3) >>> (iI (z5) &&& 31))
          refine x_top ez10 ?_
          refine lv_iconst (v := iI (1)) hE.1 hE.2.1 dX4_takeNumber_46 (by decide) ?_
          refine lv_iand hE.1 hE.2.1 dX4_takeNumber_47 ?_
          obtain ⟨z11, hz11, ez11⟩ := iI_and (iI (z10)) (iI (1)) 1 (by decide)
          refine x_top ez11 ?_
          refine s_if_eq (a := z11) (tgt := 58) hE.1 hE.2.1 (by omega) dX4_takeNumber_48 (by decide) (fun c12 => ?_) (fun c12 => ?_)
          · skip
            refine lv_aload_n hE.1 hE.2.1 dX4_takeNumber_58 rfl (lv_at hl 1 rfl) ?_
            refine x_vv (nn := 0) (As := []) (rest := []) hE hK hN hP hS (s_X4_step_1 l D K ad mm N hNN v ar al hI  ) (x_recv hK hP 1 (Nat.lt_of_lt_of_le (by decide) hNN) (xG_4 rfl) rfl) rfl mw_538 mw_540 mw_0 mw_115 mw_541 (by decide +kernel) ⟨by decide, by decide⟩ hl.1 rfl (Nat.le_of_ble_eq_true rfl) ⟨Nat.zero_le _, Nat.zero_le _⟩ dX4_takeNumber_59 (fun v13 ar13 al13 H locs hq13 hP hS => ?_)
            obtain ⟨hI, hq13⟩ := hq13
            have hI : XI v13 := hI
            refine lv_iload hE.1 hE.2.1 dX4_takeNumber_62 (lv_at hl 0 rfl) ?_
            exact kr _ _ _ _ _ _ _ _ rfl ⟨⟨z5, by omega, rfl⟩, hI, fun i j h => (hq13 i j (fun q => h (mem_sub (by decide) q)))⟩ hP hS dX4_takeNumber_64
          · skip
            refine lv_aload_n hE.1 hE.2.1 dX4_takeNumber_51 rfl (lv_at hl 1 rfl) ?_
            refine lv_iconst (v := iI (2)) hE.1 hE.2.1 dX4_takeNumber_52 (by decide) ?_
            refine x_vv (nn := 1) (As := [.int (iI (2))]) (rest := []) hE hK hN hP hS (s_X4_fail_1 l D K ad mm N hNN v ar al hI  (2) (by omega)) (x_recv hK hP 1 (Nat.lt_of_lt_of_le (by decide) hNN) (xG_4 rfl) rfl) rfl mw_614 mw_616 mw_6 mw_115 mw_617 (by decide +kernel) ⟨by decide, by decide⟩ hl.1 rfl (Nat.le_of_ble_eq_true rfl) ⟨Nat.zero_le _, Nat.zero_le _⟩ dX4_takeNumber_53 (fun v14 ar14 al14 H locs hq14 hP hS => ?_)
            obtain ⟨hI, hq14⟩ := hq14
            have hI : XI v14 := hI
            refine lv_iconst (v := iI (0)) hE.1 hE.2.1 dX4_takeNumber_56 (by decide) ?_
            exact kr _ _ _ _ _ _ _ _ rfl ⟨⟨0, by omega, rfl⟩, hI, fun i j h => (hq14 i j (fun q => h (mem_sub (by decide) q)))⟩ hP hS dX4_takeNumber_57
    · skip
      refine lv_aload_n hE.1 hE.2.1 dX4_takeNumber_17 rfl (lv_at hl 0 rfl) ?_
      refine lv_iconst (v := iI (1)) hE.1 hE.2.1 dX4_takeNumber_18 (by decide) ?_
      refine x_vv (nn := 1) (As := [.int (iI (1))]) (rest := []) hE hK hN hP hS (s_X4_fail_1 l D K ad mm N hNN v ar al hI  (1) (by omega)) (x_recv hK hP 1 (Nat.lt_of_lt_of_le (by decide) hNN) (xG_4 rfl) rfl) rfl mw_614 mw_616 mw_6 mw_115 mw_617 (by decide +kernel) ⟨by decide, by decide⟩ hl.1 rfl (Nat.le_of_ble_eq_true rfl) ⟨Nat.zero_le _, Nat.zero_le _⟩ dX4_takeNumber_19 (fun v15 ar15 al15 H locs hq15 hP hS => ?_)
      obtain ⟨hI, hq15⟩ := hq15
      have hI : XI v15 := hI
      refine lv_iconst (v := iI (0)) hE.1 hE.2.1 dX4_takeNumber_22 (by decide) ?_
      exact kr _ _ _ _ _ _ _ _ rfl ⟨⟨0, by omega, rfl⟩, hI, fun i j h => (hq15 i j (fun q => h (mem_sub (by decide) q)))⟩ hP hS dX4_takeNumber_23
  · skip
    refine lv_iconst (v := iI (0)) hE.1 hE.2.1 dX4_takeNumber_7 (by decide) ?_
    exact kr _ _ _ _ _ _ _ _ rfl ⟨⟨0, by omega, rfl⟩, hI, fun i j h => rfl⟩ hP hS dX4_takeNumber_8

theorem dX4_readListener_0 : decode cX4_readListener 0 = .ok (.aload_n 1, 1) := by decide +kernel
theorem dX4_readListener_1 : decode cX4_readListener 1 = .ok (.getfield 161, 3) := by decide +kernel
theorem dX4_readListener_4 : decode cX4_readListener 4 = .ok (.istore_n 2, 1) := by decide +kernel
theorem dX4_readListener_5 : decode cX4_readListener 5 = .ok (.iload_n 2, 1) := by decide +kernel
theorem dX4_readListener_6 : decode cX4_readListener 6 = .ok (.bipush 8, 2) := by decide +kernel
theorem dX4_readListener_8 : decode cX4_readListener 8 = .ok (.if_icmp .lt 9, 3) := by decide +kernel
theorem dX4_readListener_11 : decode cX4_readListener 11 = .ok (.aload_n 0, 1) := by decide +kernel
theorem dX4_readListener_12 : decode cX4_readListener 12 = .ok (.iconst 3, 1) := by decide +kernel
theorem dX4_readListener_13 : decode cX4_readListener 13 = .ok (.invokevirtual 90, 3) := by decide +kernel
theorem dX4_readListener_16 : decode cX4_readListener 16 = .ok (.return_, 1) := by decide +kernel
theorem dX4_readListener_17 : decode cX4_readListener 17 = .ok (.aload_n 0, 1) := by decide +kernel
theorem dX4_readListener_18 : decode cX4_readListener 18 = .ok (.invokevirtual 33, 3) := by decide +kernel
theorem dX4_readListener_21 : decode cX4_readListener 21 = .ok (.aload_n 0, 1) := by decide +kernel
theorem dX4_readListener_22 : decode cX4_readListener 22 = .ok (.ldc 164, 2) := by decide +kernel
theorem dX4_readListener_24 : decode cX4_readListener 24 = .ok (.invokevirtual 96, 3) := by decide +kernel
theorem dX4_readListener_27 : decode cX4_readListener 27 = .ok (.aload_n 1, 1) := by decide +kernel
theorem dX4_readListener_28 : decode cX4_readListener 28 = .ok (.getfield 166, 3) := by decide +kernel
theorem dX4_readListener_31 : decode cX4_readListener 31 = .ok (.iload_n 2, 1) := by decide +kernel
theorem dX4_readListener_32 : decode cX4_readListener 32 = .ok (.aload_n 0, 1) := by decide +kernel
theorem dX4_readListener_33 : decode cX4_readListener 33 = .ok (.iconst 0, 1) := by decide +kernel
theorem dX4_readListener_34 : decode cX4_readListener 34 = .ok (.bipush 9, 2) := by decide +kernel
theorem dX4_readListener_36 : decode cX4_readListener 36 = .ok (.iconst 0, 1) := by decide +kernel
theorem dX4_readListener_37 : decode cX4_readListener 37 = .ok (.invokevirtual 81, 3) := by decide +kernel
theorem dX4_readListener_40 : decode cX4_readListener 40 = .ok (.iastore, 1) := by decide +kernel
theorem dX4_readListener_41 : decode cX4_readListener 41 = .ok (.iconst 0, 1) := by decide +kernel
theorem dX4_readListener_42 : decode cX4_readListener 42 = .ok (.istore_n 3, 1) := by decide +kernel
theorem dX4_readListener_43 : decode cX4_readListener 43 = .ok (.iconst 0, 1) := by decide +kernel
theorem dX4_readListener_44 : decode cX4_readListener 44 = .ok (.istore 4, 2) := by decide +kernel
theorem dX4_readListener_46 : decode cX4_readListener 46 = .ok (.iload 4, 2) := by decide +kernel
theorem dX4_readListener_48 : decode cX4_readListener 48 = .ok (.bipush 9, 2) := by decide +kernel
theorem dX4_readListener_50 : decode cX4_readListener 50 = .ok (.if_icmp .gt 41, 3) := by decide +kernel
theorem dX4_readListener_53 : decode cX4_readListener 53 = .ok (.aload_n 0, 1) := by decide +kernel
theorem dX4_readListener_54 : decode cX4_readListener 54 = .ok (.getfield 27, 3) := by decide +kernel
theorem dX4_readListener_57 : decode cX4_readListener 57 = .ok (.ifCond .ne 34, 3) := by decide +kernel
theorem dX4_readListener_60 : decode cX4_readListener 60 = .ok (.aload_n 0, 1) := by decide +kernel
theorem dX4_readListener_61 : decode cX4_readListener 61 = .ok (.getfield 36, 3) := by decide +kernel
theorem dX4_readListener_64 : decode cX4_readListener 64 = .ok (.iconst 4, 1) := by decide +kernel
theorem dX4_readListener_65 : decode cX4_readListener 65 = .ok (.if_icmp .eq 26, 3) := by decide +kernel
theorem dX4_readListener_68 : decode cX4_readListener 68 = .ok (.iload_n 3, 1) := by decide +kernel
theorem dX4_readListener_69 : decode cX4_readListener 69 = .ok (.iconst 1, 1) := by decide +kernel
theorem dX4_readListener_70 : decode cX4_readListener 70 = .ok (.aload_n 0, 1) := by decide +kernel
theorem dX4_readListener_71 : decode cX4_readListener 71 = .ok (.iconst 0, 1) := by decide +kernel
theorem dX4_readListener_72 : decode cX4_readListener 72 = .ok (.aload_n 1, 1) := by decide +kernel
theorem dX4_readListener_73 : decode cX4_readListener 73 = .ok (.getfield 78, 3) := by decide +kernel
theorem dX4_readListener_76 : decode cX4_readListener 76 = .ok (.iconst 1, 1) := by decide +kernel
theorem dX4_readListener_77 : decode cX4_readListener 77 = .ok (.isub, 1) := by decide +kernel
theorem dX4_readListener_78 : decode cX4_readListener 78 = .ok (.iload_n 3, 1) := by decide +kernel
theorem dX4_readListener_79 : decode cX4_readListener 79 = .ok (.invokevirtual 81, 3) := by decide +kernel
theorem dX4_readListener_82 : decode cX4_readListener 82 = .ok (.ishl, 1) := by decide +kernel
theorem dX4_readListener_83 : decode cX4_readListener 83 = .ok (.ior, 1) := by decide +kernel
theorem dX4_readListener_84 : decode cX4_readListener 84 = .ok (.istore_n 3, 1) := by decide +kernel
theorem dX4_readListener_85 : decode cX4_readListener 85 = .ok (.iinc 4 1, 3) := by decide +kernel
theorem dX4_readListener_88 : decode cX4_readListener 88 = .ok (.goto (-42), 3) := by decide +kernel
theorem dX4_readListener_91 : decode cX4_readListener 91 = .ok (.aload_n 1, 1) := by decide +kernel
theorem dX4_readListener_92 : decode cX4_readListener 92 = .ok (.getfield 169, 3) := by decide +kernel
theorem dX4_readListener_95 : decode cX4_readListener 95 = .ok (.iload_n 2, 1) := by decide +kernel
theorem dX4_readListener_96 : decode cX4_readListener 96 = .ok (.iload_n 3, 1) := by decide +kernel
theorem dX4_readListener_97 : decode cX4_readListener 97 = .ok (.iastore, 1) := by decide +kernel
theorem dX4_readListener_98 : decode cX4_readListener 98 = .ok (.aload_n 1, 1) := by decide +kernel
theorem dX4_readListener_99 : decode cX4_readListener 99 = .ok (.dup, 1) := by decide +kernel
theorem dX4_readListener_100 : decode cX4_readListener 100 = .ok (.getfield 161, 3) := by decide +kernel
theorem dX4_readListener_103 : decode cX4_readListener 103 = .ok (.iconst 1, 1) := by decide +kernel
theorem dX4_readListener_104 : decode cX4_readListener 104 = .ok (.iadd, 1) := by decide +kernel
theorem dX4_readListener_105 : decode cX4_readListener 105 = .ok (.putfield 161, 3) := by decide +kernel
theorem dX4_readListener_108 : decode cX4_readListener 108 = .ok (.return_, 1) := by decide +kernel
set_option maxHeartbeats 4000000 in
set_option maxRecDepth 100000 in
theorem s_X4_readListener_1_13 (l : Launch) (D : va_G) (K : Nat → ClassId) (ad : Nat → Nat) (mm : Option Nat) (N : Nat) (hNN : 132 ≤ N) (v ar : sI) (al : sL) (hI : XI v) (tk tv : Nat → Nat) : Met l yX4_readListener (wM yX4_readListener cX4_readListener 5 none) (rmD 6) (va_Pc [.ref (ad 1), .ref (ad 13)] (twPre D K ad (xG ad K mm) N v ar al tk tv)) (va_Qv (fun u : sT => XI u.1 ∧ (∀ i j : Nat, (i, j) ∉ ([(1, 1), (1, 2), (1, 4), (1, 5), (1, 6), (13, 3)] : List (Nat × Nat)) → u.1 i j = v i j)) (wB D ad (xG ad K mm) N) (inW ad N)) 0 0 (inW ad N) := by
  refine s_metV (by decide) (Nat.le_of_ble_eq_true rfl) ?_
  intro p e s m below meth c ls args Q hE hB hl kr
  have hE : CallFix p m c cX4_readListener 5 s args tbG "TaleCourt$Reader" := hE
  obtain ⟨⟨hP, hK, hN⟩, hT, hTR⟩ := hB
  have hS : va_S (inW ad N) s.heap s.heap [] := va_S.rf
  have hl : lv_has ls 5 [(0, .ref (ad 1)), (1, .ref (ad 13))] := hl
  refine lv_aload_n hE.1 hE.2.1 dX4_readListener_0 rfl (lv_at hl 1 rfl) ?_
  obtain ⟨z1, hz1, ez1⟩ := XI_get hI 13 3 0 8 (by decide)
  refine x_get (x := .int (v 13 3)) hE hK hP 13 (Nat.lt_of_lt_of_le (by decide) hNN) (xG_1 rfl) rfl hin1 3 (by decide) mw_192 rfl dX4_readListener_1 ?_
  refine x_top (y := iI (z1)) ez1 ?_
  refine lv_istore_n (lv' := [(2, .int (iI (z1))), (0, .ref (ad 1)), (1, .ref (ad 13))]) hE.1 hE.2.1 dX4_readListener_4 rfl hl (by decide) rfl (fun ls hl => ?_)
  refine lv_iload_n hE.1 hE.2.1 dX4_readListener_5 rfl (lv_at hl 0 rfl) ?_
  refine lv_bipush (v := iI (8)) hE.1 hE.2.1 dX4_readListener_6 (by decide) ?_
  refine s_icmp_lt (a := z1) (b := 8) (tgt := 17) hE.1 hE.2.1 (by omega) (by omega) dX4_readListener_8 (by decide) (fun c2 => ?_) (fun c2 => ?_)
  · skip
    refine lv_aload_n hE.1 hE.2.1 dX4_readListener_17 rfl (lv_at hl 1 rfl) ?_
    refine x_vv (nn := 0) (As := []) (rest := []) hE hK hN hP hS (s_X4_step_1 l D K ad mm N hNN v ar al hI  ) (x_recv hK hP 1 (Nat.lt_of_lt_of_le (by decide) hNN) (xG_4 rfl) rfl) rfl mw_538 mw_540 mw_0 mw_115 mw_541 (by decide +kernel) ⟨by decide, by decide⟩ hl.1 rfl (Nat.le_of_ble_eq_true rfl) ⟨Nat.zero_le _, Nat.zero_le _⟩ dX4_readListener_18 (fun v3 ar3 al3 H locs hq3 hP hS => ?_)
    obtain ⟨hI, hq3⟩ := hq3
    have hI : XI v3 := hI
    refine lv_aload_n hE.1 hE.2.1 dX4_readListener_21 rfl (lv_at hl 1 rfl) ?_
    refine va_ldcS (index := 164) (q := tk 17) hE.1 hE.2.1 hE.2.2.2.1 (show vk_R "TaleCourt$Reader" 164 "loves" (tk 17) s from hTR 17 (by decide)) dX4_readListener_22 ?_
    refine x_vvB (nn := 1) (As := [.ref (tk 17)]) (rest := []) hE hK hN hP hS (s_X4_takeWord_1_1017 l D K ad mm N hNN v3 ar3 al3 hI tk tv  ) tw_blind (tw_now hK hN hP hT hTR hS) (x_recv hK hP 1 (Nat.lt_of_lt_of_le (by decide) hNN) (xG_4 rfl) rfl) rfl mw_558 mw_560 mw_4 mw_115 mw_561 (by decide +kernel) ⟨by decide, by decide⟩ hl.1 rfl (Nat.le_of_ble_eq_true rfl) ⟨Nat.zero_le _, Nat.zero_le _⟩ dX4_readListener_24 (fun v4 ar4 al4 H locs hq4 hP hS => ?_)
    obtain ⟨hI, hq4⟩ := hq4
    have hI : XI v4 := hI
    refine lv_aload_n hE.1 hE.2.1 dX4_readListener_27 rfl (lv_at hl 2 rfl) ?_
    refine x_get (x := .ref (ad 21)) hE hK hP 13 (Nat.lt_of_lt_of_le (by decide) hNN) (xG_1 rfl) rfl hin1 18 (by decide) mw_243 rfl dX4_readListener_28 ?_
    refine lv_iload_n hE.1 hE.2.1 dX4_readListener_31 rfl (lv_at hl 0 rfl) ?_
    refine lv_aload_n hE.1 hE.2.1 dX4_readListener_32 rfl (lv_at hl 1 rfl) ?_
    refine lv_iconst (v := iI (0)) hE.1 hE.2.1 dX4_readListener_33 (by decide) ?_
    refine lv_bipush (v := iI (9)) hE.1 hE.2.1 dX4_readListener_34 (by decide) ?_
    refine lv_iconst (v := iI (0)) hE.1 hE.2.1 dX4_readListener_36 (by decide) ?_
    refine x_vi (nn := 3) (As := [.int (iI (0)), .int (iI (9)), .int (iI (0))]) (rest := [.int (iI (z1)), .ref (ad 21)]) hE hK hN hP hS (s_X4_takeNumber_1 l D K ad mm N hNN v4 ar4 al4 hI  (0) (by omega) (9) (by omega) (0) (by omega)) (x_recv hK hP 1 (Nat.lt_of_lt_of_le (by decide) hNN) (xG_4 rfl) rfl) rfl mw_619 mw_621 mw_7 mw_115 mw_622 (by decide +kernel) ⟨by decide, by decide⟩ hl.1 rfl (Nat.le_of_ble_eq_true rfl) ⟨Nat.zero_le _, Nat.zero_le _⟩ dX4_readListener_37 (fun r5 v5 ar5 al5 H locs hq5 hP hS => ?_)
    obtain ⟨⟨z5, hz5, rfl⟩, hI, hq5⟩ := hq5
    have hI : XI v5 := hI
    refine x_iast (j := iI (z1)) hE hK hN hP hS 21 (Nat.lt_of_lt_of_le (by decide) hNN) (fun _ => xG_10 rfl) (iI_in (n := 8) (by omega)) dX4_readListener_40 (fun ar6 H locs ha6 hP hS => ?_)
    refine lv_iconst (v := iI (0)) hE.1 hE.2.1 dX4_readListener_41 (by decide) ?_
    refine lv_istore_n (lv' := [(3, .int (iI (0))), (2, .int (iI (z1))), (0, .ref (ad 1)), (1, .ref (ad 13))]) hE.1 hE.2.1 dX4_readListener_42 rfl hl (by decide) rfl (fun ls hl => ?_)
    refine lv_iconst (v := iI (0)) hE.1 hE.2.1 dX4_readListener_43 (by decide) ?_
    refine lv_istore (lv' := [(4, .int (iI (0))), (3, .int (iI (0))), (2, .int (iI (z1))), (0, .ref (ad 1)), (1, .ref (ad 13))]) hE.1 hE.2.1 dX4_readListener_44 hl (by decide) rfl (fun ls hl => ?_)
    have loop7 : ∀ (k7 : Nat) (y7_4 : Int) (y7_3 : Int) (vl7 arl7 : sI) (all7 : sL) (H : Heap) (locs : List Loc) (ls : Array Slot), (10 - y7_4).toNat = k7 → (0 ≤ y7_4 ∧ y7_4 ≤ 10) → (-2147483648 ≤ y7_3 ∧ y7_3 ≤ 2147483647) → XI vl7 → (∀ i j : Nat, (i, j) ∉ ([(1, 1), (1, 2), (1, 4), (1, 5), (1, 6)] : List (Nat × Nat)) → vl7 i j = v5 i j) → va_P D xcl (wW ad (xG ad K mm) N vl7 arl7 all7) H → va_S (inW ad N) s.heap H locs → lv_has ls 5 [(4, .int (iI (y7_4))), (3, .int (iI (y7_3))), (2, .int (iI (z1))), (0, .ref (ad 1)), (1, .ref (ad 13))] → W p l e (rmD 6) s m args below meth c H locs 0 0 Q (F0 m 46 ls []) := by
      intro k7
      induction k7 using Nat.strongRecOn with
      | _ k7 ih7 =>
        intro y7_4 y7_3 vl7 arl7 all7 H locs ls hk7 hb_y7_4 hb_y7_3 hI hfr7 hP hS hl
        refine lv_iload hE.1 hE.2.1 dX4_readListener_46 (lv_at hl 0 rfl) ?_
        refine lv_bipush (v := iI (9)) hE.1 hE.2.1 dX4_readListener_48 (by decide) ?_
        refine s_icmp_gt (a := y7_4) (b := 9) (tgt := 91) hE.1 hE.2.1 (by omega) (by omega) dX4_readListener_50 (by decide) (fun c8 => ?_) (fun c8 => ?_)
        · skip
          refine lv_aload_n hE.1 hE.2.1 dX4_readListener_91 rfl (lv_at hl 4 rfl) ?_
          refine x_get (x := .ref (ad 22)) hE hK hP 13 (Nat.lt_of_lt_of_le (by decide) hNN) (xG_1 rfl) rfl hin1 19 (by decide) mw_246 rfl dX4_readListener_92 ?_
          refine lv_iload_n hE.1 hE.2.1 dX4_readListener_95 rfl (lv_at hl 2 rfl) ?_
          refine lv_iload_n hE.1 hE.2.1 dX4_readListener_96 rfl (lv_at hl 1 rfl) ?_
          refine x_iast (j := iI (z1)) hE hK hN hP hS 22 (Nat.lt_of_lt_of_le (by decide) hNN) (fun _ => xG_10 rfl) (iI_in (n := 8) (by omega)) dX4_readListener_97 (fun ar9 H locs ha9 hP hS => ?_)
          refine lv_aload_n hE.1 hE.2.1 dX4_readListener_98 rfl (lv_at hl 4 rfl) ?_
          refine lv_dup hE.1 hE.2.1 dX4_readListener_99 rfl ?_
          refine x_get (x := .int (vl7 13 3)) hE hK hP 13 (Nat.lt_of_lt_of_le (by decide) hNN) (xG_1 rfl) rfl hin1 3 (by decide) mw_192 rfl dX4_readListener_100 ?_
          refine x_top (y := iI (z1)) ((hfr7 13 3 (by decide)).trans ((hq5 13 3 (by decide)).trans ((hq4 13 3 (by decide)).trans ((hq3 13 3 (by decide)).trans ez1)))) ?_
          refine lv_iconst (v := iI (1)) hE.1 hE.2.1 dX4_readListener_103 (by decide) ?_
          refine lv_iadd hE.1 hE.2.1 dX4_readListener_104 ?_
          refine x_top (y := iI (z1 + 1)) ((iI_add (z1) (1)).trans (congrArg iI (by omega))) ?_
          refine x_put (x := iI (z1 + 1)) hE hK hN hP hS 13 (Nat.lt_of_lt_of_le (by decide) hNN) (xG_1 rfl) rfl hin1 tyX1 tyX1_ok nmX1 3 (by decide) mw_192 rfl rfl rfl (Nat.le_of_ble_eq_true rfl) (xG_1 rfl) dX4_readListener_105 (fun v10 H locs hv10 hP hS => ?_)
          have hI := XI_putB (z := z1 + 1) hI hv10 0 8 (by omega) (by decide) (by omega)
          exact kr v10 ar9 all7 _ _ _ _ ⟨hI, fun i j h => ((up_oth hv10 (fun q => h (by rcases q with ⟨rfl, rfl⟩; decide))).trans ((hfr7 i j (fun q => h (mem_sub (by decide) q))).trans ((hq5 i j (fun q => h (mem_sub (by decide) q))).trans ((hq4 i j (fun q => h (mem_sub (by decide) q))).trans (hq3 i j (fun q => h (mem_sub (by decide) q)))))))⟩ hP hS dX4_readListener_108
        · skip
          refine lv_aload_n hE.1 hE.2.1 dX4_readListener_53 rfl (lv_at hl 3 rfl) ?_
          obtain ⟨z11, hz11, ez11⟩ := iI_of (vl7 1 1)
          refine x_get (x := .int (vl7 1 1)) hE hK hP 1 (Nat.lt_of_lt_of_le (by decide) hNN) (xG_4 rfl) rfl hin4 1 (by decide) mw_148 rfl dX4_readListener_54 ?_
          refine x_top (y := iI (z11)) ez11 ?_
          refine s_if_ne (a := z11) (tgt := 91) hE.1 hE.2.1 (by omega) dX4_readListener_57 (by decide) (fun c12 => ?_) (fun c12 => ?_)
          · skip
            refine lv_aload_n hE.1 hE.2.1 dX4_readListener_91 rfl (lv_at hl 4 rfl) ?_
            refine x_get (x := .ref (ad 22)) hE hK hP 13 (Nat.lt_of_lt_of_le (by decide) hNN) (xG_1 rfl) rfl hin1 19 (by decide) mw_246 rfl dX4_readListener_92 ?_
            refine lv_iload_n hE.1 hE.2.1 dX4_readListener_95 rfl (lv_at hl 2 rfl) ?_
            refine lv_iload_n hE.1 hE.2.1 dX4_readListener_96 rfl (lv_at hl 1 rfl) ?_
            refine x_iast (j := iI (z1)) hE hK hN hP hS 22 (Nat.lt_of_lt_of_le (by decide) hNN) (fun _ => xG_10 rfl) (iI_in (n := 8) (by omega)) dX4_readListener_97 (fun ar13 H locs ha13 hP hS => ?_)
            refine lv_aload_n hE.1 hE.2.1 dX4_readListener_98 rfl (lv_at hl 4 rfl) ?_
            refine lv_dup hE.1 hE.2.1 dX4_readListener_99 rfl ?_
            refine x_get (x := .int (vl7 13 3)) hE hK hP 13 (Nat.lt_of_lt_of_le (by decide) hNN) (xG_1 rfl) rfl hin1 3 (by decide) mw_192 rfl dX4_readListener_100 ?_
            refine x_top (y := iI (z1)) ((hfr7 13 3 (by decide)).trans ((hq5 13 3 (by decide)).trans ((hq4 13 3 (by decide)).trans ((hq3 13 3 (by decide)).trans ez1)))) ?_
            refine lv_iconst (v := iI (1)) hE.1 hE.2.1 dX4_readListener_103 (by decide) ?_
            refine lv_iadd hE.1 hE.2.1 dX4_readListener_104 ?_
            refine x_top (y := iI (z1 + 1)) ((iI_add (z1) (1)).trans (congrArg iI (by omega))) ?_
            refine x_put (x := iI (z1 + 1)) hE hK hN hP hS 13 (Nat.lt_of_lt_of_le (by decide) hNN) (xG_1 rfl) rfl hin1 tyX1 tyX1_ok nmX1 3 (by decide) mw_192 rfl rfl rfl (Nat.le_of_ble_eq_true rfl) (xG_1 rfl) dX4_readListener_105 (fun v14 H locs hv14 hP hS => ?_)
            have hI := XI_putB (z := z1 + 1) hI hv14 0 8 (by omega) (by decide) (by omega)
            exact kr v14 ar13 all7 _ _ _ _ ⟨hI, fun i j h => ((up_oth hv14 (fun q => h (by rcases q with ⟨rfl, rfl⟩; decide))).trans ((hfr7 i j (fun q => h (mem_sub (by decide) q))).trans ((hq5 i j (fun q => h (mem_sub (by decide) q))).trans ((hq4 i j (fun q => h (mem_sub (by decide) q))).trans (hq3 i j (fun q => h (mem_sub (by decide) q)))))))⟩ hP hS dX4_readListener_108
          · skip
            refine lv_aload_n hE.1 hE.2.1 dX4_readListener_60 rfl (lv_at hl 3 rfl) ?_
            obtain ⟨z15, hz15, ez15⟩ := iI_of (vl7 1 6)
            refine x_get (x := .int (vl7 1 6)) hE hK hP 1 (Nat.lt_of_lt_of_le (by decide) hNN) (xG_4 rfl) rfl hin4 6 (by decide) mw_155 rfl dX4_readListener_61 ?_
            refine x_top (y := iI (z15)) ez15 ?_
            refine lv_iconst (v := iI (4)) hE.1 hE.2.1 dX4_readListener_64 (by decide) ?_
            refine s_icmp_eq (a := z15) (b := 4) (tgt := 91) hE.1 hE.2.1 (by omega) (by omega) dX4_readListener_65 (by decide) (fun c16 => ?_) (fun c16 => ?_)
            · skip
              refine lv_aload_n hE.1 hE.2.1 dX4_readListener_91 rfl (lv_at hl 4 rfl) ?_
              refine x_get (x := .ref (ad 22)) hE hK hP 13 (Nat.lt_of_lt_of_le (by decide) hNN) (xG_1 rfl) rfl hin1 19 (by decide) mw_246 rfl dX4_readListener_92 ?_
              refine lv_iload_n hE.1 hE.2.1 dX4_readListener_95 rfl (lv_at hl 2 rfl) ?_
              refine lv_iload_n hE.1 hE.2.1 dX4_readListener_96 rfl (lv_at hl 1 rfl) ?_
              refine x_iast (j := iI (z1)) hE hK hN hP hS 22 (Nat.lt_of_lt_of_le (by decide) hNN) (fun _ => xG_10 rfl) (iI_in (n := 8) (by omega)) dX4_readListener_97 (fun ar17 H locs ha17 hP hS => ?_)
              refine lv_aload_n hE.1 hE.2.1 dX4_readListener_98 rfl (lv_at hl 4 rfl) ?_
              refine lv_dup hE.1 hE.2.1 dX4_readListener_99 rfl ?_
              refine x_get (x := .int (vl7 13 3)) hE hK hP 13 (Nat.lt_of_lt_of_le (by decide) hNN) (xG_1 rfl) rfl hin1 3 (by decide) mw_192 rfl dX4_readListener_100 ?_
              refine x_top (y := iI (z1)) ((hfr7 13 3 (by decide)).trans ((hq5 13 3 (by decide)).trans ((hq4 13 3 (by decide)).trans ((hq3 13 3 (by decide)).trans ez1)))) ?_
              refine lv_iconst (v := iI (1)) hE.1 hE.2.1 dX4_readListener_103 (by decide) ?_
              refine lv_iadd hE.1 hE.2.1 dX4_readListener_104 ?_
              refine x_top (y := iI (z1 + 1)) ((iI_add (z1) (1)).trans (congrArg iI (by omega))) ?_
              refine x_put (x := iI (z1 + 1)) hE hK hN hP hS 13 (Nat.lt_of_lt_of_le (by decide) hNN) (xG_1 rfl) rfl hin1 tyX1 tyX1_ok nmX1 3 (by decide) mw_192 rfl rfl rfl (Nat.le_of_ble_eq_true rfl) (xG_1 rfl) dX4_readListener_105 (fun v18 H locs hv18 hP hS => ?_)
              have hI := XI_putB (z := z1 + 1) hI hv18 0 8 (by omega) (by decide) (by omega)
              exact kr v18 ar17 all7 _ _ _ _ ⟨hI, fun i j h => ((up_oth hv18 (fun q => h (by rcases q with ⟨rfl, rfl⟩; decide))).trans ((hfr7 i j (fun q => h (mem_sub (by decide) q))).trans ((hq5 i j (fun q => h (mem_sub (by decide) q))).trans ((hq4 i j (fun q => h (mem_sub (by decide) q))).trans (hq3 i j (fun q => h (mem_sub (by decide) q)))))))⟩ hP hS dX4_readListener_108
            · skip
              refine lv_iload_n hE.1 hE.2.1 dX4_readListener_68 rfl (lv_at hl 1 rfl) ?_
              refine lv_iconst (v := iI (1)) hE.1 hE.2.1 dX4_readListener_69 (by decide) ?_
              refine lv_aload_n hE.1 hE.2.1 dX4_readListener_70 rfl (lv_at hl 3 rfl) ?_
              refine lv_iconst (v := iI (0)) hE.1 hE.2.1 dX4_readListener_71 (by decide) ?_
              refine lv_aload_n hE.1 hE.2.1 dX4_readListener_72 rfl (lv_at hl 4 rfl) ?_
              obtain ⟨z19, hz19, ez19⟩ := XI_get hI 13 2 0 9 (by decide)
              refine x_get (x := .int (vl7 13 2)) hE hK hP 13 (Nat.lt_of_lt_of_le (by decide) hNN) (xG_1 rfl) rfl hin1 2 (by decide) mw_188 rfl dX4_readListener_73 ?_
              refine x_top (y := iI (z19)) ez19 ?_
              refine lv_iconst (v := iI (1)) hE.1 hE.2.1 dX4_readListener_76 (by decide) ?_
              refine lv_isub hE.1 hE.2.1 dX4_readListener_77 ?_
              refine x_top (y := iI (z19 - 1)) ((iI_sub (z19) (1)).trans (congrArg iI (by omega))) ?_
              refine lv_iload_n hE.1 hE.2.1 dX4_readListener_78 rfl (lv_at hl 1 rfl) ?_
              refine x_vi (nn := 3) (As := [.int (iI (0)), .int (iI (z19 - 1)), .int (iI (y7_3))]) (rest := [.int (iI (1)), .int (iI (y7_3))]) hE hK hN hP hS (s_X4_takeNumber_1 l D K ad mm N hNN vl7 arl7 all7 hI  (0) (by omega) (z19 - 1) (by omega) (y7_3) (by omega)) (x_recv hK hP 1 (Nat.lt_of_lt_of_le (by decide) hNN) (xG_4 rfl) rfl) rfl mw_619 mw_621 mw_7 mw_115 mw_622 (by decide +kernel) ⟨by decide, by decide⟩ hl.1 rfl (Nat.le_of_ble_eq_true rfl) ⟨Nat.zero_le _, Nat.zero_le _⟩ dX4_readListener_79 (fun r20 v20 ar20 al20 H locs hq20 hP hS => ?_)
              obtain ⟨⟨z20, hz20, rfl⟩, hI, hq20⟩ := hq20
              have hI : XI v20 := hI
              refine lv_ishl hE.1 hE.2.1 dX4_readListener_82 ?_
              obtain ⟨z21, hz21, ez21⟩ := iI_shl1 (a := z20) (by omega)
              refine x_top ez21 ?_
              refine lv_ior hE.1 hE.2.1 dX4_readListener_83 ?_
              obtain ⟨z22, hz22, ez22⟩ := iI_of (iI (y7_3) ||| iI (z21))
              refine x_top ez22 ?_
              refine lv_istore_n (lv' := [(3, .int (iI (z22))), (4, .int (iI (y7_4))), (2, .int (iI (z1))), (0, .ref (ad 1)), (1, .ref (ad 13))]) hE.1 hE.2.1 dX4_readListener_84 rfl hl (by decide) rfl (fun ls hl => ?_)
              refine lv_iinc (v := iI (y7_4 + 1)) (lv' := [(4, .int (iI (y7_4 + 1))), (3, .int (iI (z22))), (2, .int (iI (z1))), (0, .ref (ad 1)), (1, .ref (ad 13))]) hE.1 hE.2.1 dX4_readListener_85 hl (k := 1) rfl ((iI_add (y7_4) (1)).trans (congrArg iI (by omega))) (by decide) rfl (fun ls hl => ?_)
              refine lv_goto (tgt := 46) hE.1 hE.2.1 dX4_readListener_88 (by decide) ?_
              exact ih7 _ (by omega) (y7_4 + 1) (z22) v20 ar20 al20 _ _ _ rfl (by omega) (by omega) hI (fun i j h => ((hq20 i j (fun q => h (mem_sub (by decide) q))).trans (hfr7 i j h))) hP hS (lv_sub hl [0, 1, 2, 3, 4] rfl)
    exact loop7 _ (0) (0) v5 ar6 al5 _ _ _ rfl (by omega) (by omega) hI (fun _ _ _ => rfl) hP hS hl
  · skip
    refine lv_aload_n hE.1 hE.2.1 dX4_readListener_11 rfl (lv_at hl 1 rfl) ?_
    refine lv_iconst (v := iI (3)) hE.1 hE.2.1 dX4_readListener_12 (by decide) ?_
    refine x_vv (nn := 1) (As := [.int (iI (3))]) (rest := []) hE hK hN hP hS (s_X4_fail_1 l D K ad mm N hNN v ar al hI  (3) (by omega)) (x_recv hK hP 1 (Nat.lt_of_lt_of_le (by decide) hNN) (xG_4 rfl) rfl) rfl mw_614 mw_616 mw_6 mw_115 mw_617 (by decide +kernel) ⟨by decide, by decide⟩ hl.1 rfl (Nat.le_of_ble_eq_true rfl) ⟨Nat.zero_le _, Nat.zero_le _⟩ dX4_readListener_13 (fun v23 ar23 al23 H locs hq23 hP hS => ?_)
    obtain ⟨hI, hq23⟩ := hq23
    have hI : XI v23 := hI
    exact kr v23 ar23 al23 _ _ _ _ ⟨hI, fun i j h => (hq23 i j (fun q => h (mem_sub (by decide) q)))⟩ hP hS dX4_readListener_16

set_option maxHeartbeats 4000000 in
set_option maxRecDepth 100000 in
theorem s_X1_setKeeper_13 (l : Launch) (D : va_G) (K : Nat → ClassId) (ad : Nat → Nat) (mm : Option Nat) (N : Nat) (hNN : 132 ≤ N) (v ar : sI) (al : sL) (hI : XI v) (z_1 : Int) (hz_1 : -2147483648 ≤ z_1 ∧ z_1 ≤ 2147483647) (z_2 : Int) (hz_2 : -2147483648 ≤ z_2 ∧ z_2 ≤ 2147483647) : Met l yX1_setKeeper (wM yX1_setKeeper cX1_setKeeper 5 none) (rmD 0) (va_Pc [.ref (ad 13), .int (iI (z_1)), .int (iI (z_2))] (wPre D K ad (xG ad K mm) N v ar al)) (va_Qv (fun u : sT => XI u.1 ∧ (∀ i j : Nat, (i, j) ∉ ([] : List (Nat × Nat)) → u.1 i j = v i j)) (wB D ad (xG ad K mm) N) (inW ad N)) 0 0 (inW ad N) := by
  refine s_metV (by decide) (Nat.le_of_ble_eq_true rfl) ?_
  intro p e s m below meth c ls args Q hE hB hl kr
  have hE : CallFix p m c cX1_setKeeper 5 s args tbG "TaleCourt$Court" := hE
  obtain ⟨hP, hK, hN⟩ := hB
  have hS : va_S (inW ad N) s.heap s.heap [] := va_S.rf
  have hl : lv_has ls 5 [(0, .ref (ad 13)), (1, .int (iI (z_1))), (2, .int (iI (z_2)))] := hl
  refine lv_iload_n hE.1 hE.2.1 dX1_setKeeper_0 rfl (lv_at hl 1 rfl) ?_
  refine s_if_lt (a := z_1) (tgt := 10) hE.1 hE.2.1 (by omega) dX1_setKeeper_1 (by decide) (fun c1 => ?_) (fun c1 => ?_)
  · skip
    exact kr _ _ _ _ _ _ _ ⟨hI, fun i j h => rfl⟩ hP hS dX1_setKeeper_10
  · skip
    refine lv_iload_n hE.1 hE.2.1 dX1_setKeeper_4 rfl (lv_at hl 1 rfl) ?_
    refine lv_bipush (v := iI (9)) hE.1 hE.2.1 dX1_setKeeper_5 (by decide) ?_
    refine s_icmp_lt (a := z_1) (b := 9) (tgt := 11) hE.1 hE.2.1 (by omega) (by omega) dX1_setKeeper_7 (by decide) (fun c2 => ?_) (fun c2 => ?_)
    · skip
      refine lv_aload_n hE.1 hE.2.1 dX1_setKeeper_11 rfl (lv_at hl 0 rfl) ?_
      refine x_get (x := .ref (ad 17)) hE hK hP 13 (Nat.lt_of_lt_of_le (by decide) hNN) (xG_1 rfl) rfl hin1 14 (by decide) mw_229 rfl dX1_setKeeper_12 ?_
      refine lv_iload_n hE.1 hE.2.1 dX1_setKeeper_15 rfl (lv_at hl 1 rfl) ?_
      refine lv_iload_n hE.1 hE.2.1 dX1_setKeeper_16 rfl (lv_at hl 2 rfl) ?_
      refine x_iast (j := iI (z_1)) hE hK hN hP hS 17 (Nat.lt_of_lt_of_le (by decide) hNN) (fun _ => xG_10 rfl) (iI_in (n := 9) (by omega)) dX1_setKeeper_17 (fun ar3 H locs ha3 hP hS => ?_)
      refine lv_iconst (v := iI (0)) hE.1 hE.2.1 dX1_setKeeper_18 (by decide) ?_
      refine lv_istore_n (lv' := [(3, .int (iI (0))), (0, .ref (ad 13)), (1, .int (iI (z_1))), (2, .int (iI (z_2)))]) hE.1 hE.2.1 dX1_setKeeper_19 rfl hl (by decide) rfl (fun ls hl => ?_)
      have loop4 : ∀ (k4 : Nat) (y4_3 : Int) (vl4 arl4 : sI) (all4 : sL) (H : Heap) (locs : List Loc) (ls : Array Slot), (3 - y4_3).toNat = k4 → (0 ≤ y4_3 ∧ y4_3 ≤ 3) → XI vl4 → (∀ i j : Nat, (i, j) ∉ ([] : List (Nat × Nat)) → vl4 i j = v i j) → va_P D xcl (wW ad (xG ad K mm) N vl4 arl4 all4) H → va_S (inW ad N) s.heap H locs → lv_has ls 5 [(3, .int (iI (y4_3))), (0, .ref (ad 13)), (1, .int (iI (z_1))), (2, .int (iI (z_2)))] → W p l e (rmD 0) s m args below meth c H locs 0 0 Q (F0 m 20 ls []) := by
        intro k4
        induction k4 using Nat.strongRecOn with
        | _ k4 ih4 =>
          intro y4_3 vl4 arl4 all4 H locs ls hk4 hb_y4_3 hI hfr4 hP hS hl
          refine lv_iload_n hE.1 hE.2.1 dX1_setKeeper_20 rfl (lv_at hl 0 rfl) ?_
          refine lv_iconst (v := iI (3)) hE.1 hE.2.1 dX1_setKeeper_21 (by decide) ?_
          refine s_icmp_ge (a := y4_3) (b := 3) (tgt := 79) hE.1 hE.2.1 (by omega) (by omega) dX1_setKeeper_22 (by decide) (fun c5 => ?_) (fun c5 => ?_)
          · skip
            exact kr _ _ _ _ _ _ _ ⟨hI, fun i j h => (hfr4 i j (fun q => h (mem_sub (by decide) q)))⟩ hP hS dX1_setKeeper_79
          · skip
            refine lv_iload_n hE.1 hE.2.1 dX1_setKeeper_25 rfl (lv_at hl 3 rfl) ?_
            refine lv_iconst (v := iI (-1)) hE.1 hE.2.1 dX1_setKeeper_26 (by decide) ?_
            refine s_icmp_eq (a := z_2) (b := -1) (tgt := 39) hE.1 hE.2.1 (by omega) (by omega) dX1_setKeeper_27 (by decide) (fun c6 => ?_) (fun c6 => ?_)
            · skip
              refine lv_iconst (v := iI (0)) hE.1 hE.2.1 dX1_setKeeper_39 (by decide) ?_
              refine lv_istore (lv' := [(4, .int (iI (0))), (3, .int (iI (y4_3))), (0, .ref (ad 13)), (1, .int (iI (z_1))), (2, .int (iI (z_2)))]) hE.1 hE.2.1 dX1_setKeeper_40 hl (by decide) rfl (fun ls hl => ?_)
              refine lv_aload_n hE.1 hE.2.1 dX1_setKeeper_42 rfl (lv_at hl 2 rfl) ?_
              refine x_get (x := .ref (ad 20)) hE hK hP 13 (Nat.lt_of_lt_of_le (by decide) hNN) (xG_1 rfl) rfl hin1 17 (by decide) mw_239 rfl dX1_setKeeper_43 ?_
              refine lv_iload_n hE.1 hE.2.1 dX1_setKeeper_46 rfl (lv_at hl 1 rfl) ?_
              refine lv_aload_n hE.1 hE.2.1 dX1_setKeeper_47 rfl (lv_at hl 2 rfl) ?_
              refine x_get (x := .ref (ad 20)) hE hK hP 13 (Nat.lt_of_lt_of_le (by decide) hNN) (xG_1 rfl) rfl hin1 17 (by decide) mw_239 rfl dX1_setKeeper_48 ?_
              refine lv_iload_n hE.1 hE.2.1 dX1_setKeeper_51 rfl (lv_at hl 1 rfl) ?_
              refine x_iald (j := iI (y4_3)) hE hK hP 20 (Nat.lt_of_lt_of_le (by decide) hNN) (xG_10 rfl) (iI_in (n := 3) (by omega)) dX1_setKeeper_52 ?_
              obtain ⟨z8, hz8, ez8⟩ := iI_of (arl4 20 (iI (y4_3)).toNatClampNeg)
              refine x_top ez8 ?_
              refine lv_iconst (v := iI (1)) hE.1 hE.2.1 dX1_setKeeper_53 (by decide) ?_
              refine lv_iload_n hE.1 hE.2.1 dX1_setKeeper_54 rfl (lv_at hl 3 rfl) ?_
              refine lv_ishl hE.1 hE.2.1 dX1_setKeeper_55 ?_
              obtain ⟨z9, hz9, ez9⟩ := iI_shl1 (a := z_1) (by omega)
              refine x_top ez9 ?_
              refine lv_iconst (v := iI (-1)) hE.1 hE.2.1 dX1_setKeeper_56 (by decide) ?_
              refine lv_ixor hE.1 hE.2.1 dX1_setKeeper_57 ?_
              obtain ⟨z10, hz10, ez10⟩ := iI_of (iI (z9) ^^^ iI (-1))
              refine x_top ez10 ?_
              refine lv_iand hE.1 hE.2.1 dX1_setKeeper_58 ?_
              obtain ⟨z11, hz11, ez11⟩ := iI_of (iI (z8) &&& iI (z10))
              refine x_top ez11 ?_
              refine lv_iload hE.1 hE.2.1 dX1_setKeeper_59 (lv_at hl 0 rfl) ?_
              refine s_if_eq (a := 0) (tgt := 70) hE.1 hE.2.1 (by omega) dX1_setKeeper_61 (by decide) (fun _ => ?_) (fun c12 => False.elim (by omega))
              refine lv_iconst (v := iI (0)) hE.1 hE.2.1 dX1_setKeeper_70 (by decide) ?_
              refine lv_ior hE.1 hE.2.1 dX1_setKeeper_71 ?_
              obtain ⟨z13, hz13, ez13⟩ := iI_of (iI (z11) ||| iI (0))
              refine x_top ez13 ?_
              refine x_iast (j := iI (y4_3)) hE hK hN hP hS 20 (Nat.lt_of_lt_of_le (by decide) hNN) (fun _ => xG_10 rfl) (iI_in (n := 3) (by omega)) dX1_setKeeper_72 (fun ar14 H locs ha14 hP hS => ?_)
              refine lv_iinc (v := iI (y4_3 + 1)) (lv' := [(3, .int (iI (y4_3 + 1))), (4, .int (iI (0))), (0, .ref (ad 13)), (1, .int (iI (z_1))), (2, .int (iI (z_2)))]) hE.1 hE.2.1 dX1_setKeeper_73 hl (k := 1) rfl ((iI_add (y4_3) (1)).trans (congrArg iI (by omega))) (by decide) rfl (fun ls hl => ?_)
              refine lv_goto (tgt := 20) hE.1 hE.2.1 dX1_setKeeper_76 (by decide) ?_
              exact ih4 _ (by omega) (y4_3 + 1) vl4 ar14 all4 _ _ _ rfl (by omega) hI (fun i j h => (hfr4 i j h)) hP hS (lv_sub hl [0, 2, 3, 4] rfl)
            · skip
              refine lv_iload_n hE.1 hE.2.1 dX1_setKeeper_30 rfl (lv_at hl 3 rfl) ?_
              refine lv_iload_n hE.1 hE.2.1 dX1_setKeeper_31 rfl (lv_at hl 0 rfl) ?_
              refine s_icmp_eq (a := z_2) (b := y4_3) (tgt := 39) hE.1 hE.2.1 (by omega) (by omega) dX1_setKeeper_32 (by decide) (fun c15 => ?_) (fun c15 => ?_)
              · skip
                refine lv_iconst (v := iI (0)) hE.1 hE.2.1 dX1_setKeeper_39 (by decide) ?_
                refine lv_istore (lv' := [(4, .int (iI (0))), (3, .int (iI (y4_3))), (0, .ref (ad 13)), (1, .int (iI (z_1))), (2, .int (iI (z_2)))]) hE.1 hE.2.1 dX1_setKeeper_40 hl (by decide) rfl (fun ls hl => ?_)
                refine lv_aload_n hE.1 hE.2.1 dX1_setKeeper_42 rfl (lv_at hl 2 rfl) ?_
                refine x_get (x := .ref (ad 20)) hE hK hP 13 (Nat.lt_of_lt_of_le (by decide) hNN) (xG_1 rfl) rfl hin1 17 (by decide) mw_239 rfl dX1_setKeeper_43 ?_
                refine lv_iload_n hE.1 hE.2.1 dX1_setKeeper_46 rfl (lv_at hl 1 rfl) ?_
                refine lv_aload_n hE.1 hE.2.1 dX1_setKeeper_47 rfl (lv_at hl 2 rfl) ?_
                refine x_get (x := .ref (ad 20)) hE hK hP 13 (Nat.lt_of_lt_of_le (by decide) hNN) (xG_1 rfl) rfl hin1 17 (by decide) mw_239 rfl dX1_setKeeper_48 ?_
                refine lv_iload_n hE.1 hE.2.1 dX1_setKeeper_51 rfl (lv_at hl 1 rfl) ?_
                refine x_iald (j := iI (y4_3)) hE hK hP 20 (Nat.lt_of_lt_of_le (by decide) hNN) (xG_10 rfl) (iI_in (n := 3) (by omega)) dX1_setKeeper_52 ?_
                obtain ⟨z17, hz17, ez17⟩ := iI_of (arl4 20 (iI (y4_3)).toNatClampNeg)
                refine x_top ez17 ?_
                refine lv_iconst (v := iI (1)) hE.1 hE.2.1 dX1_setKeeper_53 (by decide) ?_
                refine lv_iload_n hE.1 hE.2.1 dX1_setKeeper_54 rfl (lv_at hl 3 rfl) ?_
                refine lv_ishl hE.1 hE.2.1 dX1_setKeeper_55 ?_
                obtain ⟨z18, hz18, ez18⟩ := iI_shl1 (a := z_1) (by omega)
                refine x_top ez18 ?_
                refine lv_iconst (v := iI (-1)) hE.1 hE.2.1 dX1_setKeeper_56 (by decide) ?_
                refine lv_ixor hE.1 hE.2.1 dX1_setKeeper_57 ?_
                obtain ⟨z19, hz19, ez19⟩ := iI_of (iI (z18) ^^^ iI (-1))
                refine x_top ez19 ?_
                refine lv_iand hE.1 hE.2.1 dX1_setKeeper_58 ?_
                obtain ⟨z20, hz20, ez20⟩ := iI_of (iI (z17) &&& iI (z19))
                refine x_top ez20 ?_
                refine lv_iload hE.1 hE.2.1 dX1_setKeeper_59 (lv_at hl 0 rfl) ?_
                refine s_if_eq (a := 0) (tgt := 70) hE.1 hE.2.1 (by omega) dX1_setKeeper_61 (by decide) (fun _ => ?_) (fun c21 => False.elim (by omega))
                refine lv_iconst (v := iI (0)) hE.1 hE.2.1 dX1_setKeeper_70 (by decide) ?_
                refine lv_ior hE.1 hE.2.1 dX1_setKeeper_71 ?_
                obtain ⟨z22, hz22, ez22⟩ := iI_of (iI (z20) ||| iI (0))
                refine x_top ez22 ?_
                refine x_iast (j := iI (y4_3)) hE hK hN hP hS 20 (Nat.lt_of_lt_of_le (by decide) hNN) (fun _ => xG_10 rfl) (iI_in (n := 3) (by omega)) dX1_setKeeper_72 (fun ar23 H locs ha23 hP hS => ?_)
                refine lv_iinc (v := iI (y4_3 + 1)) (lv' := [(3, .int (iI (y4_3 + 1))), (4, .int (iI (0))), (0, .ref (ad 13)), (1, .int (iI (z_1))), (2, .int (iI (z_2)))]) hE.1 hE.2.1 dX1_setKeeper_73 hl (k := 1) rfl ((iI_add (y4_3) (1)).trans (congrArg iI (by omega))) (by decide) rfl (fun ls hl => ?_)
                refine lv_goto (tgt := 20) hE.1 hE.2.1 dX1_setKeeper_76 (by decide) ?_
                exact ih4 _ (by omega) (y4_3 + 1) vl4 ar23 all4 _ _ _ rfl (by omega) hI (fun i j h => (hfr4 i j h)) hP hS (lv_sub hl [0, 2, 3, 4] rfl)
              · skip
                refine lv_iconst (v := iI (1)) hE.1 hE.2.1 dX1_setKeeper_35 (by decide) ?_
                refine lv_goto (tgt := 40) hE.1 hE.2.1 dX1_setKeeper_36 (by decide) ?_
                refine lv_istore (lv' := [(4, .int (iI (1))), (3, .int (iI (y4_3))), (0, .ref (ad 13)), (1, .int (iI (z_1))), (2, .int (iI (z_2)))]) hE.1 hE.2.1 dX1_setKeeper_40 hl (by decide) rfl (fun ls hl => ?_)
                refine lv_aload_n hE.1 hE.2.1 dX1_setKeeper_42 rfl (lv_at hl 2 rfl) ?_
                refine x_get (x := .ref (ad 20)) hE hK hP 13 (Nat.lt_of_lt_of_le (by decide) hNN) (xG_1 rfl) rfl hin1 17 (by decide) mw_239 rfl dX1_setKeeper_43 ?_
                refine lv_iload_n hE.1 hE.2.1 dX1_setKeeper_46 rfl (lv_at hl 1 rfl) ?_
                refine lv_aload_n hE.1 hE.2.1 dX1_setKeeper_47 rfl (lv_at hl 2 rfl) ?_
                refine x_get (x := .ref (ad 20)) hE hK hP 13 (Nat.lt_of_lt_of_le (by decide) hNN) (xG_1 rfl) rfl hin1 17 (by decide) mw_239 rfl dX1_setKeeper_48 ?_
                refine lv_iload_n hE.1 hE.2.1 dX1_setKeeper_51 rfl (lv_at hl 1 rfl) ?_
                refine x_iald (j := iI (y4_3)) hE hK hP 20 (Nat.lt_of_lt_of_le (by decide) hNN) (xG_10 rfl) (iI_in (n := 3) (by omega)) dX1_setKeeper_52 ?_
                obtain ⟨z25, hz25, ez25⟩ := iI_of (arl4 20 (iI (y4_3)).toNatClampNeg)
                refine x_top ez25 ?_
                refine lv_iconst (v := iI (1)) hE.1 hE.2.1 dX1_setKeeper_53 (by decide) ?_
                refine lv_iload_n hE.1 hE.2.1 dX1_setKeeper_54 rfl (lv_at hl 3 rfl) ?_
                refine lv_ishl hE.1 hE.2.1 dX1_setKeeper_55 ?_
                obtain ⟨z26, hz26, ez26⟩ := iI_shl1 (a := z_1) (by omega)
                refine x_top ez26 ?_
                refine lv_iconst (v := iI (-1)) hE.1 hE.2.1 dX1_setKeeper_56 (by decide) ?_
                refine lv_ixor hE.1 hE.2.1 dX1_setKeeper_57 ?_
                obtain ⟨z27, hz27, ez27⟩ := iI_of (iI (z26) ^^^ iI (-1))
                refine x_top ez27 ?_
                refine lv_iand hE.1 hE.2.1 dX1_setKeeper_58 ?_
                obtain ⟨z28, hz28, ez28⟩ := iI_of (iI (z25) &&& iI (z27))
                refine x_top ez28 ?_
                refine lv_iload hE.1 hE.2.1 dX1_setKeeper_59 (lv_at hl 0 rfl) ?_
                refine s_if_eq (a := 1) (tgt := 70) hE.1 hE.2.1 (by omega) dX1_setKeeper_61 (by decide) (fun c29 => False.elim (by omega)) (fun _ => ?_)
                refine lv_iconst (v := iI (1)) hE.1 hE.2.1 dX1_setKeeper_64 (by decide) ?_
                refine lv_iload_n hE.1 hE.2.1 dX1_setKeeper_65 rfl (lv_at hl 3 rfl) ?_
                refine lv_ishl hE.1 hE.2.1 dX1_setKeeper_66 ?_
                obtain ⟨z30, hz30, ez30⟩ := iI_shl1 (a := z_1) (by omega)
                refine x_top ez30 ?_
                refine lv_goto (tgt := 71) hE.1 hE.2.1 dX1_setKeeper_67 (by decide) ?_
                refine lv_ior hE.1 hE.2.1 dX1_setKeeper_71 ?_
                obtain ⟨z31, hz31, ez31⟩ := iI_of (iI (z28) ||| iI (z30))
                refine x_top ez31 ?_
                refine x_iast (j := iI (y4_3)) hE hK hN hP hS 20 (Nat.lt_of_lt_of_le (by decide) hNN) (fun _ => xG_10 rfl) (iI_in (n := 3) (by omega)) dX1_setKeeper_72 (fun ar32 H locs ha32 hP hS => ?_)
                refine lv_iinc (v := iI (y4_3 + 1)) (lv' := [(3, .int (iI (y4_3 + 1))), (4, .int (iI (1))), (0, .ref (ad 13)), (1, .int (iI (z_1))), (2, .int (iI (z_2)))]) hE.1 hE.2.1 dX1_setKeeper_73 hl (k := 1) rfl ((iI_add (y4_3) (1)).trans (congrArg iI (by omega))) (by decide) rfl (fun ls hl => ?_)
                refine lv_goto (tgt := 20) hE.1 hE.2.1 dX1_setKeeper_76 (by decide) ?_
                exact ih4 _ (by omega) (y4_3 + 1) vl4 ar32 all4 _ _ _ rfl (by omega) hI (fun i j h => (hfr4 i j h)) hP hS (lv_sub hl [0, 2, 3, 4] rfl)
      exact loop4 _ (0) v ar3 al _ _ _ rfl (by omega) hI (fun _ _ _ => rfl) hP hS hl
    · skip
      exact kr _ _ _ _ _ _ _ ⟨hI, fun i j h => rfl⟩ hP hS dX1_setKeeper_10

theorem dX4_readKeeps_0 : decode cX4_readKeeps 0 = .ok (.aload_n 0, 1) := by decide +kernel
theorem dX4_readKeeps_1 : decode cX4_readKeeps 1 = .ok (.invokevirtual 33, 3) := by decide +kernel
theorem dX4_readKeeps_4 : decode cX4_readKeeps 4 = .ok (.aload_n 0, 1) := by decide +kernel
theorem dX4_readKeeps_5 : decode cX4_readKeeps 5 = .ok (.iconst 0, 1) := by decide +kernel
theorem dX4_readKeeps_6 : decode cX4_readKeeps 6 = .ok (.aload_n 1, 1) := by decide +kernel
theorem dX4_readKeeps_7 : decode cX4_readKeeps 7 = .ok (.getfield 102, 3) := by decide +kernel
theorem dX4_readKeeps_10 : decode cX4_readKeeps 10 = .ok (.iconst 1, 1) := by decide +kernel
theorem dX4_readKeeps_11 : decode cX4_readKeeps 11 = .ok (.isub, 1) := by decide +kernel
theorem dX4_readKeeps_12 : decode cX4_readKeeps 12 = .ok (.iconst 0, 1) := by decide +kernel
theorem dX4_readKeeps_13 : decode cX4_readKeeps 13 = .ok (.invokevirtual 81, 3) := by decide +kernel
theorem dX4_readKeeps_16 : decode cX4_readKeeps 16 = .ok (.istore_n 2, 1) := by decide +kernel
theorem dX4_readKeeps_17 : decode cX4_readKeeps 17 = .ok (.aload_n 1, 1) := by decide +kernel
theorem dX4_readKeeps_18 : decode cX4_readKeeps 18 = .ok (.aload_n 0, 1) := by decide +kernel
theorem dX4_readKeeps_19 : decode cX4_readKeeps 19 = .ok (.iconst 0, 1) := by decide +kernel
theorem dX4_readKeeps_20 : decode cX4_readKeeps 20 = .ok (.aload_n 1, 1) := by decide +kernel
theorem dX4_readKeeps_21 : decode cX4_readKeeps 21 = .ok (.getfield 78, 3) := by decide +kernel
theorem dX4_readKeeps_24 : decode cX4_readKeeps 24 = .ok (.iconst 1, 1) := by decide +kernel
theorem dX4_readKeeps_25 : decode cX4_readKeeps 25 = .ok (.isub, 1) := by decide +kernel
theorem dX4_readKeeps_26 : decode cX4_readKeeps 26 = .ok (.iconst 0, 1) := by decide +kernel
theorem dX4_readKeeps_27 : decode cX4_readKeeps 27 = .ok (.invokevirtual 81, 3) := by decide +kernel
theorem dX4_readKeeps_30 : decode cX4_readKeeps 30 = .ok (.iload_n 2, 1) := by decide +kernel
theorem dX4_readKeeps_31 : decode cX4_readKeeps 31 = .ok (.invokevirtual 157, 3) := by decide +kernel
theorem dX4_readKeeps_34 : decode cX4_readKeeps 34 = .ok (.return_, 1) := by decide +kernel
set_option maxHeartbeats 4000000 in
set_option maxRecDepth 100000 in
theorem s_X4_readKeeps_1_13 (l : Launch) (D : va_G) (K : Nat → ClassId) (ad : Nat → Nat) (mm : Option Nat) (N : Nat) (hNN : 132 ≤ N) (v ar : sI) (al : sL) (hI : XI v) : Met l yX4_readKeeps (wM yX4_readKeeps cX4_readKeeps 3 none) (rmD 3) (va_Pc [.ref (ad 1), .ref (ad 13)] (wPre D K ad (xG ad K mm) N v ar al)) (va_Qv (fun u : sT => XI u.1 ∧ (∀ i j : Nat, (i, j) ∉ ([(1, 1), (1, 2), (1, 4), (1, 5), (1, 6)] : List (Nat × Nat)) → u.1 i j = v i j)) (wB D ad (xG ad K mm) N) (inW ad N)) 0 0 (inW ad N) := by
  refine s_metV (by decide) (Nat.le_of_ble_eq_true rfl) ?_
  intro p e s m below meth c ls args Q hE hB hl kr
  have hE : CallFix p m c cX4_readKeeps 3 s args tbG "TaleCourt$Reader" := hE
  obtain ⟨hP, hK, hN⟩ := hB
  have hS : va_S (inW ad N) s.heap s.heap [] := va_S.rf
  have hl : lv_has ls 3 [(0, .ref (ad 1)), (1, .ref (ad 13))] := hl
  refine lv_aload_n hE.1 hE.2.1 dX4_readKeeps_0 rfl (lv_at hl 0 rfl) ?_
  refine x_vv (nn := 0) (As := []) (rest := []) hE hK hN hP hS (s_X4_step_1 l D K ad mm N hNN v ar al hI  ) (x_recv hK hP 1 (Nat.lt_of_lt_of_le (by decide) hNN) (xG_4 rfl) rfl) rfl mw_538 mw_540 mw_0 mw_115 mw_541 (by decide +kernel) ⟨by decide, by decide⟩ hl.1 rfl (Nat.le_of_ble_eq_true rfl) ⟨Nat.zero_le _, Nat.zero_le _⟩ dX4_readKeeps_1 (fun v1 ar1 al1 H locs hq1 hP hS => ?_)
  obtain ⟨hI, hq1⟩ := hq1
  have hI : XI v1 := hI
  refine lv_aload_n hE.1 hE.2.1 dX4_readKeeps_4 rfl (lv_at hl 0 rfl) ?_
  refine lv_iconst (v := iI (0)) hE.1 hE.2.1 dX4_readKeeps_5 (by decide) ?_
  refine lv_aload_n hE.1 hE.2.1 dX4_readKeeps_6 rfl (lv_at hl 1 rfl) ?_
  obtain ⟨z2, hz2, ez2⟩ := XI_get hI 13 0 0 3 (by decide)
  refine x_get (x := .int (v1 13 0)) hE hK hP 13 (Nat.lt_of_lt_of_le (by decide) hNN) (xG_1 rfl) rfl hin1 0 (by decide) mw_180 rfl dX4_readKeeps_7 ?_
  refine x_top (y := iI (z2)) ez2 ?_
  refine lv_iconst (v := iI (1)) hE.1 hE.2.1 dX4_readKeeps_10 (by decide) ?_
  refine lv_isub hE.1 hE.2.1 dX4_readKeeps_11 ?_
  refine x_top (y := iI (z2 - 1)) ((iI_sub (z2) (1)).trans (congrArg iI (by omega))) ?_
  refine lv_iconst (v := iI (0)) hE.1 hE.2.1 dX4_readKeeps_12 (by decide) ?_
  refine x_vi (nn := 3) (As := [.int (iI (0)), .int (iI (z2 - 1)), .int (iI (0))]) (rest := []) hE hK hN hP hS (s_X4_takeNumber_1 l D K ad mm N hNN v1 ar1 al1 hI  (0) (by omega) (z2 - 1) (by omega) (0) (by omega)) (x_recv hK hP 1 (Nat.lt_of_lt_of_le (by decide) hNN) (xG_4 rfl) rfl) rfl mw_619 mw_621 mw_7 mw_115 mw_622 (by decide +kernel) ⟨by decide, by decide⟩ hl.1 rfl (Nat.le_of_ble_eq_true rfl) ⟨Nat.zero_le _, Nat.zero_le _⟩ dX4_readKeeps_13 (fun r3 v3 ar3 al3 H locs hq3 hP hS => ?_)
  obtain ⟨⟨z3, hz3, rfl⟩, hI, hq3⟩ := hq3
  have hI : XI v3 := hI
  refine lv_istore_n (lv' := [(2, .int (iI (z3))), (0, .ref (ad 1)), (1, .ref (ad 13))]) hE.1 hE.2.1 dX4_readKeeps_16 rfl hl (by decide) rfl (fun ls hl => ?_)
  refine lv_aload_n hE.1 hE.2.1 dX4_readKeeps_17 rfl (lv_at hl 2 rfl) ?_
  refine lv_aload_n hE.1 hE.2.1 dX4_readKeeps_18 rfl (lv_at hl 1 rfl) ?_
  refine lv_iconst (v := iI (0)) hE.1 hE.2.1 dX4_readKeeps_19 (by decide) ?_
  refine lv_aload_n hE.1 hE.2.1 dX4_readKeeps_20 rfl (lv_at hl 2 rfl) ?_
  obtain ⟨z4, hz4, ez4⟩ := XI_get hI 13 2 0 9 (by decide)
  refine x_get (x := .int (v3 13 2)) hE hK hP 13 (Nat.lt_of_lt_of_le (by decide) hNN) (xG_1 rfl) rfl hin1 2 (by decide) mw_188 rfl dX4_readKeeps_21 ?_
  refine x_top (y := iI (z4)) ez4 ?_
  refine lv_iconst (v := iI (1)) hE.1 hE.2.1 dX4_readKeeps_24 (by decide) ?_
  refine lv_isub hE.1 hE.2.1 dX4_readKeeps_25 ?_
  refine x_top (y := iI (z4 - 1)) ((iI_sub (z4) (1)).trans (congrArg iI (by omega))) ?_
  refine lv_iconst (v := iI (0)) hE.1 hE.2.1 dX4_readKeeps_26 (by decide) ?_
  refine x_vi (nn := 3) (As := [.int (iI (0)), .int (iI (z4 - 1)), .int (iI (0))]) (rest := [.ref (ad 13)]) hE hK hN hP hS (s_X4_takeNumber_1 l D K ad mm N hNN v3 ar3 al3 hI  (0) (by omega) (z4 - 1) (by omega) (0) (by omega)) (x_recv hK hP 1 (Nat.lt_of_lt_of_le (by decide) hNN) (xG_4 rfl) rfl) rfl mw_619 mw_621 mw_7 mw_115 mw_622 (by decide +kernel) ⟨by decide, by decide⟩ hl.1 rfl (Nat.le_of_ble_eq_true rfl) ⟨Nat.zero_le _, Nat.zero_le _⟩ dX4_readKeeps_27 (fun r5 v5 ar5 al5 H locs hq5 hP hS => ?_)
  obtain ⟨⟨z5, hz5, rfl⟩, hI, hq5⟩ := hq5
  have hI : XI v5 := hI
  refine lv_iload_n hE.1 hE.2.1 dX4_readKeeps_30 rfl (lv_at hl 0 rfl) ?_
  refine x_vv (nn := 2) (As := [.int (iI (z5)), .int (iI (z3))]) (rest := []) hE hK hN hP hS (s_X1_setKeeper_13 l D K ad mm N hNN v5 ar5 al5 hI  (z5) (by omega) (z3) (by omega)) (x_recv hK hP 13 (Nat.lt_of_lt_of_le (by decide) hNN) (xG_1 rfl) rfl) rfl mw_663 mw_664 mw_665 mw_116 mw_666 (by decide +kernel) ⟨by decide, by decide⟩ hl.1 rfl (Nat.le_of_ble_eq_true rfl) ⟨Nat.zero_le _, Nat.zero_le _⟩ dX4_readKeeps_31 (fun v6 ar6 al6 H locs hq6 hP hS => ?_)
  obtain ⟨hI, hq6⟩ := hq6
  have hI : XI v6 := hI
  exact kr _ _ _ _ _ _ _ ⟨hI, fun i j h => ((hq6 i j (fun q => h (mem_sub (by decide) q))).trans ((hq5 i j (fun q => h (mem_sub (by decide) q))).trans ((hq3 i j (fun q => h (mem_sub (by decide) q))).trans (hq1 i j (fun q => h (mem_sub (by decide) q))))))⟩ hP hS dX4_readKeeps_34

set_option maxHeartbeats 4000000 in
set_option maxRecDepth 100000 in
theorem s_X4_isWord_1_1013 (l : Launch) (D : va_G) (K : Nat → ClassId) (ad : Nat → Nat) (mm : Option Nat) (N : Nat) (hNN : 132 ≤ N) (v ar : sI) (al : sL) (hI : XI v) (tk tv : Nat → Nat) : Met l yX4_isWord (wM yX4_isWord cX4_isWord 3 (some .boolean)) (rmD 4) (va_Pc [.ref (ad 1), .ref (tk 13)] (twPre D K ad (xG ad K mm) N v ar al tk tv)) (va_Qi (fun (r : Int32) (u : sT) => (∃ z : Int, (0 ≤ z ∧ z ≤ 1) ∧ r = iI z) ∧ XI u.1 ∧ (∀ i j : Nat, (i, j) ∉ ([] : List (Nat × Nat)) → u.1 i j = v i j)) (wB D ad (xG ad K mm) N) (inW ad N)) 0 0 (inW ad N) := by
  refine s_metI (by decide) (Nat.le_of_ble_eq_true rfl) ?_
  intro p e s m below meth c ls args Q hE hB hl kr
  have hE : CallFix p m c cX4_isWord 3 s args tbG "TaleCourt$Reader" := hE
  obtain ⟨⟨hP, hK, hN⟩, hT, hTR⟩ := hB
  have hS : va_S (inW ad N) s.heap s.heap [] := va_S.rf
  have hl : lv_has ls 3 [(0, .ref (ad 1)), (1, .ref (tk 13))] := hl
  refine lv_aload_n hE.1 hE.2.1 dX4_isWord_0 rfl (lv_at hl 0 rfl) ?_
  obtain ⟨z1, hz1, ez1⟩ := iI_of (v 1 6)
  refine x_get (x := .int (v 1 6)) hE hK hP 1 (Nat.lt_of_lt_of_le (by decide) hNN) (xG_4 rfl) rfl hin4 6 (by decide) mw_155 rfl dX4_isWord_1 ?_
  refine x_top (y := iI (z1)) ez1 ?_
  refine lv_iconst (v := iI (2)) hE.1 hE.2.1 dX4_isWord_4 (by decide) ?_
  refine s_icmp_ne (a := z1) (b := 2) (tgt := 24) hE.1 hE.2.1 (by omega) (by omega) dX4_isWord_5 (by decide) (fun c2 => ?_) (fun c2 => ?_)
  · skip
    refine lv_iconst (v := iI (0)) hE.1 hE.2.1 dX4_isWord_24 (by decide) ?_
    exact kr _ v ar al _ _ _ _ (nar01 (by omega)) ⟨⟨0, by omega, rfl⟩, hI, fun i j h => rfl⟩ hP hS dX4_isWord_25
  · skip
    refine lv_aload_n hE.1 hE.2.1 dX4_isWord_8 rfl (lv_at hl 0 rfl) ?_
    obtain ⟨z3, hz3, ez3⟩ := iI_of (v 1 5)
    refine x_get (x := .int (v 1 5)) hE hK hP 1 (Nat.lt_of_lt_of_le (by decide) hNN) (xG_4 rfl) rfl hin4 5 (by decide) mw_154 rfl dX4_isWord_9 ?_
    refine x_top (y := iI (z3)) ez3 ?_
    refine lv_aload_n hE.1 hE.2.1 dX4_isWord_12 rfl (lv_at hl 0 rfl) ?_
    obtain ⟨z4, hz4, ez4⟩ := iI_of (v 1 4)
    refine x_get (x := .int (v 1 4)) hE hK hP 1 (Nat.lt_of_lt_of_le (by decide) hNN) (xG_4 rfl) rfl hin4 4 (by decide) mw_153 rfl dX4_isWord_13 ?_
    refine x_top (y := iI (z4)) ez4 ?_
    refine lv_isub hE.1 hE.2.1 dX4_isWord_16 ?_
    obtain ⟨z5, hz5, ez5⟩ := iI_of (iI (z3) - iI (z4))
    refine x_top ez5 ?_
    refine lv_aload_n hE.1 hE.2.1 dX4_isWord_17 rfl (lv_at hl 1 rfl) ?_
    refine x_vp (nn := 0) (As := []) (rest := [.int (iI (z5))]) hE (t_length l tk tv (inW ad N) 13 (by decide) 3 rfl) tP_blind (tP_now hT hS) (vk_recv hT.1 (by decide) hS) rfl mw_566 mw_567 mw_568 mw_125 mw_569 (by decide +kernel) ⟨by decide, by decide⟩ hl.1 rfl (Nat.le_of_ble_eq_true rfl) ⟨Nat.zero_le _, Nat.zero_le _⟩ dX4_isWord_18 (fun r6 hr6 => ?_)
    subst hr6
    refine s_icmp_eq (a := z5) (b := 3) (tgt := 26) hE.1 hE.2.1 (by omega) (by omega) dX4_isWord_21 (by decide) (fun c7 => ?_) (fun c7 => ?_)
    · skip
      refine lv_iconst (v := iI (0)) hE.1 hE.2.1 dX4_isWord_26 (by decide) ?_
      refine lv_istore_n (lv' := [(2, .int (iI (0))), (0, .ref (ad 1)), (1, .ref (tk 13))]) hE.1 hE.2.1 dX4_isWord_27 rfl hl (by decide) rfl (fun ls hl => ?_)
      have loop8 : ∀ (k8 : Nat) (y8_2 : Int) (vl8 arl8 : sI) (all8 : sL) (H : Heap) (locs : List Loc) (ls : Array Slot), (8 - y8_2).toNat = k8 → (0 ≤ y8_2 ∧ y8_2 ≤ 8) → XI vl8 → (∀ i j : Nat, (i, j) ∉ ([] : List (Nat × Nat)) → vl8 i j = v i j) → va_P D xcl (wW ad (xG ad K mm) N vl8 arl8 all8) H → va_S (inW ad N) s.heap H locs → lv_has ls 3 [(2, .int (iI (y8_2))), (0, .ref (ad 1)), (1, .ref (tk 13))] → W p l e (rmD 4) s m args below meth c H locs 0 0 Q (F0 m 28 ls []) := by
        intro k8
        induction k8 using Nat.strongRecOn with
        | _ k8 ih8 =>
          intro y8_2 vl8 arl8 all8 H locs ls hk8 hb_y8_2 hI hfr8 hP hS hl
          refine lv_iload_n hE.1 hE.2.1 dX4_isWord_28 rfl (lv_at hl 0 rfl) ?_
          refine lv_aload_n hE.1 hE.2.1 dX4_isWord_29 rfl (lv_at hl 2 rfl) ?_
          refine x_vp (nn := 0) (As := []) (rest := [.int (iI (y8_2))]) hE (t_length l tk tv (inW ad N) 13 (by decide) 3 rfl) tP_blind (tP_now hT hS) (vk_recv hT.1 (by decide) hS) rfl mw_566 mw_567 mw_568 mw_125 mw_569 (by decide +kernel) ⟨by decide, by decide⟩ hl.1 rfl (Nat.le_of_ble_eq_true rfl) ⟨Nat.zero_le _, Nat.zero_le _⟩ dX4_isWord_30 (fun r9 hr9 => ?_)
          subst hr9
          refine s_icmp_ge (a := y8_2) (b := 3) (tgt := 62) hE.1 hE.2.1 (by omega) (by omega) dX4_isWord_33 (by decide) (fun c10 => ?_) (fun c10 => ?_)
          · skip
            refine lv_iconst (v := iI (1)) hE.1 hE.2.1 dX4_isWord_62 (by decide) ?_
            exact kr _ vl8 arl8 all8 _ _ _ _ (nar01 (by omega)) ⟨⟨1, by omega, rfl⟩, hI, fun i j h => (hfr8 i j (fun q => h (mem_sub (by decide) q)))⟩ hP hS dX4_isWord_63
          · skip
            refine lv_aload_n hE.1 hE.2.1 dX4_isWord_36 rfl (lv_at hl 1 rfl) ?_
            refine lv_aload_n hE.1 hE.2.1 dX4_isWord_37 rfl (lv_at hl 1 rfl) ?_
            refine x_get (x := .int (vl8 1 4)) hE hK hP 1 (Nat.lt_of_lt_of_le (by decide) hNN) (xG_4 rfl) rfl hin4 4 (by decide) mw_153 rfl dX4_isWord_38 ?_
            refine x_top (y := iI (z4)) ((hfr8 1 4 (by decide)).trans ez4) ?_
            refine lv_iload_n hE.1 hE.2.1 dX4_isWord_41 rfl (lv_at hl 0 rfl) ?_
            refine lv_iadd hE.1 hE.2.1 dX4_isWord_42 ?_
            obtain ⟨z11, hz11, ez11⟩ := iI_of (iI (z4) + iI (y8_2))
            refine x_top ez11 ?_
            refine x_vp (nn := 1) (As := [.int (iI (z11))]) (rest := []) hE (s_X4_byteAt_1 l D K ad mm N hNN vl8 arl8 all8 hI  (z11) (by omega)) wPre_blind (wPre_now hK hN hP) (x_recv hK hP 1 (Nat.lt_of_lt_of_le (by decide) hNN) (xG_4 rfl) rfl) rfl mw_542 mw_544 mw_1 mw_115 mw_545 (by decide +kernel) ⟨by decide, by decide⟩ hl.1 rfl (Nat.le_of_ble_eq_true rfl) ⟨Nat.zero_le _, Nat.zero_le _⟩ dX4_isWord_43 (fun r12 hr12 => ?_)
            obtain ⟨z12, hz12, rfl⟩ := hr12
            refine lv_aload_n hE.1 hE.2.1 dX4_isWord_46 rfl (lv_at hl 2 rfl) ?_
            refine lv_iload_n hE.1 hE.2.1 dX4_isWord_47 rfl (lv_at hl 0 rfl) ?_
            refine x_vp (nn := 1) (As := [.int (iI (y8_2))]) (rest := [.int (iI (z12))]) hE (t_charAt l tk tv (inW ad N) 13 (by decide) (y8_2) (show 0 ≤ y8_2 ∧ y8_2 < ((3 : Nat) : Int) by omega)) tP_blind (tP_now hT hS) (vk_recv hT.1 (by decide) hS) rfl mw_576 mw_577 mw_578 mw_125 mw_579 (by decide +kernel) ⟨by decide, by decide⟩ hl.1 rfl (Nat.le_of_ble_eq_true rfl) ⟨Nat.zero_le _, Nat.zero_le _⟩ dX4_isWord_48 (fun r13 _ => ?_)
            obtain ⟨z13, hz13, rfl⟩ := iI_of r13
            refine s_icmp_eq (a := z12) (b := z13) (tgt := 56) hE.1 hE.2.1 (by omega) (by omega) dX4_isWord_51 (by decide) (fun c14 => ?_) (fun c14 => ?_)
            · skip
              refine lv_iinc (v := iI (y8_2 + 1)) (lv' := [(2, .int (iI (y8_2 + 1))), (0, .ref (ad 1)), (1, .ref (tk 13))]) hE.1 hE.2.1 dX4_isWord_56 hl (k := 0) rfl ((iI_add (y8_2) (1)).trans (congrArg iI (by omega))) (by decide) rfl (fun ls hl => ?_)
              refine lv_goto (tgt := 28) hE.1 hE.2.1 dX4_isWord_59 (by decide) ?_
              exact ih8 _ (by omega) (y8_2 + 1) vl8 arl8 all8 _ _ _ rfl (by omega) hI (fun i j h => (hfr8 i j h)) hP hS (lv_sub hl [0, 1, 2] rfl)
            · skip
              refine lv_iconst (v := iI (0)) hE.1 hE.2.1 dX4_isWord_54 (by decide) ?_
              exact kr _ vl8 arl8 all8 _ _ _ _ (nar01 (by omega)) ⟨⟨0, by omega, rfl⟩, hI, fun i j h => (hfr8 i j (fun q => h (mem_sub (by decide) q)))⟩ hP hS dX4_isWord_55
      exact loop8 _ (0) v ar al _ _ _ rfl (by omega) hI (fun _ _ _ => rfl) hP hS hl
    · skip
      refine lv_iconst (v := iI (0)) hE.1 hE.2.1 dX4_isWord_24 (by decide) ?_
      exact kr _ v ar al _ _ _ _ (nar01 (by omega)) ⟨⟨0, by omega, rfl⟩, hI, fun i j h => rfl⟩ hP hS dX4_isWord_25

set_option maxHeartbeats 4000000 in
set_option maxRecDepth 100000 in
theorem s_X4_takeWord_1_1013 (l : Launch) (D : va_G) (K : Nat → ClassId) (ad : Nat → Nat) (mm : Option Nat) (N : Nat) (hNN : 132 ≤ N) (v ar : sI) (al : sL) (hI : XI v) (tk tv : Nat → Nat) : Met l yX4_takeWord (wM yX4_takeWord cX4_takeWord 2 none) (rmD 5) (va_Pc [.ref (ad 1), .ref (tk 13)] (twPre D K ad (xG ad K mm) N v ar al tk tv)) (va_Qv (fun u : sT => XI u.1 ∧ (∀ i j : Nat, (i, j) ∉ ([(1, 1), (1, 2), (1, 4), (1, 5), (1, 6)] : List (Nat × Nat)) → u.1 i j = v i j)) (wB D ad (xG ad K mm) N) (inW ad N)) 0 0 (inW ad N) := by
  refine s_metV (by decide) (Nat.le_of_ble_eq_true rfl) ?_
  intro p e s m below meth c ls args Q hE hB hl kr
  have hE : CallFix p m c cX4_takeWord 2 s args tbG "TaleCourt$Reader" := hE
  obtain ⟨⟨hP, hK, hN⟩, hT, hTR⟩ := hB
  have hS : va_S (inW ad N) s.heap s.heap [] := va_S.rf
  have hl : lv_has ls 2 [(0, .ref (ad 1)), (1, .ref (tk 13))] := hl
  refine lv_aload_n hE.1 hE.2.1 dX4_takeWord_0 rfl (lv_at hl 0 rfl) ?_
  refine lv_aload_n hE.1 hE.2.1 dX4_takeWord_1 rfl (lv_at hl 1 rfl) ?_
  refine x_viB (nn := 1) (As := [.ref (tk 13)]) (rest := []) hE hK hN hP hS (s_X4_isWord_1_1013 l D K ad mm N hNN v ar al hI tk tv  ) tw_blind (tw_now hK hN hP hT hTR hS) (x_recv hK hP 1 (Nat.lt_of_lt_of_le (by decide) hNN) (xG_4 rfl) rfl) rfl mw_562 mw_564 mw_5 mw_115 mw_565 (by decide +kernel) ⟨by decide, by decide⟩ hl.1 rfl (Nat.le_of_ble_eq_true rfl) ⟨Nat.zero_le _, Nat.zero_le _⟩ dX4_takeWord_2 (fun r1 v1 ar1 al1 H locs hq1 hP hS => ?_)
  obtain ⟨⟨z1, hz1, rfl⟩, hI, hq1⟩ := hq1
  have hI : XI v1 := hI
  refine s_if_eq (a := z1) (tgt := 15) hE.1 hE.2.1 (by omega) dX4_takeWord_5 (by decide) (fun c2 => ?_) (fun c2 => ?_)
  · skip
    refine lv_aload_n hE.1 hE.2.1 dX4_takeWord_15 rfl (lv_at hl 0 rfl) ?_
    refine lv_iconst (v := iI (1)) hE.1 hE.2.1 dX4_takeWord_16 (by decide) ?_
    refine x_vv (nn := 1) (As := [.int (iI (1))]) (rest := []) hE hK hN hP hS (s_X4_fail_1 l D K ad mm N hNN v1 ar1 al1 hI  (1) (by omega)) (x_recv hK hP 1 (Nat.lt_of_lt_of_le (by decide) hNN) (xG_4 rfl) rfl) rfl mw_614 mw_616 mw_6 mw_115 mw_617 (by decide +kernel) ⟨by decide, by decide⟩ hl.1 rfl (Nat.le_of_ble_eq_true rfl) ⟨Nat.zero_le _, Nat.zero_le _⟩ dX4_takeWord_17 (fun v3 ar3 al3 H locs hq3 hP hS => ?_)
    obtain ⟨hI, hq3⟩ := hq3
    have hI : XI v3 := hI
    exact kr v3 ar3 al3 _ _ _ _ ⟨hI, fun i j h => ((hq3 i j (fun q => h (mem_sub (by decide) q))).trans (hq1 i j (fun q => h (mem_sub (by decide) q))))⟩ hP hS dX4_takeWord_20
  · skip
    refine lv_aload_n hE.1 hE.2.1 dX4_takeWord_8 rfl (lv_at hl 0 rfl) ?_
    refine x_vv (nn := 0) (As := []) (rest := []) hE hK hN hP hS (s_X4_step_1 l D K ad mm N hNN v1 ar1 al1 hI  ) (x_recv hK hP 1 (Nat.lt_of_lt_of_le (by decide) hNN) (xG_4 rfl) rfl) rfl mw_538 mw_540 mw_0 mw_115 mw_541 (by decide +kernel) ⟨by decide, by decide⟩ hl.1 rfl (Nat.le_of_ble_eq_true rfl) ⟨Nat.zero_le _, Nat.zero_le _⟩ dX4_takeWord_9 (fun v4 ar4 al4 H locs hq4 hP hS => ?_)
    obtain ⟨hI, hq4⟩ := hq4
    have hI : XI v4 := hI
    refine lv_goto (tgt := 20) hE.1 hE.2.1 dX4_takeWord_12 (by decide) ?_
    exact kr v4 ar4 al4 _ _ _ _ ⟨hI, fun i j h => ((hq4 i j (fun q => h (mem_sub (by decide) q))).trans (hq1 i j (fun q => h (mem_sub (by decide) q))))⟩ hP hS dX4_takeWord_20

theorem dX4_readClash_0 : decode cX4_readClash 0 = .ok (.aload_n 0, 1) := by decide +kernel
theorem dX4_readClash_1 : decode cX4_readClash 1 = .ok (.invokevirtual 33, 3) := by decide +kernel
theorem dX4_readClash_4 : decode cX4_readClash 4 = .ok (.aload_n 0, 1) := by decide +kernel
theorem dX4_readClash_5 : decode cX4_readClash 5 = .ok (.iconst 0, 1) := by decide +kernel
theorem dX4_readClash_6 : decode cX4_readClash 6 = .ok (.aload_n 1, 1) := by decide +kernel
theorem dX4_readClash_7 : decode cX4_readClash 7 = .ok (.getfield 78, 3) := by decide +kernel
theorem dX4_readClash_10 : decode cX4_readClash 10 = .ok (.iconst 1, 1) := by decide +kernel
theorem dX4_readClash_11 : decode cX4_readClash 11 = .ok (.isub, 1) := by decide +kernel
theorem dX4_readClash_12 : decode cX4_readClash 12 = .ok (.iconst 0, 1) := by decide +kernel
theorem dX4_readClash_13 : decode cX4_readClash 13 = .ok (.invokevirtual 81, 3) := by decide +kernel
theorem dX4_readClash_16 : decode cX4_readClash 16 = .ok (.istore_n 2, 1) := by decide +kernel
theorem dX4_readClash_17 : decode cX4_readClash 17 = .ok (.aload_n 0, 1) := by decide +kernel
theorem dX4_readClash_18 : decode cX4_readClash 18 = .ok (.ldc 149, 2) := by decide +kernel
theorem dX4_readClash_20 : decode cX4_readClash 20 = .ok (.invokevirtual 96, 3) := by decide +kernel
theorem dX4_readClash_23 : decode cX4_readClash 23 = .ok (.aload_n 0, 1) := by decide +kernel
theorem dX4_readClash_24 : decode cX4_readClash 24 = .ok (.iconst 0, 1) := by decide +kernel
theorem dX4_readClash_25 : decode cX4_readClash 25 = .ok (.aload_n 1, 1) := by decide +kernel
theorem dX4_readClash_26 : decode cX4_readClash 26 = .ok (.getfield 78, 3) := by decide +kernel
theorem dX4_readClash_29 : decode cX4_readClash 29 = .ok (.iconst 1, 1) := by decide +kernel
theorem dX4_readClash_30 : decode cX4_readClash 30 = .ok (.isub, 1) := by decide +kernel
theorem dX4_readClash_31 : decode cX4_readClash 31 = .ok (.iconst 1, 1) := by decide +kernel
theorem dX4_readClash_32 : decode cX4_readClash 32 = .ok (.iload_n 2, 1) := by decide +kernel
theorem dX4_readClash_33 : decode cX4_readClash 33 = .ok (.ishl, 1) := by decide +kernel
theorem dX4_readClash_34 : decode cX4_readClash 34 = .ok (.aload_n 1, 1) := by decide +kernel
theorem dX4_readClash_35 : decode cX4_readClash 35 = .ok (.getfield 151, 3) := by decide +kernel
theorem dX4_readClash_38 : decode cX4_readClash 38 = .ok (.iload_n 2, 1) := by decide +kernel
theorem dX4_readClash_39 : decode cX4_readClash 39 = .ok (.iaload, 1) := by decide +kernel
theorem dX4_readClash_40 : decode cX4_readClash 40 = .ok (.ior, 1) := by decide +kernel
theorem dX4_readClash_41 : decode cX4_readClash 41 = .ok (.invokevirtual 81, 3) := by decide +kernel
theorem dX4_readClash_44 : decode cX4_readClash 44 = .ok (.istore_n 3, 1) := by decide +kernel
theorem dX4_readClash_45 : decode cX4_readClash 45 = .ok (.aload_n 1, 1) := by decide +kernel
theorem dX4_readClash_46 : decode cX4_readClash 46 = .ok (.getfield 151, 3) := by decide +kernel
theorem dX4_readClash_49 : decode cX4_readClash 49 = .ok (.iload_n 2, 1) := by decide +kernel
theorem dX4_readClash_50 : decode cX4_readClash 50 = .ok (.dup2, 1) := by decide +kernel
theorem dX4_readClash_51 : decode cX4_readClash 51 = .ok (.iaload, 1) := by decide +kernel
theorem dX4_readClash_52 : decode cX4_readClash 52 = .ok (.iconst 1, 1) := by decide +kernel
theorem dX4_readClash_53 : decode cX4_readClash 53 = .ok (.iload_n 3, 1) := by decide +kernel
theorem dX4_readClash_54 : decode cX4_readClash 54 = .ok (.ishl, 1) := by decide +kernel
theorem dX4_readClash_55 : decode cX4_readClash 55 = .ok (.ior, 1) := by decide +kernel
theorem dX4_readClash_56 : decode cX4_readClash 56 = .ok (.iastore, 1) := by decide +kernel
theorem dX4_readClash_57 : decode cX4_readClash 57 = .ok (.aload_n 1, 1) := by decide +kernel
theorem dX4_readClash_58 : decode cX4_readClash 58 = .ok (.getfield 151, 3) := by decide +kernel
theorem dX4_readClash_61 : decode cX4_readClash 61 = .ok (.iload_n 3, 1) := by decide +kernel
theorem dX4_readClash_62 : decode cX4_readClash 62 = .ok (.dup2, 1) := by decide +kernel
theorem dX4_readClash_63 : decode cX4_readClash 63 = .ok (.iaload, 1) := by decide +kernel
theorem dX4_readClash_64 : decode cX4_readClash 64 = .ok (.iconst 1, 1) := by decide +kernel
theorem dX4_readClash_65 : decode cX4_readClash 65 = .ok (.iload_n 2, 1) := by decide +kernel
theorem dX4_readClash_66 : decode cX4_readClash 66 = .ok (.ishl, 1) := by decide +kernel
theorem dX4_readClash_67 : decode cX4_readClash 67 = .ok (.ior, 1) := by decide +kernel
theorem dX4_readClash_68 : decode cX4_readClash 68 = .ok (.iastore, 1) := by decide +kernel
theorem dX4_readClash_69 : decode cX4_readClash 69 = .ok (.aload_n 1, 1) := by decide +kernel
theorem dX4_readClash_70 : decode cX4_readClash 70 = .ok (.dup, 1) := by decide +kernel
theorem dX4_readClash_71 : decode cX4_readClash 71 = .ok (.getfield 154, 3) := by decide +kernel
theorem dX4_readClash_74 : decode cX4_readClash 74 = .ok (.iconst 1, 1) := by decide +kernel
theorem dX4_readClash_75 : decode cX4_readClash 75 = .ok (.iadd, 1) := by decide +kernel
theorem dX4_readClash_76 : decode cX4_readClash 76 = .ok (.putfield 154, 3) := by decide +kernel
theorem dX4_readClash_79 : decode cX4_readClash 79 = .ok (.return_, 1) := by decide +kernel
set_option maxHeartbeats 4000000 in
set_option maxRecDepth 100000 in
theorem s_X4_readClash_1_13 (l : Launch) (D : va_G) (K : Nat → ClassId) (ad : Nat → Nat) (mm : Option Nat) (N : Nat) (hNN : 132 ≤ N) (v ar : sI) (al : sL) (hI : XI v) (tk tv : Nat → Nat) : Met l yX4_readClash (wM yX4_readClash cX4_readClash 4 none) (rmD 6) (va_Pc [.ref (ad 1), .ref (ad 13)] (twPre D K ad (xG ad K mm) N v ar al tk tv)) (va_Qv (fun u : sT => XI u.1 ∧ (∀ i j : Nat, (i, j) ∉ ([(1, 1), (1, 2), (1, 4), (1, 5), (1, 6), (13, 6)] : List (Nat × Nat)) → u.1 i j = v i j)) (wB D ad (xG ad K mm) N) (inW ad N)) 0 0 (inW ad N) := by
  refine s_metV (by decide) (Nat.le_of_ble_eq_true rfl) ?_
  intro p e s m below meth c ls args Q hE hB hl kr
  have hE : CallFix p m c cX4_readClash 4 s args tbG "TaleCourt$Reader" := hE
  obtain ⟨⟨hP, hK, hN⟩, hT, hTR⟩ := hB
  have hS : va_S (inW ad N) s.heap s.heap [] := va_S.rf
  have hl : lv_has ls 4 [(0, .ref (ad 1)), (1, .ref (ad 13))] := hl
  refine lv_aload_n hE.1 hE.2.1 dX4_readClash_0 rfl (lv_at hl 0 rfl) ?_
  refine x_vv (nn := 0) (As := []) (rest := []) hE hK hN hP hS (s_X4_step_1 l D K ad mm N hNN v ar al hI  ) (x_recv hK hP 1 (Nat.lt_of_lt_of_le (by decide) hNN) (xG_4 rfl) rfl) rfl mw_538 mw_540 mw_0 mw_115 mw_541 (by decide +kernel) ⟨by decide, by decide⟩ hl.1 rfl (Nat.le_of_ble_eq_true rfl) ⟨Nat.zero_le _, Nat.zero_le _⟩ dX4_readClash_1 (fun v1 ar1 al1 H locs hq1 hP hS => ?_)
  obtain ⟨hI, hq1⟩ := hq1
  have hI : XI v1 := hI
  refine lv_aload_n hE.1 hE.2.1 dX4_readClash_4 rfl (lv_at hl 0 rfl) ?_
  refine lv_iconst (v := iI (0)) hE.1 hE.2.1 dX4_readClash_5 (by decide) ?_
  refine lv_aload_n hE.1 hE.2.1 dX4_readClash_6 rfl (lv_at hl 1 rfl) ?_
  obtain ⟨z2, hz2, ez2⟩ := XI_get hI 13 2 0 9 (by decide)
  refine x_get (x := .int (v1 13 2)) hE hK hP 13 (Nat.lt_of_lt_of_le (by decide) hNN) (xG_1 rfl) rfl hin1 2 (by decide) mw_188 rfl dX4_readClash_7 ?_
  refine x_top (y := iI (z2)) ez2 ?_
  refine lv_iconst (v := iI (1)) hE.1 hE.2.1 dX4_readClash_10 (by decide) ?_
  refine lv_isub hE.1 hE.2.1 dX4_readClash_11 ?_
  refine x_top (y := iI (z2 - 1)) ((iI_sub (z2) (1)).trans (congrArg iI (by omega))) ?_
  refine lv_iconst (v := iI (0)) hE.1 hE.2.1 dX4_readClash_12 (by decide) ?_
  refine x_vi (nn := 3) (As := [.int (iI (0)), .int (iI (z2 - 1)), .int (iI (0))]) (rest := []) hE hK hN hP hS (s_X4_takeNumber_1 l D K ad mm N hNN v1 ar1 al1 hI  (0) (by omega) (z2 - 1) (by omega) (0) (by omega)) (x_recv hK hP 1 (Nat.lt_of_lt_of_le (by decide) hNN) (xG_4 rfl) rfl) rfl mw_619 mw_621 mw_7 mw_115 mw_622 (by decide +kernel) ⟨by decide, by decide⟩ hl.1 rfl (Nat.le_of_ble_eq_true rfl) ⟨Nat.zero_le _, Nat.zero_le _⟩ dX4_readClash_13 (fun r3 v3 ar3 al3 H locs hq3 hP hS => ?_)
  obtain ⟨⟨z3, hz3, rfl⟩, hI, hq3⟩ := hq3
  have hI : XI v3 := hI
  refine lv_istore_n (lv' := [(2, .int (iI (z3))), (0, .ref (ad 1)), (1, .ref (ad 13))]) hE.1 hE.2.1 dX4_readClash_16 rfl hl (by decide) rfl (fun ls hl => ?_)
  refine lv_aload_n hE.1 hE.2.1 dX4_readClash_17 rfl (lv_at hl 1 rfl) ?_
  refine va_ldcS (index := 149) (q := tk 13) hE.1 hE.2.1 hE.2.2.2.1 (show vk_R "TaleCourt$Reader" 149 "and" (tk 13) s from hTR 13 (by decide)) dX4_readClash_18 ?_
  refine x_vvB (nn := 1) (As := [.ref (tk 13)]) (rest := []) hE hK hN hP hS (s_X4_takeWord_1_1013 l D K ad mm N hNN v3 ar3 al3 hI tk tv  ) tw_blind (tw_now hK hN hP hT hTR hS) (x_recv hK hP 1 (Nat.lt_of_lt_of_le (by decide) hNN) (xG_4 rfl) rfl) rfl mw_558 mw_560 mw_4 mw_115 mw_561 (by decide +kernel) ⟨by decide, by decide⟩ hl.1 rfl (Nat.le_of_ble_eq_true rfl) ⟨Nat.zero_le _, Nat.zero_le _⟩ dX4_readClash_20 (fun v4 ar4 al4 H locs hq4 hP hS => ?_)
  obtain ⟨hI, hq4⟩ := hq4
  have hI : XI v4 := hI
  refine lv_aload_n hE.1 hE.2.1 dX4_readClash_23 rfl (lv_at hl 1 rfl) ?_
  refine lv_iconst (v := iI (0)) hE.1 hE.2.1 dX4_readClash_24 (by decide) ?_
  refine lv_aload_n hE.1 hE.2.1 dX4_readClash_25 rfl (lv_at hl 2 rfl) ?_
  refine x_get (x := .int (v4 13 2)) hE hK hP 13 (Nat.lt_of_lt_of_le (by decide) hNN) (xG_1 rfl) rfl hin1 2 (by decide) mw_188 rfl dX4_readClash_26 ?_
  refine x_top (y := iI (z2)) ((hq4 13 2 (by decide)).trans ((hq3 13 2 (by decide)).trans ez2)) ?_
  refine lv_iconst (v := iI (1)) hE.1 hE.2.1 dX4_readClash_29 (by decide) ?_
  refine lv_isub hE.1 hE.2.1 dX4_readClash_30 ?_
  refine x_top (y := iI (z2 - 1)) ((iI_sub (z2) (1)).trans (congrArg iI (by omega))) ?_
  refine lv_iconst (v := iI (1)) hE.1 hE.2.1 dX4_readClash_31 (by decide) ?_
  refine lv_iload_n hE.1 hE.2.1 dX4_readClash_32 rfl (lv_at hl 0 rfl) ?_
  refine lv_ishl hE.1 hE.2.1 dX4_readClash_33 ?_
  obtain ⟨z5, hz5, ez5⟩ := iI_shl1 (a := z3) (by omega)
  refine x_top ez5 ?_
  refine lv_aload_n hE.1 hE.2.1 dX4_readClash_34 rfl (lv_at hl 2 rfl) ?_
  refine x_get (x := .ref (ad 19)) hE hK hP 13 (Nat.lt_of_lt_of_le (by decide) hNN) (xG_1 rfl) rfl hin1 16 (by decide) mw_237 rfl dX4_readClash_35 ?_
  refine lv_iload_n hE.1 hE.2.1 dX4_readClash_38 rfl (lv_at hl 0 rfl) ?_
  refine x_iald (j := iI (z3)) hE hK hP 19 (Nat.lt_of_lt_of_le (by decide) hNN) (xG_10 rfl) (iI_in (n := 9) (by omega)) dX4_readClash_39 ?_
  obtain ⟨z7, hz7, ez7⟩ := iI_of (ar4 19 (iI (z3)).toNatClampNeg)
  refine x_top ez7 ?_
  refine lv_ior hE.1 hE.2.1 dX4_readClash_40 ?_
  obtain ⟨z8, hz8, ez8⟩ := iI_of (iI (z5) ||| iI (z7))
  refine x_top ez8 ?_
  refine x_vi (nn := 3) (As := [.int (iI (0)), .int (iI (z2 - 1)), .int (iI (z8))]) (rest := []) hE hK hN hP hS (s_X4_takeNumber_1 l D K ad mm N hNN v4 ar4 al4 hI  (0) (by omega) (z2 - 1) (by omega) (z8) (by omega)) (x_recv hK hP 1 (Nat.lt_of_lt_of_le (by decide) hNN) (xG_4 rfl) rfl) rfl mw_619 mw_621 mw_7 mw_115 mw_622 (by decide +kernel) ⟨by decide, by decide⟩ hl.1 rfl (Nat.le_of_ble_eq_true rfl) ⟨Nat.zero_le _, Nat.zero_le _⟩ dX4_readClash_41 (fun r9 v9 ar9 al9 H locs hq9 hP hS => ?_)
  obtain ⟨⟨z9, hz9, rfl⟩, hI, hq9⟩ := hq9
  have hI : XI v9 := hI
  refine lv_istore_n (lv' := [(3, .int (iI (z9))), (2, .int (iI (z3))), (0, .ref (ad 1)), (1, .ref (ad 13))]) hE.1 hE.2.1 dX4_readClash_44 rfl hl (by decide) rfl (fun ls hl => ?_)
  refine lv_aload_n hE.1 hE.2.1 dX4_readClash_45 rfl (lv_at hl 3 rfl) ?_
  refine x_get (x := .ref (ad 19)) hE hK hP 13 (Nat.lt_of_lt_of_le (by decide) hNN) (xG_1 rfl) rfl hin1 16 (by decide) mw_237 rfl dX4_readClash_46 ?_
  refine lv_iload_n hE.1 hE.2.1 dX4_readClash_49 rfl (lv_at hl 1 rfl) ?_
  refine lv_dup2_11 hE.1 hE.2.1 dX4_readClash_50 rfl rfl ?_
  refine x_iald (j := iI (z3)) hE hK hP 19 (Nat.lt_of_lt_of_le (by decide) hNN) (xG_10 rfl) (iI_in (n := 9) (by omega)) dX4_readClash_51 ?_
  obtain ⟨z11, hz11, ez11⟩ := iI_of (ar9 19 (iI (z3)).toNatClampNeg)
  refine x_top ez11 ?_
  refine lv_iconst (v := iI (1)) hE.1 hE.2.1 dX4_readClash_52 (by decide) ?_
  refine lv_iload_n hE.1 hE.2.1 dX4_readClash_53 rfl (lv_at hl 0 rfl) ?_
  refine lv_ishl hE.1 hE.2.1 dX4_readClash_54 ?_
  obtain ⟨z12, hz12, ez12⟩ := iI_shl1 (a := z9) (by omega)
  refine x_top ez12 ?_
  refine lv_ior hE.1 hE.2.1 dX4_readClash_55 ?_
  obtain ⟨z13, hz13, ez13⟩ := iI_of (iI (z11) ||| iI (z12))
  refine x_top ez13 ?_
  refine x_iast (j := iI (z3)) hE hK hN hP hS 19 (Nat.lt_of_lt_of_le (by decide) hNN) (fun _ => xG_10 rfl) (iI_in (n := 9) (by omega)) dX4_readClash_56 (fun ar14 H locs ha14 hP hS => ?_)
  refine lv_aload_n hE.1 hE.2.1 dX4_readClash_57 rfl (lv_at hl 3 rfl) ?_
  refine x_get (x := .ref (ad 19)) hE hK hP 13 (Nat.lt_of_lt_of_le (by decide) hNN) (xG_1 rfl) rfl hin1 16 (by decide) mw_237 rfl dX4_readClash_58 ?_
  refine lv_iload_n hE.1 hE.2.1 dX4_readClash_61 rfl (lv_at hl 0 rfl) ?_
  refine lv_dup2_11 hE.1 hE.2.1 dX4_readClash_62 rfl rfl ?_
  refine x_iald (j := iI (z9)) hE hK hP 19 (Nat.lt_of_lt_of_le (by decide) hNN) (xG_10 rfl) (iI_in (n := 9) (by omega)) dX4_readClash_63 ?_
  obtain ⟨z16, hz16, ez16⟩ := iI_of (ar14 19 (iI (z9)).toNatClampNeg)
  refine x_top ez16 ?_
  refine lv_iconst (v := iI (1)) hE.1 hE.2.1 dX4_readClash_64 (by decide) ?_
  refine lv_iload_n hE.1 hE.2.1 dX4_readClash_65 rfl (lv_at hl 1 rfl) ?_
  refine lv_ishl hE.1 hE.2.1 dX4_readClash_66 ?_
  obtain ⟨z17, hz17, ez17⟩ := iI_shl1 (a := z3) (by omega)
  refine x_top ez17 ?_
  refine lv_ior hE.1 hE.2.1 dX4_readClash_67 ?_
  obtain ⟨z18, hz18, ez18⟩ := iI_of (iI (z16) ||| iI (z17))
  refine x_top ez18 ?_
  refine x_iast (j := iI (z9)) hE hK hN hP hS 19 (Nat.lt_of_lt_of_le (by decide) hNN) (fun _ => xG_10 rfl) (iI_in (n := 9) (by omega)) dX4_readClash_68 (fun ar19 H locs ha19 hP hS => ?_)
  refine lv_aload_n hE.1 hE.2.1 dX4_readClash_69 rfl (lv_at hl 3 rfl) ?_
  refine lv_dup hE.1 hE.2.1 dX4_readClash_70 rfl ?_
  obtain ⟨z20, hz20, ez20⟩ := iI_of (v9 13 6)
  refine x_get (x := .int (v9 13 6)) hE hK hP 13 (Nat.lt_of_lt_of_le (by decide) hNN) (xG_1 rfl) rfl hin1 6 (by decide) mw_201 rfl dX4_readClash_71 ?_
  refine x_top (y := iI (z20)) ez20 ?_
  refine lv_iconst (v := iI (1)) hE.1 hE.2.1 dX4_readClash_74 (by decide) ?_
  refine lv_iadd hE.1 hE.2.1 dX4_readClash_75 ?_
  obtain ⟨z21, hz21, ez21⟩ := iI_of (iI (z20) + iI (1))
  refine x_top ez21 ?_
  refine x_put (x := iI (z21)) hE hK hN hP hS 13 (Nat.lt_of_lt_of_le (by decide) hNN) (xG_1 rfl) rfl hin1 tyX1 tyX1_ok nmX1 6 (by decide) mw_201 rfl rfl rfl (Nat.le_of_ble_eq_true rfl) (xG_1 rfl) dX4_readClash_76 (fun v22 H locs hv22 hP hS => ?_)
  have hI := XI_putN hI hv22 (by decide)
  exact kr v22 ar19 al9 _ _ _ _ ⟨hI, fun i j h => ((up_oth hv22 (fun q => h (by rcases q with ⟨rfl, rfl⟩; decide))).trans ((hq9 i j (fun q => h (mem_sub (by decide) q))).trans ((hq4 i j (fun q => h (mem_sub (by decide) q))).trans ((hq3 i j (fun q => h (mem_sub (by decide) q))).trans (hq1 i j (fun q => h (mem_sub (by decide) q)))))))⟩ hP hS dX4_readClash_79

set_option maxHeartbeats 4000000 in
set_option maxRecDepth 100000 in
theorem s_X4_isWord_1_1011 (l : Launch) (D : va_G) (K : Nat → ClassId) (ad : Nat → Nat) (mm : Option Nat) (N : Nat) (hNN : 132 ≤ N) (v ar : sI) (al : sL) (hI : XI v) (tk tv : Nat → Nat) : Met l yX4_isWord (wM yX4_isWord cX4_isWord 3 (some .boolean)) (rmD 4) (va_Pc [.ref (ad 1), .ref (tk 11)] (twPre D K ad (xG ad K mm) N v ar al tk tv)) (va_Qi (fun (r : Int32) (u : sT) => (∃ z : Int, (0 ≤ z ∧ z ≤ 1) ∧ r = iI z) ∧ XI u.1 ∧ (∀ i j : Nat, (i, j) ∉ ([] : List (Nat × Nat)) → u.1 i j = v i j)) (wB D ad (xG ad K mm) N) (inW ad N)) 0 0 (inW ad N) := by
  refine s_metI (by decide) (Nat.le_of_ble_eq_true rfl) ?_
  intro p e s m below meth c ls args Q hE hB hl kr
  have hE : CallFix p m c cX4_isWord 3 s args tbG "TaleCourt$Reader" := hE
  obtain ⟨⟨hP, hK, hN⟩, hT, hTR⟩ := hB
  have hS : va_S (inW ad N) s.heap s.heap [] := va_S.rf
  have hl : lv_has ls 3 [(0, .ref (ad 1)), (1, .ref (tk 11))] := hl
  refine lv_aload_n hE.1 hE.2.1 dX4_isWord_0 rfl (lv_at hl 0 rfl) ?_
  obtain ⟨z1, hz1, ez1⟩ := iI_of (v 1 6)
  refine x_get (x := .int (v 1 6)) hE hK hP 1 (Nat.lt_of_lt_of_le (by decide) hNN) (xG_4 rfl) rfl hin4 6 (by decide) mw_155 rfl dX4_isWord_1 ?_
  refine x_top (y := iI (z1)) ez1 ?_
  refine lv_iconst (v := iI (2)) hE.1 hE.2.1 dX4_isWord_4 (by decide) ?_
  refine s_icmp_ne (a := z1) (b := 2) (tgt := 24) hE.1 hE.2.1 (by omega) (by omega) dX4_isWord_5 (by decide) (fun c2 => ?_) (fun c2 => ?_)
  · skip
    refine lv_iconst (v := iI (0)) hE.1 hE.2.1 dX4_isWord_24 (by decide) ?_
    exact kr _ v ar al _ _ _ _ (nar01 (by omega)) ⟨⟨0, by omega, rfl⟩, hI, fun i j h => rfl⟩ hP hS dX4_isWord_25
  · skip
    refine lv_aload_n hE.1 hE.2.1 dX4_isWord_8 rfl (lv_at hl 0 rfl) ?_
    obtain ⟨z3, hz3, ez3⟩ := iI_of (v 1 5)
    refine x_get (x := .int (v 1 5)) hE hK hP 1 (Nat.lt_of_lt_of_le (by decide) hNN) (xG_4 rfl) rfl hin4 5 (by decide) mw_154 rfl dX4_isWord_9 ?_
    refine x_top (y := iI (z3)) ez3 ?_
    refine lv_aload_n hE.1 hE.2.1 dX4_isWord_12 rfl (lv_at hl 0 rfl) ?_
    obtain ⟨z4, hz4, ez4⟩ := iI_of (v 1 4)
    refine x_get (x := .int (v 1 4)) hE hK hP 1 (Nat.lt_of_lt_of_le (by decide) hNN) (xG_4 rfl) rfl hin4 4 (by decide) mw_153 rfl dX4_isWord_13 ?_
    refine x_top (y := iI (z4)) ez4 ?_
    refine lv_isub hE.1 hE.2.1 dX4_isWord_16 ?_
    obtain ⟨z5, hz5, ez5⟩ := iI_of (iI (z3) - iI (z4))
    refine x_top ez5 ?_
    refine lv_aload_n hE.1 hE.2.1 dX4_isWord_17 rfl (lv_at hl 1 rfl) ?_
    refine x_vp (nn := 0) (As := []) (rest := [.int (iI (z5))]) hE (t_length l tk tv (inW ad N) 11 (by decide) 2 rfl) tP_blind (tP_now hT hS) (vk_recv hT.1 (by decide) hS) rfl mw_566 mw_567 mw_568 mw_125 mw_569 (by decide +kernel) ⟨by decide, by decide⟩ hl.1 rfl (Nat.le_of_ble_eq_true rfl) ⟨Nat.zero_le _, Nat.zero_le _⟩ dX4_isWord_18 (fun r6 hr6 => ?_)
    subst hr6
    refine s_icmp_eq (a := z5) (b := 2) (tgt := 26) hE.1 hE.2.1 (by omega) (by omega) dX4_isWord_21 (by decide) (fun c7 => ?_) (fun c7 => ?_)
    · skip
      refine lv_iconst (v := iI (0)) hE.1 hE.2.1 dX4_isWord_26 (by decide) ?_
      refine lv_istore_n (lv' := [(2, .int (iI (0))), (0, .ref (ad 1)), (1, .ref (tk 11))]) hE.1 hE.2.1 dX4_isWord_27 rfl hl (by decide) rfl (fun ls hl => ?_)
      have loop8 : ∀ (k8 : Nat) (y8_2 : Int) (vl8 arl8 : sI) (all8 : sL) (H : Heap) (locs : List Loc) (ls : Array Slot), (8 - y8_2).toNat = k8 → (0 ≤ y8_2 ∧ y8_2 ≤ 8) → XI vl8 → (∀ i j : Nat, (i, j) ∉ ([] : List (Nat × Nat)) → vl8 i j = v i j) → va_P D xcl (wW ad (xG ad K mm) N vl8 arl8 all8) H → va_S (inW ad N) s.heap H locs → lv_has ls 3 [(2, .int (iI (y8_2))), (0, .ref (ad 1)), (1, .ref (tk 11))] → W p l e (rmD 4) s m args below meth c H locs 0 0 Q (F0 m 28 ls []) := by
        intro k8
        induction k8 using Nat.strongRecOn with
        | _ k8 ih8 =>
          intro y8_2 vl8 arl8 all8 H locs ls hk8 hb_y8_2 hI hfr8 hP hS hl
          refine lv_iload_n hE.1 hE.2.1 dX4_isWord_28 rfl (lv_at hl 0 rfl) ?_
          refine lv_aload_n hE.1 hE.2.1 dX4_isWord_29 rfl (lv_at hl 2 rfl) ?_
          refine x_vp (nn := 0) (As := []) (rest := [.int (iI (y8_2))]) hE (t_length l tk tv (inW ad N) 11 (by decide) 2 rfl) tP_blind (tP_now hT hS) (vk_recv hT.1 (by decide) hS) rfl mw_566 mw_567 mw_568 mw_125 mw_569 (by decide +kernel) ⟨by decide, by decide⟩ hl.1 rfl (Nat.le_of_ble_eq_true rfl) ⟨Nat.zero_le _, Nat.zero_le _⟩ dX4_isWord_30 (fun r9 hr9 => ?_)
          subst hr9
          refine s_icmp_ge (a := y8_2) (b := 2) (tgt := 62) hE.1 hE.2.1 (by omega) (by omega) dX4_isWord_33 (by decide) (fun c10 => ?_) (fun c10 => ?_)
          · skip
            refine lv_iconst (v := iI (1)) hE.1 hE.2.1 dX4_isWord_62 (by decide) ?_
            exact kr _ vl8 arl8 all8 _ _ _ _ (nar01 (by omega)) ⟨⟨1, by omega, rfl⟩, hI, fun i j h => (hfr8 i j (fun q => h (mem_sub (by decide) q)))⟩ hP hS dX4_isWord_63
          · skip
            refine lv_aload_n hE.1 hE.2.1 dX4_isWord_36 rfl (lv_at hl 1 rfl) ?_
            refine lv_aload_n hE.1 hE.2.1 dX4_isWord_37 rfl (lv_at hl 1 rfl) ?_
            refine x_get (x := .int (vl8 1 4)) hE hK hP 1 (Nat.lt_of_lt_of_le (by decide) hNN) (xG_4 rfl) rfl hin4 4 (by decide) mw_153 rfl dX4_isWord_38 ?_
            refine x_top (y := iI (z4)) ((hfr8 1 4 (by decide)).trans ez4) ?_
            refine lv_iload_n hE.1 hE.2.1 dX4_isWord_41 rfl (lv_at hl 0 rfl) ?_
            refine lv_iadd hE.1 hE.2.1 dX4_isWord_42 ?_
            obtain ⟨z11, hz11, ez11⟩ := iI_of (iI (z4) + iI (y8_2))
            refine x_top ez11 ?_
            refine x_vp (nn := 1) (As := [.int (iI (z11))]) (rest := []) hE (s_X4_byteAt_1 l D K ad mm N hNN vl8 arl8 all8 hI  (z11) (by omega)) wPre_blind (wPre_now hK hN hP) (x_recv hK hP 1 (Nat.lt_of_lt_of_le (by decide) hNN) (xG_4 rfl) rfl) rfl mw_542 mw_544 mw_1 mw_115 mw_545 (by decide +kernel) ⟨by decide, by decide⟩ hl.1 rfl (Nat.le_of_ble_eq_true rfl) ⟨Nat.zero_le _, Nat.zero_le _⟩ dX4_isWord_43 (fun r12 hr12 => ?_)
            obtain ⟨z12, hz12, rfl⟩ := hr12
            refine lv_aload_n hE.1 hE.2.1 dX4_isWord_46 rfl (lv_at hl 2 rfl) ?_
            refine lv_iload_n hE.1 hE.2.1 dX4_isWord_47 rfl (lv_at hl 0 rfl) ?_
            refine x_vp (nn := 1) (As := [.int (iI (y8_2))]) (rest := [.int (iI (z12))]) hE (t_charAt l tk tv (inW ad N) 11 (by decide) (y8_2) (show 0 ≤ y8_2 ∧ y8_2 < ((2 : Nat) : Int) by omega)) tP_blind (tP_now hT hS) (vk_recv hT.1 (by decide) hS) rfl mw_576 mw_577 mw_578 mw_125 mw_579 (by decide +kernel) ⟨by decide, by decide⟩ hl.1 rfl (Nat.le_of_ble_eq_true rfl) ⟨Nat.zero_le _, Nat.zero_le _⟩ dX4_isWord_48 (fun r13 _ => ?_)
            obtain ⟨z13, hz13, rfl⟩ := iI_of r13
            refine s_icmp_eq (a := z12) (b := z13) (tgt := 56) hE.1 hE.2.1 (by omega) (by omega) dX4_isWord_51 (by decide) (fun c14 => ?_) (fun c14 => ?_)
            · skip
              refine lv_iinc (v := iI (y8_2 + 1)) (lv' := [(2, .int (iI (y8_2 + 1))), (0, .ref (ad 1)), (1, .ref (tk 11))]) hE.1 hE.2.1 dX4_isWord_56 hl (k := 0) rfl ((iI_add (y8_2) (1)).trans (congrArg iI (by omega))) (by decide) rfl (fun ls hl => ?_)
              refine lv_goto (tgt := 28) hE.1 hE.2.1 dX4_isWord_59 (by decide) ?_
              exact ih8 _ (by omega) (y8_2 + 1) vl8 arl8 all8 _ _ _ rfl (by omega) hI (fun i j h => (hfr8 i j h)) hP hS (lv_sub hl [0, 1, 2] rfl)
            · skip
              refine lv_iconst (v := iI (0)) hE.1 hE.2.1 dX4_isWord_54 (by decide) ?_
              exact kr _ vl8 arl8 all8 _ _ _ _ (nar01 (by omega)) ⟨⟨0, by omega, rfl⟩, hI, fun i j h => (hfr8 i j (fun q => h (mem_sub (by decide) q)))⟩ hP hS dX4_isWord_55
      exact loop8 _ (0) v ar al _ _ _ rfl (by omega) hI (fun _ _ _ => rfl) hP hS hl
    · skip
      refine lv_iconst (v := iI (0)) hE.1 hE.2.1 dX4_isWord_24 (by decide) ?_
      exact kr _ v ar al _ _ _ _ (nar01 (by omega)) ⟨⟨0, by omega, rfl⟩, hI, fun i j h => rfl⟩ hP hS dX4_isWord_25

set_option maxHeartbeats 4000000 in
set_option maxRecDepth 100000 in
theorem s_X4_takeWord_1_1011 (l : Launch) (D : va_G) (K : Nat → ClassId) (ad : Nat → Nat) (mm : Option Nat) (N : Nat) (hNN : 132 ≤ N) (v ar : sI) (al : sL) (hI : XI v) (tk tv : Nat → Nat) : Met l yX4_takeWord (wM yX4_takeWord cX4_takeWord 2 none) (rmD 5) (va_Pc [.ref (ad 1), .ref (tk 11)] (twPre D K ad (xG ad K mm) N v ar al tk tv)) (va_Qv (fun u : sT => XI u.1 ∧ (∀ i j : Nat, (i, j) ∉ ([(1, 1), (1, 2), (1, 4), (1, 5), (1, 6)] : List (Nat × Nat)) → u.1 i j = v i j)) (wB D ad (xG ad K mm) N) (inW ad N)) 0 0 (inW ad N) := by
  refine s_metV (by decide) (Nat.le_of_ble_eq_true rfl) ?_
  intro p e s m below meth c ls args Q hE hB hl kr
  have hE : CallFix p m c cX4_takeWord 2 s args tbG "TaleCourt$Reader" := hE
  obtain ⟨⟨hP, hK, hN⟩, hT, hTR⟩ := hB
  have hS : va_S (inW ad N) s.heap s.heap [] := va_S.rf
  have hl : lv_has ls 2 [(0, .ref (ad 1)), (1, .ref (tk 11))] := hl
  refine lv_aload_n hE.1 hE.2.1 dX4_takeWord_0 rfl (lv_at hl 0 rfl) ?_
  refine lv_aload_n hE.1 hE.2.1 dX4_takeWord_1 rfl (lv_at hl 1 rfl) ?_
  refine x_viB (nn := 1) (As := [.ref (tk 11)]) (rest := []) hE hK hN hP hS (s_X4_isWord_1_1011 l D K ad mm N hNN v ar al hI tk tv  ) tw_blind (tw_now hK hN hP hT hTR hS) (x_recv hK hP 1 (Nat.lt_of_lt_of_le (by decide) hNN) (xG_4 rfl) rfl) rfl mw_562 mw_564 mw_5 mw_115 mw_565 (by decide +kernel) ⟨by decide, by decide⟩ hl.1 rfl (Nat.le_of_ble_eq_true rfl) ⟨Nat.zero_le _, Nat.zero_le _⟩ dX4_takeWord_2 (fun r1 v1 ar1 al1 H locs hq1 hP hS => ?_)
  obtain ⟨⟨z1, hz1, rfl⟩, hI, hq1⟩ := hq1
  have hI : XI v1 := hI
  refine s_if_eq (a := z1) (tgt := 15) hE.1 hE.2.1 (by omega) dX4_takeWord_5 (by decide) (fun c2 => ?_) (fun c2 => ?_)
  · skip
    refine lv_aload_n hE.1 hE.2.1 dX4_takeWord_15 rfl (lv_at hl 0 rfl) ?_
    refine lv_iconst (v := iI (1)) hE.1 hE.2.1 dX4_takeWord_16 (by decide) ?_
    refine x_vv (nn := 1) (As := [.int (iI (1))]) (rest := []) hE hK hN hP hS (s_X4_fail_1 l D K ad mm N hNN v1 ar1 al1 hI  (1) (by omega)) (x_recv hK hP 1 (Nat.lt_of_lt_of_le (by decide) hNN) (xG_4 rfl) rfl) rfl mw_614 mw_616 mw_6 mw_115 mw_617 (by decide +kernel) ⟨by decide, by decide⟩ hl.1 rfl (Nat.le_of_ble_eq_true rfl) ⟨Nat.zero_le _, Nat.zero_le _⟩ dX4_takeWord_17 (fun v3 ar3 al3 H locs hq3 hP hS => ?_)
    obtain ⟨hI, hq3⟩ := hq3
    have hI : XI v3 := hI
    exact kr v3 ar3 al3 _ _ _ _ ⟨hI, fun i j h => ((hq3 i j (fun q => h (mem_sub (by decide) q))).trans (hq1 i j (fun q => h (mem_sub (by decide) q))))⟩ hP hS dX4_takeWord_20
  · skip
    refine lv_aload_n hE.1 hE.2.1 dX4_takeWord_8 rfl (lv_at hl 0 rfl) ?_
    refine x_vv (nn := 0) (As := []) (rest := []) hE hK hN hP hS (s_X4_step_1 l D K ad mm N hNN v1 ar1 al1 hI  ) (x_recv hK hP 1 (Nat.lt_of_lt_of_le (by decide) hNN) (xG_4 rfl) rfl) rfl mw_538 mw_540 mw_0 mw_115 mw_541 (by decide +kernel) ⟨by decide, by decide⟩ hl.1 rfl (Nat.le_of_ble_eq_true rfl) ⟨Nat.zero_le _, Nat.zero_le _⟩ dX4_takeWord_9 (fun v4 ar4 al4 H locs hq4 hP hS => ?_)
    obtain ⟨hI, hq4⟩ := hq4
    have hI : XI v4 := hI
    refine lv_goto (tgt := 20) hE.1 hE.2.1 dX4_takeWord_12 (by decide) ?_
    exact kr v4 ar4 al4 _ _ _ _ ⟨hI, fun i j h => ((hq4 i j (fun q => h (mem_sub (by decide) q))).trans (hq1 i j (fun q => h (mem_sub (by decide) q))))⟩ hP hS dX4_takeWord_20

theorem dX4_readJoin_0 : decode cX4_readJoin 0 = .ok (.aload_n 0, 1) := by decide +kernel
theorem dX4_readJoin_1 : decode cX4_readJoin 1 = .ok (.invokevirtual 33, 3) := by decide +kernel
theorem dX4_readJoin_4 : decode cX4_readJoin 4 = .ok (.aload_n 0, 1) := by decide +kernel
theorem dX4_readJoin_5 : decode cX4_readJoin 5 = .ok (.iconst 0, 1) := by decide +kernel
theorem dX4_readJoin_6 : decode cX4_readJoin 6 = .ok (.aload_n 1, 1) := by decide +kernel
theorem dX4_readJoin_7 : decode cX4_readJoin 7 = .ok (.getfield 78, 3) := by decide +kernel
theorem dX4_readJoin_10 : decode cX4_readJoin 10 = .ok (.iconst 1, 1) := by decide +kernel
theorem dX4_readJoin_11 : decode cX4_readJoin 11 = .ok (.isub, 1) := by decide +kernel
theorem dX4_readJoin_12 : decode cX4_readJoin 12 = .ok (.iconst 0, 1) := by decide +kernel
theorem dX4_readJoin_13 : decode cX4_readJoin 13 = .ok (.invokevirtual 81, 3) := by decide +kernel
theorem dX4_readJoin_16 : decode cX4_readJoin 16 = .ok (.istore_n 2, 1) := by decide +kernel
theorem dX4_readJoin_17 : decode cX4_readJoin 17 = .ok (.aload_n 0, 1) := by decide +kernel
theorem dX4_readJoin_18 : decode cX4_readJoin 18 = .ok (.ldc 141, 2) := by decide +kernel
theorem dX4_readJoin_20 : decode cX4_readJoin 20 = .ok (.invokevirtual 96, 3) := by decide +kernel
theorem dX4_readJoin_23 : decode cX4_readJoin 23 = .ok (.aload_n 0, 1) := by decide +kernel
theorem dX4_readJoin_24 : decode cX4_readJoin 24 = .ok (.iconst 0, 1) := by decide +kernel
theorem dX4_readJoin_25 : decode cX4_readJoin 25 = .ok (.aload_n 1, 1) := by decide +kernel
theorem dX4_readJoin_26 : decode cX4_readJoin 26 = .ok (.getfield 78, 3) := by decide +kernel
theorem dX4_readJoin_29 : decode cX4_readJoin 29 = .ok (.iconst 1, 1) := by decide +kernel
theorem dX4_readJoin_30 : decode cX4_readJoin 30 = .ok (.isub, 1) := by decide +kernel
theorem dX4_readJoin_31 : decode cX4_readJoin 31 = .ok (.iconst 1, 1) := by decide +kernel
theorem dX4_readJoin_32 : decode cX4_readJoin 32 = .ok (.iload_n 2, 1) := by decide +kernel
theorem dX4_readJoin_33 : decode cX4_readJoin 33 = .ok (.ishl, 1) := by decide +kernel
theorem dX4_readJoin_34 : decode cX4_readJoin 34 = .ok (.aload_n 1, 1) := by decide +kernel
theorem dX4_readJoin_35 : decode cX4_readJoin 35 = .ok (.getfield 143, 3) := by decide +kernel
theorem dX4_readJoin_38 : decode cX4_readJoin 38 = .ok (.iload_n 2, 1) := by decide +kernel
theorem dX4_readJoin_39 : decode cX4_readJoin 39 = .ok (.iaload, 1) := by decide +kernel
theorem dX4_readJoin_40 : decode cX4_readJoin 40 = .ok (.ior, 1) := by decide +kernel
theorem dX4_readJoin_41 : decode cX4_readJoin 41 = .ok (.invokevirtual 81, 3) := by decide +kernel
theorem dX4_readJoin_44 : decode cX4_readJoin 44 = .ok (.istore_n 3, 1) := by decide +kernel
theorem dX4_readJoin_45 : decode cX4_readJoin 45 = .ok (.aload_n 1, 1) := by decide +kernel
theorem dX4_readJoin_46 : decode cX4_readJoin 46 = .ok (.getfield 143, 3) := by decide +kernel
theorem dX4_readJoin_49 : decode cX4_readJoin 49 = .ok (.iload_n 2, 1) := by decide +kernel
theorem dX4_readJoin_50 : decode cX4_readJoin 50 = .ok (.dup2, 1) := by decide +kernel
theorem dX4_readJoin_51 : decode cX4_readJoin 51 = .ok (.iaload, 1) := by decide +kernel
theorem dX4_readJoin_52 : decode cX4_readJoin 52 = .ok (.iconst 1, 1) := by decide +kernel
theorem dX4_readJoin_53 : decode cX4_readJoin 53 = .ok (.iload_n 3, 1) := by decide +kernel
theorem dX4_readJoin_54 : decode cX4_readJoin 54 = .ok (.ishl, 1) := by decide +kernel
theorem dX4_readJoin_55 : decode cX4_readJoin 55 = .ok (.ior, 1) := by decide +kernel
theorem dX4_readJoin_56 : decode cX4_readJoin 56 = .ok (.iastore, 1) := by decide +kernel
theorem dX4_readJoin_57 : decode cX4_readJoin 57 = .ok (.aload_n 1, 1) := by decide +kernel
theorem dX4_readJoin_58 : decode cX4_readJoin 58 = .ok (.dup, 1) := by decide +kernel
theorem dX4_readJoin_59 : decode cX4_readJoin 59 = .ok (.getfield 146, 3) := by decide +kernel
theorem dX4_readJoin_62 : decode cX4_readJoin 62 = .ok (.iconst 1, 1) := by decide +kernel
theorem dX4_readJoin_63 : decode cX4_readJoin 63 = .ok (.iadd, 1) := by decide +kernel
theorem dX4_readJoin_64 : decode cX4_readJoin 64 = .ok (.putfield 146, 3) := by decide +kernel
theorem dX4_readJoin_67 : decode cX4_readJoin 67 = .ok (.return_, 1) := by decide +kernel
set_option maxHeartbeats 4000000 in
set_option maxRecDepth 100000 in
theorem s_X4_readJoin_1_13 (l : Launch) (D : va_G) (K : Nat → ClassId) (ad : Nat → Nat) (mm : Option Nat) (N : Nat) (hNN : 132 ≤ N) (v ar : sI) (al : sL) (hI : XI v) (tk tv : Nat → Nat) : Met l yX4_readJoin (wM yX4_readJoin cX4_readJoin 4 none) (rmD 6) (va_Pc [.ref (ad 1), .ref (ad 13)] (twPre D K ad (xG ad K mm) N v ar al tk tv)) (va_Qv (fun u : sT => XI u.1 ∧ (∀ i j : Nat, (i, j) ∉ ([(1, 1), (1, 2), (1, 4), (1, 5), (1, 6), (13, 5)] : List (Nat × Nat)) → u.1 i j = v i j)) (wB D ad (xG ad K mm) N) (inW ad N)) 0 0 (inW ad N) := by
  refine s_metV (by decide) (Nat.le_of_ble_eq_true rfl) ?_
  intro p e s m below meth c ls args Q hE hB hl kr
  have hE : CallFix p m c cX4_readJoin 4 s args tbG "TaleCourt$Reader" := hE
  obtain ⟨⟨hP, hK, hN⟩, hT, hTR⟩ := hB
  have hS : va_S (inW ad N) s.heap s.heap [] := va_S.rf
  have hl : lv_has ls 4 [(0, .ref (ad 1)), (1, .ref (ad 13))] := hl
  refine lv_aload_n hE.1 hE.2.1 dX4_readJoin_0 rfl (lv_at hl 0 rfl) ?_
  refine x_vv (nn := 0) (As := []) (rest := []) hE hK hN hP hS (s_X4_step_1 l D K ad mm N hNN v ar al hI  ) (x_recv hK hP 1 (Nat.lt_of_lt_of_le (by decide) hNN) (xG_4 rfl) rfl) rfl mw_538 mw_540 mw_0 mw_115 mw_541 (by decide +kernel) ⟨by decide, by decide⟩ hl.1 rfl (Nat.le_of_ble_eq_true rfl) ⟨Nat.zero_le _, Nat.zero_le _⟩ dX4_readJoin_1 (fun v1 ar1 al1 H locs hq1 hP hS => ?_)
  obtain ⟨hI, hq1⟩ := hq1
  have hI : XI v1 := hI
  refine lv_aload_n hE.1 hE.2.1 dX4_readJoin_4 rfl (lv_at hl 0 rfl) ?_
  refine lv_iconst (v := iI (0)) hE.1 hE.2.1 dX4_readJoin_5 (by decide) ?_
  refine lv_aload_n hE.1 hE.2.1 dX4_readJoin_6 rfl (lv_at hl 1 rfl) ?_
  obtain ⟨z2, hz2, ez2⟩ := XI_get hI 13 2 0 9 (by decide)
  refine x_get (x := .int (v1 13 2)) hE hK hP 13 (Nat.lt_of_lt_of_le (by decide) hNN) (xG_1 rfl) rfl hin1 2 (by decide) mw_188 rfl dX4_readJoin_7 ?_
  refine x_top (y := iI (z2)) ez2 ?_
  refine lv_iconst (v := iI (1)) hE.1 hE.2.1 dX4_readJoin_10 (by decide) ?_
  refine lv_isub hE.1 hE.2.1 dX4_readJoin_11 ?_
  refine x_top (y := iI (z2 - 1)) ((iI_sub (z2) (1)).trans (congrArg iI (by omega))) ?_
  refine lv_iconst (v := iI (0)) hE.1 hE.2.1 dX4_readJoin_12 (by decide) ?_
  refine x_vi (nn := 3) (As := [.int (iI (0)), .int (iI (z2 - 1)), .int (iI (0))]) (rest := []) hE hK hN hP hS (s_X4_takeNumber_1 l D K ad mm N hNN v1 ar1 al1 hI  (0) (by omega) (z2 - 1) (by omega) (0) (by omega)) (x_recv hK hP 1 (Nat.lt_of_lt_of_le (by decide) hNN) (xG_4 rfl) rfl) rfl mw_619 mw_621 mw_7 mw_115 mw_622 (by decide +kernel) ⟨by decide, by decide⟩ hl.1 rfl (Nat.le_of_ble_eq_true rfl) ⟨Nat.zero_le _, Nat.zero_le _⟩ dX4_readJoin_13 (fun r3 v3 ar3 al3 H locs hq3 hP hS => ?_)
  obtain ⟨⟨z3, hz3, rfl⟩, hI, hq3⟩ := hq3
  have hI : XI v3 := hI
  refine lv_istore_n (lv' := [(2, .int (iI (z3))), (0, .ref (ad 1)), (1, .ref (ad 13))]) hE.1 hE.2.1 dX4_readJoin_16 rfl hl (by decide) rfl (fun ls hl => ?_)
  refine lv_aload_n hE.1 hE.2.1 dX4_readJoin_17 rfl (lv_at hl 1 rfl) ?_
  refine va_ldcS (index := 141) (q := tk 11) hE.1 hE.2.1 hE.2.2.2.1 (show vk_R "TaleCourt$Reader" 141 "to" (tk 11) s from hTR 11 (by decide)) dX4_readJoin_18 ?_
  refine x_vvB (nn := 1) (As := [.ref (tk 11)]) (rest := []) hE hK hN hP hS (s_X4_takeWord_1_1011 l D K ad mm N hNN v3 ar3 al3 hI tk tv  ) tw_blind (tw_now hK hN hP hT hTR hS) (x_recv hK hP 1 (Nat.lt_of_lt_of_le (by decide) hNN) (xG_4 rfl) rfl) rfl mw_558 mw_560 mw_4 mw_115 mw_561 (by decide +kernel) ⟨by decide, by decide⟩ hl.1 rfl (Nat.le_of_ble_eq_true rfl) ⟨Nat.zero_le _, Nat.zero_le _⟩ dX4_readJoin_20 (fun v4 ar4 al4 H locs hq4 hP hS => ?_)
  obtain ⟨hI, hq4⟩ := hq4
  have hI : XI v4 := hI
  refine lv_aload_n hE.1 hE.2.1 dX4_readJoin_23 rfl (lv_at hl 1 rfl) ?_
  refine lv_iconst (v := iI (0)) hE.1 hE.2.1 dX4_readJoin_24 (by decide) ?_
  refine lv_aload_n hE.1 hE.2.1 dX4_readJoin_25 rfl (lv_at hl 2 rfl) ?_
  refine x_get (x := .int (v4 13 2)) hE hK hP 13 (Nat.lt_of_lt_of_le (by decide) hNN) (xG_1 rfl) rfl hin1 2 (by decide) mw_188 rfl dX4_readJoin_26 ?_
  refine x_top (y := iI (z2)) ((hq4 13 2 (by decide)).trans ((hq3 13 2 (by decide)).trans ez2)) ?_
  refine lv_iconst (v := iI (1)) hE.1 hE.2.1 dX4_readJoin_29 (by decide) ?_
  refine lv_isub hE.1 hE.2.1 dX4_readJoin_30 ?_
  refine x_top (y := iI (z2 - 1)) ((iI_sub (z2) (1)).trans (congrArg iI (by omega))) ?_
  refine lv_iconst (v := iI (1)) hE.1 hE.2.1 dX4_readJoin_31 (by decide) ?_
  refine lv_iload_n hE.1 hE.2.1 dX4_readJoin_32 rfl (lv_at hl 0 rfl) ?_
  refine lv_ishl hE.1 hE.2.1 dX4_readJoin_33 ?_
  obtain ⟨z5, hz5, ez5⟩ := iI_shl1 (a := z3) (by omega)
  refine x_top ez5 ?_
  refine lv_aload_n hE.1 hE.2.1 dX4_readJoin_34 rfl (lv_at hl 2 rfl) ?_
  refine x_get (x := .ref (ad 18)) hE hK hP 13 (Nat.lt_of_lt_of_le (by decide) hNN) (xG_1 rfl) rfl hin1 15 (by decide) mw_233 rfl dX4_readJoin_35 ?_
  refine lv_iload_n hE.1 hE.2.1 dX4_readJoin_38 rfl (lv_at hl 0 rfl) ?_
  refine x_iald (j := iI (z3)) hE hK hP 18 (Nat.lt_of_lt_of_le (by decide) hNN) (xG_10 rfl) (iI_in (n := 9) (by omega)) dX4_readJoin_39 ?_
  obtain ⟨z7, hz7, ez7⟩ := iI_of (ar4 18 (iI (z3)).toNatClampNeg)
  refine x_top ez7 ?_
  refine lv_ior hE.1 hE.2.1 dX4_readJoin_40 ?_
  obtain ⟨z8, hz8, ez8⟩ := iI_of (iI (z5) ||| iI (z7))
  refine x_top ez8 ?_
  refine x_vi (nn := 3) (As := [.int (iI (0)), .int (iI (z2 - 1)), .int (iI (z8))]) (rest := []) hE hK hN hP hS (s_X4_takeNumber_1 l D K ad mm N hNN v4 ar4 al4 hI  (0) (by omega) (z2 - 1) (by omega) (z8) (by omega)) (x_recv hK hP 1 (Nat.lt_of_lt_of_le (by decide) hNN) (xG_4 rfl) rfl) rfl mw_619 mw_621 mw_7 mw_115 mw_622 (by decide +kernel) ⟨by decide, by decide⟩ hl.1 rfl (Nat.le_of_ble_eq_true rfl) ⟨Nat.zero_le _, Nat.zero_le _⟩ dX4_readJoin_41 (fun r9 v9 ar9 al9 H locs hq9 hP hS => ?_)
  obtain ⟨⟨z9, hz9, rfl⟩, hI, hq9⟩ := hq9
  have hI : XI v9 := hI
  refine lv_istore_n (lv' := [(3, .int (iI (z9))), (2, .int (iI (z3))), (0, .ref (ad 1)), (1, .ref (ad 13))]) hE.1 hE.2.1 dX4_readJoin_44 rfl hl (by decide) rfl (fun ls hl => ?_)
  refine lv_aload_n hE.1 hE.2.1 dX4_readJoin_45 rfl (lv_at hl 3 rfl) ?_
  refine x_get (x := .ref (ad 18)) hE hK hP 13 (Nat.lt_of_lt_of_le (by decide) hNN) (xG_1 rfl) rfl hin1 15 (by decide) mw_233 rfl dX4_readJoin_46 ?_
  refine lv_iload_n hE.1 hE.2.1 dX4_readJoin_49 rfl (lv_at hl 1 rfl) ?_
  refine lv_dup2_11 hE.1 hE.2.1 dX4_readJoin_50 rfl rfl ?_
  refine x_iald (j := iI (z3)) hE hK hP 18 (Nat.lt_of_lt_of_le (by decide) hNN) (xG_10 rfl) (iI_in (n := 9) (by omega)) dX4_readJoin_51 ?_
  obtain ⟨z11, hz11, ez11⟩ := iI_of (ar9 18 (iI (z3)).toNatClampNeg)
  refine x_top ez11 ?_
  refine lv_iconst (v := iI (1)) hE.1 hE.2.1 dX4_readJoin_52 (by decide) ?_
  refine lv_iload_n hE.1 hE.2.1 dX4_readJoin_53 rfl (lv_at hl 0 rfl) ?_
  refine lv_ishl hE.1 hE.2.1 dX4_readJoin_54 ?_
  obtain ⟨z12, hz12, ez12⟩ := iI_shl1 (a := z9) (by omega)
  refine x_top ez12 ?_
  refine lv_ior hE.1 hE.2.1 dX4_readJoin_55 ?_
  obtain ⟨z13, hz13, ez13⟩ := iI_of (iI (z11) ||| iI (z12))
  refine x_top ez13 ?_
  refine x_iast (j := iI (z3)) hE hK hN hP hS 18 (Nat.lt_of_lt_of_le (by decide) hNN) (fun _ => xG_10 rfl) (iI_in (n := 9) (by omega)) dX4_readJoin_56 (fun ar14 H locs ha14 hP hS => ?_)
  refine lv_aload_n hE.1 hE.2.1 dX4_readJoin_57 rfl (lv_at hl 3 rfl) ?_
  refine lv_dup hE.1 hE.2.1 dX4_readJoin_58 rfl ?_
  obtain ⟨z15, hz15, ez15⟩ := iI_of (v9 13 5)
  refine x_get (x := .int (v9 13 5)) hE hK hP 13 (Nat.lt_of_lt_of_le (by decide) hNN) (xG_1 rfl) rfl hin1 5 (by decide) mw_198 rfl dX4_readJoin_59 ?_
  refine x_top (y := iI (z15)) ez15 ?_
  refine lv_iconst (v := iI (1)) hE.1 hE.2.1 dX4_readJoin_62 (by decide) ?_
  refine lv_iadd hE.1 hE.2.1 dX4_readJoin_63 ?_
  obtain ⟨z16, hz16, ez16⟩ := iI_of (iI (z15) + iI (1))
  refine x_top ez16 ?_
  refine x_put (x := iI (z16)) hE hK hN hP hS 13 (Nat.lt_of_lt_of_le (by decide) hNN) (xG_1 rfl) rfl hin1 tyX1 tyX1_ok nmX1 5 (by decide) mw_198 rfl rfl rfl (Nat.le_of_ble_eq_true rfl) (xG_1 rfl) dX4_readJoin_64 (fun v17 H locs hv17 hP hS => ?_)
  have hI := XI_putN hI hv17 (by decide)
  exact kr v17 ar14 al9 _ _ _ _ ⟨hI, fun i j h => ((up_oth hv17 (fun q => h (by rcases q with ⟨rfl, rfl⟩; decide))).trans ((hq9 i j (fun q => h (mem_sub (by decide) q))).trans ((hq4 i j (fun q => h (mem_sub (by decide) q))).trans ((hq3 i j (fun q => h (mem_sub (by decide) q))).trans (hq1 i j (fun q => h (mem_sub (by decide) q)))))))⟩ hP hS dX4_readJoin_67

set_option maxHeartbeats 4000000 in
set_option maxRecDepth 100000 in
theorem s_X4_isWord_1_1004 (l : Launch) (D : va_G) (K : Nat → ClassId) (ad : Nat → Nat) (mm : Option Nat) (N : Nat) (hNN : 132 ≤ N) (v ar : sI) (al : sL) (hI : XI v) (tk tv : Nat → Nat) : Met l yX4_isWord (wM yX4_isWord cX4_isWord 3 (some .boolean)) (rmD 4) (va_Pc [.ref (ad 1), .ref (tk 4)] (twPre D K ad (xG ad K mm) N v ar al tk tv)) (va_Qi (fun (r : Int32) (u : sT) => (∃ z : Int, (0 ≤ z ∧ z ≤ 1) ∧ r = iI z) ∧ XI u.1 ∧ (∀ i j : Nat, (i, j) ∉ ([] : List (Nat × Nat)) → u.1 i j = v i j)) (wB D ad (xG ad K mm) N) (inW ad N)) 0 0 (inW ad N) := by
  refine s_metI (by decide) (Nat.le_of_ble_eq_true rfl) ?_
  intro p e s m below meth c ls args Q hE hB hl kr
  have hE : CallFix p m c cX4_isWord 3 s args tbG "TaleCourt$Reader" := hE
  obtain ⟨⟨hP, hK, hN⟩, hT, hTR⟩ := hB
  have hS : va_S (inW ad N) s.heap s.heap [] := va_S.rf
  have hl : lv_has ls 3 [(0, .ref (ad 1)), (1, .ref (tk 4))] := hl
  refine lv_aload_n hE.1 hE.2.1 dX4_isWord_0 rfl (lv_at hl 0 rfl) ?_
  obtain ⟨z1, hz1, ez1⟩ := iI_of (v 1 6)
  refine x_get (x := .int (v 1 6)) hE hK hP 1 (Nat.lt_of_lt_of_le (by decide) hNN) (xG_4 rfl) rfl hin4 6 (by decide) mw_155 rfl dX4_isWord_1 ?_
  refine x_top (y := iI (z1)) ez1 ?_
  refine lv_iconst (v := iI (2)) hE.1 hE.2.1 dX4_isWord_4 (by decide) ?_
  refine s_icmp_ne (a := z1) (b := 2) (tgt := 24) hE.1 hE.2.1 (by omega) (by omega) dX4_isWord_5 (by decide) (fun c2 => ?_) (fun c2 => ?_)
  · skip
    refine lv_iconst (v := iI (0)) hE.1 hE.2.1 dX4_isWord_24 (by decide) ?_
    exact kr _ v ar al _ _ _ _ (nar01 (by omega)) ⟨⟨0, by omega, rfl⟩, hI, fun i j h => rfl⟩ hP hS dX4_isWord_25
  · skip
    refine lv_aload_n hE.1 hE.2.1 dX4_isWord_8 rfl (lv_at hl 0 rfl) ?_
    obtain ⟨z3, hz3, ez3⟩ := iI_of (v 1 5)
    refine x_get (x := .int (v 1 5)) hE hK hP 1 (Nat.lt_of_lt_of_le (by decide) hNN) (xG_4 rfl) rfl hin4 5 (by decide) mw_154 rfl dX4_isWord_9 ?_
    refine x_top (y := iI (z3)) ez3 ?_
    refine lv_aload_n hE.1 hE.2.1 dX4_isWord_12 rfl (lv_at hl 0 rfl) ?_
    obtain ⟨z4, hz4, ez4⟩ := iI_of (v 1 4)
    refine x_get (x := .int (v 1 4)) hE hK hP 1 (Nat.lt_of_lt_of_le (by decide) hNN) (xG_4 rfl) rfl hin4 4 (by decide) mw_153 rfl dX4_isWord_13 ?_
    refine x_top (y := iI (z4)) ez4 ?_
    refine lv_isub hE.1 hE.2.1 dX4_isWord_16 ?_
    obtain ⟨z5, hz5, ez5⟩ := iI_of (iI (z3) - iI (z4))
    refine x_top ez5 ?_
    refine lv_aload_n hE.1 hE.2.1 dX4_isWord_17 rfl (lv_at hl 1 rfl) ?_
    refine x_vp (nn := 0) (As := []) (rest := [.int (iI (z5))]) hE (t_length l tk tv (inW ad N) 4 (by decide) 5 rfl) tP_blind (tP_now hT hS) (vk_recv hT.1 (by decide) hS) rfl mw_566 mw_567 mw_568 mw_125 mw_569 (by decide +kernel) ⟨by decide, by decide⟩ hl.1 rfl (Nat.le_of_ble_eq_true rfl) ⟨Nat.zero_le _, Nat.zero_le _⟩ dX4_isWord_18 (fun r6 hr6 => ?_)
    subst hr6
    refine s_icmp_eq (a := z5) (b := 5) (tgt := 26) hE.1 hE.2.1 (by omega) (by omega) dX4_isWord_21 (by decide) (fun c7 => ?_) (fun c7 => ?_)
    · skip
      refine lv_iconst (v := iI (0)) hE.1 hE.2.1 dX4_isWord_26 (by decide) ?_
      refine lv_istore_n (lv' := [(2, .int (iI (0))), (0, .ref (ad 1)), (1, .ref (tk 4))]) hE.1 hE.2.1 dX4_isWord_27 rfl hl (by decide) rfl (fun ls hl => ?_)
      have loop8 : ∀ (k8 : Nat) (y8_2 : Int) (vl8 arl8 : sI) (all8 : sL) (H : Heap) (locs : List Loc) (ls : Array Slot), (8 - y8_2).toNat = k8 → (0 ≤ y8_2 ∧ y8_2 ≤ 8) → XI vl8 → (∀ i j : Nat, (i, j) ∉ ([] : List (Nat × Nat)) → vl8 i j = v i j) → va_P D xcl (wW ad (xG ad K mm) N vl8 arl8 all8) H → va_S (inW ad N) s.heap H locs → lv_has ls 3 [(2, .int (iI (y8_2))), (0, .ref (ad 1)), (1, .ref (tk 4))] → W p l e (rmD 4) s m args below meth c H locs 0 0 Q (F0 m 28 ls []) := by
        intro k8
        induction k8 using Nat.strongRecOn with
        | _ k8 ih8 =>
          intro y8_2 vl8 arl8 all8 H locs ls hk8 hb_y8_2 hI hfr8 hP hS hl
          refine lv_iload_n hE.1 hE.2.1 dX4_isWord_28 rfl (lv_at hl 0 rfl) ?_
          refine lv_aload_n hE.1 hE.2.1 dX4_isWord_29 rfl (lv_at hl 2 rfl) ?_
          refine x_vp (nn := 0) (As := []) (rest := [.int (iI (y8_2))]) hE (t_length l tk tv (inW ad N) 4 (by decide) 5 rfl) tP_blind (tP_now hT hS) (vk_recv hT.1 (by decide) hS) rfl mw_566 mw_567 mw_568 mw_125 mw_569 (by decide +kernel) ⟨by decide, by decide⟩ hl.1 rfl (Nat.le_of_ble_eq_true rfl) ⟨Nat.zero_le _, Nat.zero_le _⟩ dX4_isWord_30 (fun r9 hr9 => ?_)
          subst hr9
          refine s_icmp_ge (a := y8_2) (b := 5) (tgt := 62) hE.1 hE.2.1 (by omega) (by omega) dX4_isWord_33 (by decide) (fun c10 => ?_) (fun c10 => ?_)
          · skip
            refine lv_iconst (v := iI (1)) hE.1 hE.2.1 dX4_isWord_62 (by decide) ?_
            exact kr _ vl8 arl8 all8 _ _ _ _ (nar01 (by omega)) ⟨⟨1, by omega, rfl⟩, hI, fun i j h => (hfr8 i j (fun q => h (mem_sub (by decide) q)))⟩ hP hS dX4_isWord_63
          · skip
            refine lv_aload_n hE.1 hE.2.1 dX4_isWord_36 rfl (lv_at hl 1 rfl) ?_
            refine lv_aload_n hE.1 hE.2.1 dX4_isWord_37 rfl (lv_at hl 1 rfl) ?_
            refine x_get (x := .int (vl8 1 4)) hE hK hP 1 (Nat.lt_of_lt_of_le (by decide) hNN) (xG_4 rfl) rfl hin4 4 (by decide) mw_153 rfl dX4_isWord_38 ?_
            refine x_top (y := iI (z4)) ((hfr8 1 4 (by decide)).trans ez4) ?_
            refine lv_iload_n hE.1 hE.2.1 dX4_isWord_41 rfl (lv_at hl 0 rfl) ?_
            refine lv_iadd hE.1 hE.2.1 dX4_isWord_42 ?_
            obtain ⟨z11, hz11, ez11⟩ := iI_of (iI (z4) + iI (y8_2))
            refine x_top ez11 ?_
            refine x_vp (nn := 1) (As := [.int (iI (z11))]) (rest := []) hE (s_X4_byteAt_1 l D K ad mm N hNN vl8 arl8 all8 hI  (z11) (by omega)) wPre_blind (wPre_now hK hN hP) (x_recv hK hP 1 (Nat.lt_of_lt_of_le (by decide) hNN) (xG_4 rfl) rfl) rfl mw_542 mw_544 mw_1 mw_115 mw_545 (by decide +kernel) ⟨by decide, by decide⟩ hl.1 rfl (Nat.le_of_ble_eq_true rfl) ⟨Nat.zero_le _, Nat.zero_le _⟩ dX4_isWord_43 (fun r12 hr12 => ?_)
            obtain ⟨z12, hz12, rfl⟩ := hr12
            refine lv_aload_n hE.1 hE.2.1 dX4_isWord_46 rfl (lv_at hl 2 rfl) ?_
            refine lv_iload_n hE.1 hE.2.1 dX4_isWord_47 rfl (lv_at hl 0 rfl) ?_
            refine x_vp (nn := 1) (As := [.int (iI (y8_2))]) (rest := [.int (iI (z12))]) hE (t_charAt l tk tv (inW ad N) 4 (by decide) (y8_2) (show 0 ≤ y8_2 ∧ y8_2 < ((5 : Nat) : Int) by omega)) tP_blind (tP_now hT hS) (vk_recv hT.1 (by decide) hS) rfl mw_576 mw_577 mw_578 mw_125 mw_579 (by decide +kernel) ⟨by decide, by decide⟩ hl.1 rfl (Nat.le_of_ble_eq_true rfl) ⟨Nat.zero_le _, Nat.zero_le _⟩ dX4_isWord_48 (fun r13 _ => ?_)
            obtain ⟨z13, hz13, rfl⟩ := iI_of r13
            refine s_icmp_eq (a := z12) (b := z13) (tgt := 56) hE.1 hE.2.1 (by omega) (by omega) dX4_isWord_51 (by decide) (fun c14 => ?_) (fun c14 => ?_)
            · skip
              refine lv_iinc (v := iI (y8_2 + 1)) (lv' := [(2, .int (iI (y8_2 + 1))), (0, .ref (ad 1)), (1, .ref (tk 4))]) hE.1 hE.2.1 dX4_isWord_56 hl (k := 0) rfl ((iI_add (y8_2) (1)).trans (congrArg iI (by omega))) (by decide) rfl (fun ls hl => ?_)
              refine lv_goto (tgt := 28) hE.1 hE.2.1 dX4_isWord_59 (by decide) ?_
              exact ih8 _ (by omega) (y8_2 + 1) vl8 arl8 all8 _ _ _ rfl (by omega) hI (fun i j h => (hfr8 i j h)) hP hS (lv_sub hl [0, 1, 2] rfl)
            · skip
              refine lv_iconst (v := iI (0)) hE.1 hE.2.1 dX4_isWord_54 (by decide) ?_
              exact kr _ vl8 arl8 all8 _ _ _ _ (nar01 (by omega)) ⟨⟨0, by omega, rfl⟩, hI, fun i j h => (hfr8 i j (fun q => h (mem_sub (by decide) q)))⟩ hP hS dX4_isWord_55
      exact loop8 _ (0) v ar al _ _ _ rfl (by omega) hI (fun _ _ _ => rfl) hP hS hl
    · skip
      refine lv_iconst (v := iI (0)) hE.1 hE.2.1 dX4_isWord_24 (by decide) ?_
      exact kr _ v ar al _ _ _ _ (nar01 (by omega)) ⟨⟨0, by omega, rfl⟩, hI, fun i j h => rfl⟩ hP hS dX4_isWord_25

set_option maxHeartbeats 4000000 in
set_option maxRecDepth 100000 in
theorem s_X4_takeWord_1_1004 (l : Launch) (D : va_G) (K : Nat → ClassId) (ad : Nat → Nat) (mm : Option Nat) (N : Nat) (hNN : 132 ≤ N) (v ar : sI) (al : sL) (hI : XI v) (tk tv : Nat → Nat) : Met l yX4_takeWord (wM yX4_takeWord cX4_takeWord 2 none) (rmD 5) (va_Pc [.ref (ad 1), .ref (tk 4)] (twPre D K ad (xG ad K mm) N v ar al tk tv)) (va_Qv (fun u : sT => XI u.1 ∧ (∀ i j : Nat, (i, j) ∉ ([(1, 1), (1, 2), (1, 4), (1, 5), (1, 6)] : List (Nat × Nat)) → u.1 i j = v i j)) (wB D ad (xG ad K mm) N) (inW ad N)) 0 0 (inW ad N) := by
  refine s_metV (by decide) (Nat.le_of_ble_eq_true rfl) ?_
  intro p e s m below meth c ls args Q hE hB hl kr
  have hE : CallFix p m c cX4_takeWord 2 s args tbG "TaleCourt$Reader" := hE
  obtain ⟨⟨hP, hK, hN⟩, hT, hTR⟩ := hB
  have hS : va_S (inW ad N) s.heap s.heap [] := va_S.rf
  have hl : lv_has ls 2 [(0, .ref (ad 1)), (1, .ref (tk 4))] := hl
  refine lv_aload_n hE.1 hE.2.1 dX4_takeWord_0 rfl (lv_at hl 0 rfl) ?_
  refine lv_aload_n hE.1 hE.2.1 dX4_takeWord_1 rfl (lv_at hl 1 rfl) ?_
  refine x_viB (nn := 1) (As := [.ref (tk 4)]) (rest := []) hE hK hN hP hS (s_X4_isWord_1_1004 l D K ad mm N hNN v ar al hI tk tv  ) tw_blind (tw_now hK hN hP hT hTR hS) (x_recv hK hP 1 (Nat.lt_of_lt_of_le (by decide) hNN) (xG_4 rfl) rfl) rfl mw_562 mw_564 mw_5 mw_115 mw_565 (by decide +kernel) ⟨by decide, by decide⟩ hl.1 rfl (Nat.le_of_ble_eq_true rfl) ⟨Nat.zero_le _, Nat.zero_le _⟩ dX4_takeWord_2 (fun r1 v1 ar1 al1 H locs hq1 hP hS => ?_)
  obtain ⟨⟨z1, hz1, rfl⟩, hI, hq1⟩ := hq1
  have hI : XI v1 := hI
  refine s_if_eq (a := z1) (tgt := 15) hE.1 hE.2.1 (by omega) dX4_takeWord_5 (by decide) (fun c2 => ?_) (fun c2 => ?_)
  · skip
    refine lv_aload_n hE.1 hE.2.1 dX4_takeWord_15 rfl (lv_at hl 0 rfl) ?_
    refine lv_iconst (v := iI (1)) hE.1 hE.2.1 dX4_takeWord_16 (by decide) ?_
    refine x_vv (nn := 1) (As := [.int (iI (1))]) (rest := []) hE hK hN hP hS (s_X4_fail_1 l D K ad mm N hNN v1 ar1 al1 hI  (1) (by omega)) (x_recv hK hP 1 (Nat.lt_of_lt_of_le (by decide) hNN) (xG_4 rfl) rfl) rfl mw_614 mw_616 mw_6 mw_115 mw_617 (by decide +kernel) ⟨by decide, by decide⟩ hl.1 rfl (Nat.le_of_ble_eq_true rfl) ⟨Nat.zero_le _, Nat.zero_le _⟩ dX4_takeWord_17 (fun v3 ar3 al3 H locs hq3 hP hS => ?_)
    obtain ⟨hI, hq3⟩ := hq3
    have hI : XI v3 := hI
    exact kr v3 ar3 al3 _ _ _ _ ⟨hI, fun i j h => ((hq3 i j (fun q => h (mem_sub (by decide) q))).trans (hq1 i j (fun q => h (mem_sub (by decide) q))))⟩ hP hS dX4_takeWord_20
  · skip
    refine lv_aload_n hE.1 hE.2.1 dX4_takeWord_8 rfl (lv_at hl 0 rfl) ?_
    refine x_vv (nn := 0) (As := []) (rest := []) hE hK hN hP hS (s_X4_step_1 l D K ad mm N hNN v1 ar1 al1 hI  ) (x_recv hK hP 1 (Nat.lt_of_lt_of_le (by decide) hNN) (xG_4 rfl) rfl) rfl mw_538 mw_540 mw_0 mw_115 mw_541 (by decide +kernel) ⟨by decide, by decide⟩ hl.1 rfl (Nat.le_of_ble_eq_true rfl) ⟨Nat.zero_le _, Nat.zero_le _⟩ dX4_takeWord_9 (fun v4 ar4 al4 H locs hq4 hP hS => ?_)
    obtain ⟨hI, hq4⟩ := hq4
    have hI : XI v4 := hI
    refine lv_goto (tgt := 20) hE.1 hE.2.1 dX4_takeWord_12 (by decide) ?_
    exact kr v4 ar4 al4 _ _ _ _ ⟨hI, fun i j h => ((hq4 i j (fun q => h (mem_sub (by decide) q))).trans (hq1 i j (fun q => h (mem_sub (by decide) q))))⟩ hP hS dX4_takeWord_20

set_option maxHeartbeats 4000000 in
set_option maxRecDepth 100000 in
theorem s_X4_isWord_1_1005 (l : Launch) (D : va_G) (K : Nat → ClassId) (ad : Nat → Nat) (mm : Option Nat) (N : Nat) (hNN : 132 ≤ N) (v ar : sI) (al : sL) (hI : XI v) (tk tv : Nat → Nat) : Met l yX4_isWord (wM yX4_isWord cX4_isWord 3 (some .boolean)) (rmD 4) (va_Pc [.ref (ad 1), .ref (tk 5)] (twPre D K ad (xG ad K mm) N v ar al tk tv)) (va_Qi (fun (r : Int32) (u : sT) => (∃ z : Int, (0 ≤ z ∧ z ≤ 1) ∧ r = iI z) ∧ XI u.1 ∧ (∀ i j : Nat, (i, j) ∉ ([] : List (Nat × Nat)) → u.1 i j = v i j)) (wB D ad (xG ad K mm) N) (inW ad N)) 0 0 (inW ad N) := by
  refine s_metI (by decide) (Nat.le_of_ble_eq_true rfl) ?_
  intro p e s m below meth c ls args Q hE hB hl kr
  have hE : CallFix p m c cX4_isWord 3 s args tbG "TaleCourt$Reader" := hE
  obtain ⟨⟨hP, hK, hN⟩, hT, hTR⟩ := hB
  have hS : va_S (inW ad N) s.heap s.heap [] := va_S.rf
  have hl : lv_has ls 3 [(0, .ref (ad 1)), (1, .ref (tk 5))] := hl
  refine lv_aload_n hE.1 hE.2.1 dX4_isWord_0 rfl (lv_at hl 0 rfl) ?_
  obtain ⟨z1, hz1, ez1⟩ := iI_of (v 1 6)
  refine x_get (x := .int (v 1 6)) hE hK hP 1 (Nat.lt_of_lt_of_le (by decide) hNN) (xG_4 rfl) rfl hin4 6 (by decide) mw_155 rfl dX4_isWord_1 ?_
  refine x_top (y := iI (z1)) ez1 ?_
  refine lv_iconst (v := iI (2)) hE.1 hE.2.1 dX4_isWord_4 (by decide) ?_
  refine s_icmp_ne (a := z1) (b := 2) (tgt := 24) hE.1 hE.2.1 (by omega) (by omega) dX4_isWord_5 (by decide) (fun c2 => ?_) (fun c2 => ?_)
  · skip
    refine lv_iconst (v := iI (0)) hE.1 hE.2.1 dX4_isWord_24 (by decide) ?_
    exact kr _ v ar al _ _ _ _ (nar01 (by omega)) ⟨⟨0, by omega, rfl⟩, hI, fun i j h => rfl⟩ hP hS dX4_isWord_25
  · skip
    refine lv_aload_n hE.1 hE.2.1 dX4_isWord_8 rfl (lv_at hl 0 rfl) ?_
    obtain ⟨z3, hz3, ez3⟩ := iI_of (v 1 5)
    refine x_get (x := .int (v 1 5)) hE hK hP 1 (Nat.lt_of_lt_of_le (by decide) hNN) (xG_4 rfl) rfl hin4 5 (by decide) mw_154 rfl dX4_isWord_9 ?_
    refine x_top (y := iI (z3)) ez3 ?_
    refine lv_aload_n hE.1 hE.2.1 dX4_isWord_12 rfl (lv_at hl 0 rfl) ?_
    obtain ⟨z4, hz4, ez4⟩ := iI_of (v 1 4)
    refine x_get (x := .int (v 1 4)) hE hK hP 1 (Nat.lt_of_lt_of_le (by decide) hNN) (xG_4 rfl) rfl hin4 4 (by decide) mw_153 rfl dX4_isWord_13 ?_
    refine x_top (y := iI (z4)) ez4 ?_
    refine lv_isub hE.1 hE.2.1 dX4_isWord_16 ?_
    obtain ⟨z5, hz5, ez5⟩ := iI_of (iI (z3) - iI (z4))
    refine x_top ez5 ?_
    refine lv_aload_n hE.1 hE.2.1 dX4_isWord_17 rfl (lv_at hl 1 rfl) ?_
    refine x_vp (nn := 0) (As := []) (rest := [.int (iI (z5))]) hE (t_length l tk tv (inW ad N) 5 (by decide) 5 rfl) tP_blind (tP_now hT hS) (vk_recv hT.1 (by decide) hS) rfl mw_566 mw_567 mw_568 mw_125 mw_569 (by decide +kernel) ⟨by decide, by decide⟩ hl.1 rfl (Nat.le_of_ble_eq_true rfl) ⟨Nat.zero_le _, Nat.zero_le _⟩ dX4_isWord_18 (fun r6 hr6 => ?_)
    subst hr6
    refine s_icmp_eq (a := z5) (b := 5) (tgt := 26) hE.1 hE.2.1 (by omega) (by omega) dX4_isWord_21 (by decide) (fun c7 => ?_) (fun c7 => ?_)
    · skip
      refine lv_iconst (v := iI (0)) hE.1 hE.2.1 dX4_isWord_26 (by decide) ?_
      refine lv_istore_n (lv' := [(2, .int (iI (0))), (0, .ref (ad 1)), (1, .ref (tk 5))]) hE.1 hE.2.1 dX4_isWord_27 rfl hl (by decide) rfl (fun ls hl => ?_)
      have loop8 : ∀ (k8 : Nat) (y8_2 : Int) (vl8 arl8 : sI) (all8 : sL) (H : Heap) (locs : List Loc) (ls : Array Slot), (8 - y8_2).toNat = k8 → (0 ≤ y8_2 ∧ y8_2 ≤ 8) → XI vl8 → (∀ i j : Nat, (i, j) ∉ ([] : List (Nat × Nat)) → vl8 i j = v i j) → va_P D xcl (wW ad (xG ad K mm) N vl8 arl8 all8) H → va_S (inW ad N) s.heap H locs → lv_has ls 3 [(2, .int (iI (y8_2))), (0, .ref (ad 1)), (1, .ref (tk 5))] → W p l e (rmD 4) s m args below meth c H locs 0 0 Q (F0 m 28 ls []) := by
        intro k8
        induction k8 using Nat.strongRecOn with
        | _ k8 ih8 =>
          intro y8_2 vl8 arl8 all8 H locs ls hk8 hb_y8_2 hI hfr8 hP hS hl
          refine lv_iload_n hE.1 hE.2.1 dX4_isWord_28 rfl (lv_at hl 0 rfl) ?_
          refine lv_aload_n hE.1 hE.2.1 dX4_isWord_29 rfl (lv_at hl 2 rfl) ?_
          refine x_vp (nn := 0) (As := []) (rest := [.int (iI (y8_2))]) hE (t_length l tk tv (inW ad N) 5 (by decide) 5 rfl) tP_blind (tP_now hT hS) (vk_recv hT.1 (by decide) hS) rfl mw_566 mw_567 mw_568 mw_125 mw_569 (by decide +kernel) ⟨by decide, by decide⟩ hl.1 rfl (Nat.le_of_ble_eq_true rfl) ⟨Nat.zero_le _, Nat.zero_le _⟩ dX4_isWord_30 (fun r9 hr9 => ?_)
          subst hr9
          refine s_icmp_ge (a := y8_2) (b := 5) (tgt := 62) hE.1 hE.2.1 (by omega) (by omega) dX4_isWord_33 (by decide) (fun c10 => ?_) (fun c10 => ?_)
          · skip
            refine lv_iconst (v := iI (1)) hE.1 hE.2.1 dX4_isWord_62 (by decide) ?_
            exact kr _ vl8 arl8 all8 _ _ _ _ (nar01 (by omega)) ⟨⟨1, by omega, rfl⟩, hI, fun i j h => (hfr8 i j (fun q => h (mem_sub (by decide) q)))⟩ hP hS dX4_isWord_63
          · skip
            refine lv_aload_n hE.1 hE.2.1 dX4_isWord_36 rfl (lv_at hl 1 rfl) ?_
            refine lv_aload_n hE.1 hE.2.1 dX4_isWord_37 rfl (lv_at hl 1 rfl) ?_
            refine x_get (x := .int (vl8 1 4)) hE hK hP 1 (Nat.lt_of_lt_of_le (by decide) hNN) (xG_4 rfl) rfl hin4 4 (by decide) mw_153 rfl dX4_isWord_38 ?_
            refine x_top (y := iI (z4)) ((hfr8 1 4 (by decide)).trans ez4) ?_
            refine lv_iload_n hE.1 hE.2.1 dX4_isWord_41 rfl (lv_at hl 0 rfl) ?_
            refine lv_iadd hE.1 hE.2.1 dX4_isWord_42 ?_
            obtain ⟨z11, hz11, ez11⟩ := iI_of (iI (z4) + iI (y8_2))
            refine x_top ez11 ?_
            refine x_vp (nn := 1) (As := [.int (iI (z11))]) (rest := []) hE (s_X4_byteAt_1 l D K ad mm N hNN vl8 arl8 all8 hI  (z11) (by omega)) wPre_blind (wPre_now hK hN hP) (x_recv hK hP 1 (Nat.lt_of_lt_of_le (by decide) hNN) (xG_4 rfl) rfl) rfl mw_542 mw_544 mw_1 mw_115 mw_545 (by decide +kernel) ⟨by decide, by decide⟩ hl.1 rfl (Nat.le_of_ble_eq_true rfl) ⟨Nat.zero_le _, Nat.zero_le _⟩ dX4_isWord_43 (fun r12 hr12 => ?_)
            obtain ⟨z12, hz12, rfl⟩ := hr12
            refine lv_aload_n hE.1 hE.2.1 dX4_isWord_46 rfl (lv_at hl 2 rfl) ?_
            refine lv_iload_n hE.1 hE.2.1 dX4_isWord_47 rfl (lv_at hl 0 rfl) ?_
            refine x_vp (nn := 1) (As := [.int (iI (y8_2))]) (rest := [.int (iI (z12))]) hE (t_charAt l tk tv (inW ad N) 5 (by decide) (y8_2) (show 0 ≤ y8_2 ∧ y8_2 < ((5 : Nat) : Int) by omega)) tP_blind (tP_now hT hS) (vk_recv hT.1 (by decide) hS) rfl mw_576 mw_577 mw_578 mw_125 mw_579 (by decide +kernel) ⟨by decide, by decide⟩ hl.1 rfl (Nat.le_of_ble_eq_true rfl) ⟨Nat.zero_le _, Nat.zero_le _⟩ dX4_isWord_48 (fun r13 _ => ?_)
            obtain ⟨z13, hz13, rfl⟩ := iI_of r13
            refine s_icmp_eq (a := z12) (b := z13) (tgt := 56) hE.1 hE.2.1 (by omega) (by omega) dX4_isWord_51 (by decide) (fun c14 => ?_) (fun c14 => ?_)
            · skip
              refine lv_iinc (v := iI (y8_2 + 1)) (lv' := [(2, .int (iI (y8_2 + 1))), (0, .ref (ad 1)), (1, .ref (tk 5))]) hE.1 hE.2.1 dX4_isWord_56 hl (k := 0) rfl ((iI_add (y8_2) (1)).trans (congrArg iI (by omega))) (by decide) rfl (fun ls hl => ?_)
              refine lv_goto (tgt := 28) hE.1 hE.2.1 dX4_isWord_59 (by decide) ?_
              exact ih8 _ (by omega) (y8_2 + 1) vl8 arl8 all8 _ _ _ rfl (by omega) hI (fun i j h => (hfr8 i j h)) hP hS (lv_sub hl [0, 1, 2] rfl)
            · skip
              refine lv_iconst (v := iI (0)) hE.1 hE.2.1 dX4_isWord_54 (by decide) ?_
              exact kr _ vl8 arl8 all8 _ _ _ _ (nar01 (by omega)) ⟨⟨0, by omega, rfl⟩, hI, fun i j h => (hfr8 i j (fun q => h (mem_sub (by decide) q)))⟩ hP hS dX4_isWord_55
      exact loop8 _ (0) v ar al _ _ _ rfl (by omega) hI (fun _ _ _ => rfl) hP hS hl
    · skip
      refine lv_iconst (v := iI (0)) hE.1 hE.2.1 dX4_isWord_24 (by decide) ?_
      exact kr _ v ar al _ _ _ _ (nar01 (by omega)) ⟨⟨0, by omega, rfl⟩, hI, fun i j h => rfl⟩ hP hS dX4_isWord_25

set_option maxHeartbeats 4000000 in
set_option maxRecDepth 100000 in
theorem s_X4_isWord_1_1006 (l : Launch) (D : va_G) (K : Nat → ClassId) (ad : Nat → Nat) (mm : Option Nat) (N : Nat) (hNN : 132 ≤ N) (v ar : sI) (al : sL) (hI : XI v) (tk tv : Nat → Nat) : Met l yX4_isWord (wM yX4_isWord cX4_isWord 3 (some .boolean)) (rmD 4) (va_Pc [.ref (ad 1), .ref (tk 6)] (twPre D K ad (xG ad K mm) N v ar al tk tv)) (va_Qi (fun (r : Int32) (u : sT) => (∃ z : Int, (0 ≤ z ∧ z ≤ 1) ∧ r = iI z) ∧ XI u.1 ∧ (∀ i j : Nat, (i, j) ∉ ([] : List (Nat × Nat)) → u.1 i j = v i j)) (wB D ad (xG ad K mm) N) (inW ad N)) 0 0 (inW ad N) := by
  refine s_metI (by decide) (Nat.le_of_ble_eq_true rfl) ?_
  intro p e s m below meth c ls args Q hE hB hl kr
  have hE : CallFix p m c cX4_isWord 3 s args tbG "TaleCourt$Reader" := hE
  obtain ⟨⟨hP, hK, hN⟩, hT, hTR⟩ := hB
  have hS : va_S (inW ad N) s.heap s.heap [] := va_S.rf
  have hl : lv_has ls 3 [(0, .ref (ad 1)), (1, .ref (tk 6))] := hl
  refine lv_aload_n hE.1 hE.2.1 dX4_isWord_0 rfl (lv_at hl 0 rfl) ?_
  obtain ⟨z1, hz1, ez1⟩ := iI_of (v 1 6)
  refine x_get (x := .int (v 1 6)) hE hK hP 1 (Nat.lt_of_lt_of_le (by decide) hNN) (xG_4 rfl) rfl hin4 6 (by decide) mw_155 rfl dX4_isWord_1 ?_
  refine x_top (y := iI (z1)) ez1 ?_
  refine lv_iconst (v := iI (2)) hE.1 hE.2.1 dX4_isWord_4 (by decide) ?_
  refine s_icmp_ne (a := z1) (b := 2) (tgt := 24) hE.1 hE.2.1 (by omega) (by omega) dX4_isWord_5 (by decide) (fun c2 => ?_) (fun c2 => ?_)
  · skip
    refine lv_iconst (v := iI (0)) hE.1 hE.2.1 dX4_isWord_24 (by decide) ?_
    exact kr _ v ar al _ _ _ _ (nar01 (by omega)) ⟨⟨0, by omega, rfl⟩, hI, fun i j h => rfl⟩ hP hS dX4_isWord_25
  · skip
    refine lv_aload_n hE.1 hE.2.1 dX4_isWord_8 rfl (lv_at hl 0 rfl) ?_
    obtain ⟨z3, hz3, ez3⟩ := iI_of (v 1 5)
    refine x_get (x := .int (v 1 5)) hE hK hP 1 (Nat.lt_of_lt_of_le (by decide) hNN) (xG_4 rfl) rfl hin4 5 (by decide) mw_154 rfl dX4_isWord_9 ?_
    refine x_top (y := iI (z3)) ez3 ?_
    refine lv_aload_n hE.1 hE.2.1 dX4_isWord_12 rfl (lv_at hl 0 rfl) ?_
    obtain ⟨z4, hz4, ez4⟩ := iI_of (v 1 4)
    refine x_get (x := .int (v 1 4)) hE hK hP 1 (Nat.lt_of_lt_of_le (by decide) hNN) (xG_4 rfl) rfl hin4 4 (by decide) mw_153 rfl dX4_isWord_13 ?_
    refine x_top (y := iI (z4)) ez4 ?_
    refine lv_isub hE.1 hE.2.1 dX4_isWord_16 ?_
    obtain ⟨z5, hz5, ez5⟩ := iI_of (iI (z3) - iI (z4))
    refine x_top ez5 ?_
    refine lv_aload_n hE.1 hE.2.1 dX4_isWord_17 rfl (lv_at hl 1 rfl) ?_
    refine x_vp (nn := 0) (As := []) (rest := [.int (iI (z5))]) hE (t_length l tk tv (inW ad N) 6 (by decide) 8 rfl) tP_blind (tP_now hT hS) (vk_recv hT.1 (by decide) hS) rfl mw_566 mw_567 mw_568 mw_125 mw_569 (by decide +kernel) ⟨by decide, by decide⟩ hl.1 rfl (Nat.le_of_ble_eq_true rfl) ⟨Nat.zero_le _, Nat.zero_le _⟩ dX4_isWord_18 (fun r6 hr6 => ?_)
    subst hr6
    refine s_icmp_eq (a := z5) (b := 8) (tgt := 26) hE.1 hE.2.1 (by omega) (by omega) dX4_isWord_21 (by decide) (fun c7 => ?_) (fun c7 => ?_)
    · skip
      refine lv_iconst (v := iI (0)) hE.1 hE.2.1 dX4_isWord_26 (by decide) ?_
      refine lv_istore_n (lv' := [(2, .int (iI (0))), (0, .ref (ad 1)), (1, .ref (tk 6))]) hE.1 hE.2.1 dX4_isWord_27 rfl hl (by decide) rfl (fun ls hl => ?_)
      have loop8 : ∀ (k8 : Nat) (y8_2 : Int) (vl8 arl8 : sI) (all8 : sL) (H : Heap) (locs : List Loc) (ls : Array Slot), (8 - y8_2).toNat = k8 → (0 ≤ y8_2 ∧ y8_2 ≤ 8) → XI vl8 → (∀ i j : Nat, (i, j) ∉ ([] : List (Nat × Nat)) → vl8 i j = v i j) → va_P D xcl (wW ad (xG ad K mm) N vl8 arl8 all8) H → va_S (inW ad N) s.heap H locs → lv_has ls 3 [(2, .int (iI (y8_2))), (0, .ref (ad 1)), (1, .ref (tk 6))] → W p l e (rmD 4) s m args below meth c H locs 0 0 Q (F0 m 28 ls []) := by
        intro k8
        induction k8 using Nat.strongRecOn with
        | _ k8 ih8 =>
          intro y8_2 vl8 arl8 all8 H locs ls hk8 hb_y8_2 hI hfr8 hP hS hl
          refine lv_iload_n hE.1 hE.2.1 dX4_isWord_28 rfl (lv_at hl 0 rfl) ?_
          refine lv_aload_n hE.1 hE.2.1 dX4_isWord_29 rfl (lv_at hl 2 rfl) ?_
          refine x_vp (nn := 0) (As := []) (rest := [.int (iI (y8_2))]) hE (t_length l tk tv (inW ad N) 6 (by decide) 8 rfl) tP_blind (tP_now hT hS) (vk_recv hT.1 (by decide) hS) rfl mw_566 mw_567 mw_568 mw_125 mw_569 (by decide +kernel) ⟨by decide, by decide⟩ hl.1 rfl (Nat.le_of_ble_eq_true rfl) ⟨Nat.zero_le _, Nat.zero_le _⟩ dX4_isWord_30 (fun r9 hr9 => ?_)
          subst hr9
          refine s_icmp_ge (a := y8_2) (b := 8) (tgt := 62) hE.1 hE.2.1 (by omega) (by omega) dX4_isWord_33 (by decide) (fun c10 => ?_) (fun c10 => ?_)
          · skip
            refine lv_iconst (v := iI (1)) hE.1 hE.2.1 dX4_isWord_62 (by decide) ?_
            exact kr _ vl8 arl8 all8 _ _ _ _ (nar01 (by omega)) ⟨⟨1, by omega, rfl⟩, hI, fun i j h => (hfr8 i j (fun q => h (mem_sub (by decide) q)))⟩ hP hS dX4_isWord_63
          · skip
            refine lv_aload_n hE.1 hE.2.1 dX4_isWord_36 rfl (lv_at hl 1 rfl) ?_
            refine lv_aload_n hE.1 hE.2.1 dX4_isWord_37 rfl (lv_at hl 1 rfl) ?_
            refine x_get (x := .int (vl8 1 4)) hE hK hP 1 (Nat.lt_of_lt_of_le (by decide) hNN) (xG_4 rfl) rfl hin4 4 (by decide) mw_153 rfl dX4_isWord_38 ?_
            refine x_top (y := iI (z4)) ((hfr8 1 4 (by decide)).trans ez4) ?_
            refine lv_iload_n hE.1 hE.2.1 dX4_isWord_41 rfl (lv_at hl 0 rfl) ?_
            refine lv_iadd hE.1 hE.2.1 dX4_isWord_42 ?_
            obtain ⟨z11, hz11, ez11⟩ := iI_of (iI (z4) + iI (y8_2))
            refine x_top ez11 ?_
            refine x_vp (nn := 1) (As := [.int (iI (z11))]) (rest := []) hE (s_X4_byteAt_1 l D K ad mm N hNN vl8 arl8 all8 hI  (z11) (by omega)) wPre_blind (wPre_now hK hN hP) (x_recv hK hP 1 (Nat.lt_of_lt_of_le (by decide) hNN) (xG_4 rfl) rfl) rfl mw_542 mw_544 mw_1 mw_115 mw_545 (by decide +kernel) ⟨by decide, by decide⟩ hl.1 rfl (Nat.le_of_ble_eq_true rfl) ⟨Nat.zero_le _, Nat.zero_le _⟩ dX4_isWord_43 (fun r12 hr12 => ?_)
            obtain ⟨z12, hz12, rfl⟩ := hr12
            refine lv_aload_n hE.1 hE.2.1 dX4_isWord_46 rfl (lv_at hl 2 rfl) ?_
            refine lv_iload_n hE.1 hE.2.1 dX4_isWord_47 rfl (lv_at hl 0 rfl) ?_
            refine x_vp (nn := 1) (As := [.int (iI (y8_2))]) (rest := [.int (iI (z12))]) hE (t_charAt l tk tv (inW ad N) 6 (by decide) (y8_2) (show 0 ≤ y8_2 ∧ y8_2 < ((8 : Nat) : Int) by omega)) tP_blind (tP_now hT hS) (vk_recv hT.1 (by decide) hS) rfl mw_576 mw_577 mw_578 mw_125 mw_579 (by decide +kernel) ⟨by decide, by decide⟩ hl.1 rfl (Nat.le_of_ble_eq_true rfl) ⟨Nat.zero_le _, Nat.zero_le _⟩ dX4_isWord_48 (fun r13 _ => ?_)
            obtain ⟨z13, hz13, rfl⟩ := iI_of r13
            refine s_icmp_eq (a := z12) (b := z13) (tgt := 56) hE.1 hE.2.1 (by omega) (by omega) dX4_isWord_51 (by decide) (fun c14 => ?_) (fun c14 => ?_)
            · skip
              refine lv_iinc (v := iI (y8_2 + 1)) (lv' := [(2, .int (iI (y8_2 + 1))), (0, .ref (ad 1)), (1, .ref (tk 6))]) hE.1 hE.2.1 dX4_isWord_56 hl (k := 0) rfl ((iI_add (y8_2) (1)).trans (congrArg iI (by omega))) (by decide) rfl (fun ls hl => ?_)
              refine lv_goto (tgt := 28) hE.1 hE.2.1 dX4_isWord_59 (by decide) ?_
              exact ih8 _ (by omega) (y8_2 + 1) vl8 arl8 all8 _ _ _ rfl (by omega) hI (fun i j h => (hfr8 i j h)) hP hS (lv_sub hl [0, 1, 2] rfl)
            · skip
              refine lv_iconst (v := iI (0)) hE.1 hE.2.1 dX4_isWord_54 (by decide) ?_
              exact kr _ vl8 arl8 all8 _ _ _ _ (nar01 (by omega)) ⟨⟨0, by omega, rfl⟩, hI, fun i j h => (hfr8 i j (fun q => h (mem_sub (by decide) q)))⟩ hP hS dX4_isWord_55
      exact loop8 _ (0) v ar al _ _ _ rfl (by omega) hI (fun _ _ _ => rfl) hP hS hl
    · skip
      refine lv_iconst (v := iI (0)) hE.1 hE.2.1 dX4_isWord_24 (by decide) ?_
      exact kr _ v ar al _ _ _ _ (nar01 (by omega)) ⟨⟨0, by omega, rfl⟩, hI, fun i j h => rfl⟩ hP hS dX4_isWord_25

set_option maxHeartbeats 4000000 in
set_option maxRecDepth 100000 in
theorem s_X4_isWord_1_1007 (l : Launch) (D : va_G) (K : Nat → ClassId) (ad : Nat → Nat) (mm : Option Nat) (N : Nat) (hNN : 132 ≤ N) (v ar : sI) (al : sL) (hI : XI v) (tk tv : Nat → Nat) : Met l yX4_isWord (wM yX4_isWord cX4_isWord 3 (some .boolean)) (rmD 4) (va_Pc [.ref (ad 1), .ref (tk 7)] (twPre D K ad (xG ad K mm) N v ar al tk tv)) (va_Qi (fun (r : Int32) (u : sT) => (∃ z : Int, (0 ≤ z ∧ z ≤ 1) ∧ r = iI z) ∧ XI u.1 ∧ (∀ i j : Nat, (i, j) ∉ ([] : List (Nat × Nat)) → u.1 i j = v i j)) (wB D ad (xG ad K mm) N) (inW ad N)) 0 0 (inW ad N) := by
  refine s_metI (by decide) (Nat.le_of_ble_eq_true rfl) ?_
  intro p e s m below meth c ls args Q hE hB hl kr
  have hE : CallFix p m c cX4_isWord 3 s args tbG "TaleCourt$Reader" := hE
  obtain ⟨⟨hP, hK, hN⟩, hT, hTR⟩ := hB
  have hS : va_S (inW ad N) s.heap s.heap [] := va_S.rf
  have hl : lv_has ls 3 [(0, .ref (ad 1)), (1, .ref (tk 7))] := hl
  refine lv_aload_n hE.1 hE.2.1 dX4_isWord_0 rfl (lv_at hl 0 rfl) ?_
  obtain ⟨z1, hz1, ez1⟩ := iI_of (v 1 6)
  refine x_get (x := .int (v 1 6)) hE hK hP 1 (Nat.lt_of_lt_of_le (by decide) hNN) (xG_4 rfl) rfl hin4 6 (by decide) mw_155 rfl dX4_isWord_1 ?_
  refine x_top (y := iI (z1)) ez1 ?_
  refine lv_iconst (v := iI (2)) hE.1 hE.2.1 dX4_isWord_4 (by decide) ?_
  refine s_icmp_ne (a := z1) (b := 2) (tgt := 24) hE.1 hE.2.1 (by omega) (by omega) dX4_isWord_5 (by decide) (fun c2 => ?_) (fun c2 => ?_)
  · skip
    refine lv_iconst (v := iI (0)) hE.1 hE.2.1 dX4_isWord_24 (by decide) ?_
    exact kr _ v ar al _ _ _ _ (nar01 (by omega)) ⟨⟨0, by omega, rfl⟩, hI, fun i j h => rfl⟩ hP hS dX4_isWord_25
  · skip
    refine lv_aload_n hE.1 hE.2.1 dX4_isWord_8 rfl (lv_at hl 0 rfl) ?_
    obtain ⟨z3, hz3, ez3⟩ := iI_of (v 1 5)
    refine x_get (x := .int (v 1 5)) hE hK hP 1 (Nat.lt_of_lt_of_le (by decide) hNN) (xG_4 rfl) rfl hin4 5 (by decide) mw_154 rfl dX4_isWord_9 ?_
    refine x_top (y := iI (z3)) ez3 ?_
    refine lv_aload_n hE.1 hE.2.1 dX4_isWord_12 rfl (lv_at hl 0 rfl) ?_
    obtain ⟨z4, hz4, ez4⟩ := iI_of (v 1 4)
    refine x_get (x := .int (v 1 4)) hE hK hP 1 (Nat.lt_of_lt_of_le (by decide) hNN) (xG_4 rfl) rfl hin4 4 (by decide) mw_153 rfl dX4_isWord_13 ?_
    refine x_top (y := iI (z4)) ez4 ?_
    refine lv_isub hE.1 hE.2.1 dX4_isWord_16 ?_
    obtain ⟨z5, hz5, ez5⟩ := iI_of (iI (z3) - iI (z4))
    refine x_top ez5 ?_
    refine lv_aload_n hE.1 hE.2.1 dX4_isWord_17 rfl (lv_at hl 1 rfl) ?_
    refine x_vp (nn := 0) (As := []) (rest := [.int (iI (z5))]) hE (t_length l tk tv (inW ad N) 7 (by decide) 4 rfl) tP_blind (tP_now hT hS) (vk_recv hT.1 (by decide) hS) rfl mw_566 mw_567 mw_568 mw_125 mw_569 (by decide +kernel) ⟨by decide, by decide⟩ hl.1 rfl (Nat.le_of_ble_eq_true rfl) ⟨Nat.zero_le _, Nat.zero_le _⟩ dX4_isWord_18 (fun r6 hr6 => ?_)
    subst hr6
    refine s_icmp_eq (a := z5) (b := 4) (tgt := 26) hE.1 hE.2.1 (by omega) (by omega) dX4_isWord_21 (by decide) (fun c7 => ?_) (fun c7 => ?_)
    · skip
      refine lv_iconst (v := iI (0)) hE.1 hE.2.1 dX4_isWord_26 (by decide) ?_
      refine lv_istore_n (lv' := [(2, .int (iI (0))), (0, .ref (ad 1)), (1, .ref (tk 7))]) hE.1 hE.2.1 dX4_isWord_27 rfl hl (by decide) rfl (fun ls hl => ?_)
      have loop8 : ∀ (k8 : Nat) (y8_2 : Int) (vl8 arl8 : sI) (all8 : sL) (H : Heap) (locs : List Loc) (ls : Array Slot), (8 - y8_2).toNat = k8 → (0 ≤ y8_2 ∧ y8_2 ≤ 8) → XI vl8 → (∀ i j : Nat, (i, j) ∉ ([] : List (Nat × Nat)) → vl8 i j = v i j) → va_P D xcl (wW ad (xG ad K mm) N vl8 arl8 all8) H → va_S (inW ad N) s.heap H locs → lv_has ls 3 [(2, .int (iI (y8_2))), (0, .ref (ad 1)), (1, .ref (tk 7))] → W p l e (rmD 4) s m args below meth c H locs 0 0 Q (F0 m 28 ls []) := by
        intro k8
        induction k8 using Nat.strongRecOn with
        | _ k8 ih8 =>
          intro y8_2 vl8 arl8 all8 H locs ls hk8 hb_y8_2 hI hfr8 hP hS hl
          refine lv_iload_n hE.1 hE.2.1 dX4_isWord_28 rfl (lv_at hl 0 rfl) ?_
          refine lv_aload_n hE.1 hE.2.1 dX4_isWord_29 rfl (lv_at hl 2 rfl) ?_
          refine x_vp (nn := 0) (As := []) (rest := [.int (iI (y8_2))]) hE (t_length l tk tv (inW ad N) 7 (by decide) 4 rfl) tP_blind (tP_now hT hS) (vk_recv hT.1 (by decide) hS) rfl mw_566 mw_567 mw_568 mw_125 mw_569 (by decide +kernel) ⟨by decide, by decide⟩ hl.1 rfl (Nat.le_of_ble_eq_true rfl) ⟨Nat.zero_le _, Nat.zero_le _⟩ dX4_isWord_30 (fun r9 hr9 => ?_)
          subst hr9
          refine s_icmp_ge (a := y8_2) (b := 4) (tgt := 62) hE.1 hE.2.1 (by omega) (by omega) dX4_isWord_33 (by decide) (fun c10 => ?_) (fun c10 => ?_)
          · skip
            refine lv_iconst (v := iI (1)) hE.1 hE.2.1 dX4_isWord_62 (by decide) ?_
            exact kr _ vl8 arl8 all8 _ _ _ _ (nar01 (by omega)) ⟨⟨1, by omega, rfl⟩, hI, fun i j h => (hfr8 i j (fun q => h (mem_sub (by decide) q)))⟩ hP hS dX4_isWord_63
          · skip
            refine lv_aload_n hE.1 hE.2.1 dX4_isWord_36 rfl (lv_at hl 1 rfl) ?_
            refine lv_aload_n hE.1 hE.2.1 dX4_isWord_37 rfl (lv_at hl 1 rfl) ?_
            refine x_get (x := .int (vl8 1 4)) hE hK hP 1 (Nat.lt_of_lt_of_le (by decide) hNN) (xG_4 rfl) rfl hin4 4 (by decide) mw_153 rfl dX4_isWord_38 ?_
            refine x_top (y := iI (z4)) ((hfr8 1 4 (by decide)).trans ez4) ?_
            refine lv_iload_n hE.1 hE.2.1 dX4_isWord_41 rfl (lv_at hl 0 rfl) ?_
            refine lv_iadd hE.1 hE.2.1 dX4_isWord_42 ?_
            obtain ⟨z11, hz11, ez11⟩ := iI_of (iI (z4) + iI (y8_2))
            refine x_top ez11 ?_
            refine x_vp (nn := 1) (As := [.int (iI (z11))]) (rest := []) hE (s_X4_byteAt_1 l D K ad mm N hNN vl8 arl8 all8 hI  (z11) (by omega)) wPre_blind (wPre_now hK hN hP) (x_recv hK hP 1 (Nat.lt_of_lt_of_le (by decide) hNN) (xG_4 rfl) rfl) rfl mw_542 mw_544 mw_1 mw_115 mw_545 (by decide +kernel) ⟨by decide, by decide⟩ hl.1 rfl (Nat.le_of_ble_eq_true rfl) ⟨Nat.zero_le _, Nat.zero_le _⟩ dX4_isWord_43 (fun r12 hr12 => ?_)
            obtain ⟨z12, hz12, rfl⟩ := hr12
            refine lv_aload_n hE.1 hE.2.1 dX4_isWord_46 rfl (lv_at hl 2 rfl) ?_
            refine lv_iload_n hE.1 hE.2.1 dX4_isWord_47 rfl (lv_at hl 0 rfl) ?_
            refine x_vp (nn := 1) (As := [.int (iI (y8_2))]) (rest := [.int (iI (z12))]) hE (t_charAt l tk tv (inW ad N) 7 (by decide) (y8_2) (show 0 ≤ y8_2 ∧ y8_2 < ((4 : Nat) : Int) by omega)) tP_blind (tP_now hT hS) (vk_recv hT.1 (by decide) hS) rfl mw_576 mw_577 mw_578 mw_125 mw_579 (by decide +kernel) ⟨by decide, by decide⟩ hl.1 rfl (Nat.le_of_ble_eq_true rfl) ⟨Nat.zero_le _, Nat.zero_le _⟩ dX4_isWord_48 (fun r13 _ => ?_)
            obtain ⟨z13, hz13, rfl⟩ := iI_of r13
            refine s_icmp_eq (a := z12) (b := z13) (tgt := 56) hE.1 hE.2.1 (by omega) (by omega) dX4_isWord_51 (by decide) (fun c14 => ?_) (fun c14 => ?_)
            · skip
              refine lv_iinc (v := iI (y8_2 + 1)) (lv' := [(2, .int (iI (y8_2 + 1))), (0, .ref (ad 1)), (1, .ref (tk 7))]) hE.1 hE.2.1 dX4_isWord_56 hl (k := 0) rfl ((iI_add (y8_2) (1)).trans (congrArg iI (by omega))) (by decide) rfl (fun ls hl => ?_)
              refine lv_goto (tgt := 28) hE.1 hE.2.1 dX4_isWord_59 (by decide) ?_
              exact ih8 _ (by omega) (y8_2 + 1) vl8 arl8 all8 _ _ _ rfl (by omega) hI (fun i j h => (hfr8 i j h)) hP hS (lv_sub hl [0, 1, 2] rfl)
            · skip
              refine lv_iconst (v := iI (0)) hE.1 hE.2.1 dX4_isWord_54 (by decide) ?_
              exact kr _ vl8 arl8 all8 _ _ _ _ (nar01 (by omega)) ⟨⟨0, by omega, rfl⟩, hI, fun i j h => (hfr8 i j (fun q => h (mem_sub (by decide) q)))⟩ hP hS dX4_isWord_55
      exact loop8 _ (0) v ar al _ _ _ rfl (by omega) hI (fun _ _ _ => rfl) hP hS hl
    · skip
      refine lv_iconst (v := iI (0)) hE.1 hE.2.1 dX4_isWord_24 (by decide) ?_
      exact kr _ v ar al _ _ _ _ (nar01 (by omega)) ⟨⟨0, by omega, rfl⟩, hI, fun i j h => rfl⟩ hP hS dX4_isWord_25

set_option maxHeartbeats 4000000 in
set_option maxRecDepth 100000 in
theorem s_X4_isWord_1_1008 (l : Launch) (D : va_G) (K : Nat → ClassId) (ad : Nat → Nat) (mm : Option Nat) (N : Nat) (hNN : 132 ≤ N) (v ar : sI) (al : sL) (hI : XI v) (tk tv : Nat → Nat) : Met l yX4_isWord (wM yX4_isWord cX4_isWord 3 (some .boolean)) (rmD 4) (va_Pc [.ref (ad 1), .ref (tk 8)] (twPre D K ad (xG ad K mm) N v ar al tk tv)) (va_Qi (fun (r : Int32) (u : sT) => (∃ z : Int, (0 ≤ z ∧ z ≤ 1) ∧ r = iI z) ∧ XI u.1 ∧ (∀ i j : Nat, (i, j) ∉ ([] : List (Nat × Nat)) → u.1 i j = v i j)) (wB D ad (xG ad K mm) N) (inW ad N)) 0 0 (inW ad N) := by
  refine s_metI (by decide) (Nat.le_of_ble_eq_true rfl) ?_
  intro p e s m below meth c ls args Q hE hB hl kr
  have hE : CallFix p m c cX4_isWord 3 s args tbG "TaleCourt$Reader" := hE
  obtain ⟨⟨hP, hK, hN⟩, hT, hTR⟩ := hB
  have hS : va_S (inW ad N) s.heap s.heap [] := va_S.rf
  have hl : lv_has ls 3 [(0, .ref (ad 1)), (1, .ref (tk 8))] := hl
  refine lv_aload_n hE.1 hE.2.1 dX4_isWord_0 rfl (lv_at hl 0 rfl) ?_
  obtain ⟨z1, hz1, ez1⟩ := iI_of (v 1 6)
  refine x_get (x := .int (v 1 6)) hE hK hP 1 (Nat.lt_of_lt_of_le (by decide) hNN) (xG_4 rfl) rfl hin4 6 (by decide) mw_155 rfl dX4_isWord_1 ?_
  refine x_top (y := iI (z1)) ez1 ?_
  refine lv_iconst (v := iI (2)) hE.1 hE.2.1 dX4_isWord_4 (by decide) ?_
  refine s_icmp_ne (a := z1) (b := 2) (tgt := 24) hE.1 hE.2.1 (by omega) (by omega) dX4_isWord_5 (by decide) (fun c2 => ?_) (fun c2 => ?_)
  · skip
    refine lv_iconst (v := iI (0)) hE.1 hE.2.1 dX4_isWord_24 (by decide) ?_
    exact kr _ v ar al _ _ _ _ (nar01 (by omega)) ⟨⟨0, by omega, rfl⟩, hI, fun i j h => rfl⟩ hP hS dX4_isWord_25
  · skip
    refine lv_aload_n hE.1 hE.2.1 dX4_isWord_8 rfl (lv_at hl 0 rfl) ?_
    obtain ⟨z3, hz3, ez3⟩ := iI_of (v 1 5)
    refine x_get (x := .int (v 1 5)) hE hK hP 1 (Nat.lt_of_lt_of_le (by decide) hNN) (xG_4 rfl) rfl hin4 5 (by decide) mw_154 rfl dX4_isWord_9 ?_
    refine x_top (y := iI (z3)) ez3 ?_
    refine lv_aload_n hE.1 hE.2.1 dX4_isWord_12 rfl (lv_at hl 0 rfl) ?_
    obtain ⟨z4, hz4, ez4⟩ := iI_of (v 1 4)
    refine x_get (x := .int (v 1 4)) hE hK hP 1 (Nat.lt_of_lt_of_le (by decide) hNN) (xG_4 rfl) rfl hin4 4 (by decide) mw_153 rfl dX4_isWord_13 ?_
    refine x_top (y := iI (z4)) ez4 ?_
    refine lv_isub hE.1 hE.2.1 dX4_isWord_16 ?_
    obtain ⟨z5, hz5, ez5⟩ := iI_of (iI (z3) - iI (z4))
    refine x_top ez5 ?_
    refine lv_aload_n hE.1 hE.2.1 dX4_isWord_17 rfl (lv_at hl 1 rfl) ?_
    refine x_vp (nn := 0) (As := []) (rest := [.int (iI (z5))]) hE (t_length l tk tv (inW ad N) 8 (by decide) 4 rfl) tP_blind (tP_now hT hS) (vk_recv hT.1 (by decide) hS) rfl mw_566 mw_567 mw_568 mw_125 mw_569 (by decide +kernel) ⟨by decide, by decide⟩ hl.1 rfl (Nat.le_of_ble_eq_true rfl) ⟨Nat.zero_le _, Nat.zero_le _⟩ dX4_isWord_18 (fun r6 hr6 => ?_)
    subst hr6
    refine s_icmp_eq (a := z5) (b := 4) (tgt := 26) hE.1 hE.2.1 (by omega) (by omega) dX4_isWord_21 (by decide) (fun c7 => ?_) (fun c7 => ?_)
    · skip
      refine lv_iconst (v := iI (0)) hE.1 hE.2.1 dX4_isWord_26 (by decide) ?_
      refine lv_istore_n (lv' := [(2, .int (iI (0))), (0, .ref (ad 1)), (1, .ref (tk 8))]) hE.1 hE.2.1 dX4_isWord_27 rfl hl (by decide) rfl (fun ls hl => ?_)
      have loop8 : ∀ (k8 : Nat) (y8_2 : Int) (vl8 arl8 : sI) (all8 : sL) (H : Heap) (locs : List Loc) (ls : Array Slot), (8 - y8_2).toNat = k8 → (0 ≤ y8_2 ∧ y8_2 ≤ 8) → XI vl8 → (∀ i j : Nat, (i, j) ∉ ([] : List (Nat × Nat)) → vl8 i j = v i j) → va_P D xcl (wW ad (xG ad K mm) N vl8 arl8 all8) H → va_S (inW ad N) s.heap H locs → lv_has ls 3 [(2, .int (iI (y8_2))), (0, .ref (ad 1)), (1, .ref (tk 8))] → W p l e (rmD 4) s m args below meth c H locs 0 0 Q (F0 m 28 ls []) := by
        intro k8
        induction k8 using Nat.strongRecOn with
        | _ k8 ih8 =>
          intro y8_2 vl8 arl8 all8 H locs ls hk8 hb_y8_2 hI hfr8 hP hS hl
          refine lv_iload_n hE.1 hE.2.1 dX4_isWord_28 rfl (lv_at hl 0 rfl) ?_
          refine lv_aload_n hE.1 hE.2.1 dX4_isWord_29 rfl (lv_at hl 2 rfl) ?_
          refine x_vp (nn := 0) (As := []) (rest := [.int (iI (y8_2))]) hE (t_length l tk tv (inW ad N) 8 (by decide) 4 rfl) tP_blind (tP_now hT hS) (vk_recv hT.1 (by decide) hS) rfl mw_566 mw_567 mw_568 mw_125 mw_569 (by decide +kernel) ⟨by decide, by decide⟩ hl.1 rfl (Nat.le_of_ble_eq_true rfl) ⟨Nat.zero_le _, Nat.zero_le _⟩ dX4_isWord_30 (fun r9 hr9 => ?_)
          subst hr9
          refine s_icmp_ge (a := y8_2) (b := 4) (tgt := 62) hE.1 hE.2.1 (by omega) (by omega) dX4_isWord_33 (by decide) (fun c10 => ?_) (fun c10 => ?_)
          · skip
            refine lv_iconst (v := iI (1)) hE.1 hE.2.1 dX4_isWord_62 (by decide) ?_
            exact kr _ vl8 arl8 all8 _ _ _ _ (nar01 (by omega)) ⟨⟨1, by omega, rfl⟩, hI, fun i j h => (hfr8 i j (fun q => h (mem_sub (by decide) q)))⟩ hP hS dX4_isWord_63
          · skip
            refine lv_aload_n hE.1 hE.2.1 dX4_isWord_36 rfl (lv_at hl 1 rfl) ?_
            refine lv_aload_n hE.1 hE.2.1 dX4_isWord_37 rfl (lv_at hl 1 rfl) ?_
            refine x_get (x := .int (vl8 1 4)) hE hK hP 1 (Nat.lt_of_lt_of_le (by decide) hNN) (xG_4 rfl) rfl hin4 4 (by decide) mw_153 rfl dX4_isWord_38 ?_
            refine x_top (y := iI (z4)) ((hfr8 1 4 (by decide)).trans ez4) ?_
            refine lv_iload_n hE.1 hE.2.1 dX4_isWord_41 rfl (lv_at hl 0 rfl) ?_
            refine lv_iadd hE.1 hE.2.1 dX4_isWord_42 ?_
            obtain ⟨z11, hz11, ez11⟩ := iI_of (iI (z4) + iI (y8_2))
            refine x_top ez11 ?_
            refine x_vp (nn := 1) (As := [.int (iI (z11))]) (rest := []) hE (s_X4_byteAt_1 l D K ad mm N hNN vl8 arl8 all8 hI  (z11) (by omega)) wPre_blind (wPre_now hK hN hP) (x_recv hK hP 1 (Nat.lt_of_lt_of_le (by decide) hNN) (xG_4 rfl) rfl) rfl mw_542 mw_544 mw_1 mw_115 mw_545 (by decide +kernel) ⟨by decide, by decide⟩ hl.1 rfl (Nat.le_of_ble_eq_true rfl) ⟨Nat.zero_le _, Nat.zero_le _⟩ dX4_isWord_43 (fun r12 hr12 => ?_)
            obtain ⟨z12, hz12, rfl⟩ := hr12
            refine lv_aload_n hE.1 hE.2.1 dX4_isWord_46 rfl (lv_at hl 2 rfl) ?_
            refine lv_iload_n hE.1 hE.2.1 dX4_isWord_47 rfl (lv_at hl 0 rfl) ?_
            refine x_vp (nn := 1) (As := [.int (iI (y8_2))]) (rest := [.int (iI (z12))]) hE (t_charAt l tk tv (inW ad N) 8 (by decide) (y8_2) (show 0 ≤ y8_2 ∧ y8_2 < ((4 : Nat) : Int) by omega)) tP_blind (tP_now hT hS) (vk_recv hT.1 (by decide) hS) rfl mw_576 mw_577 mw_578 mw_125 mw_579 (by decide +kernel) ⟨by decide, by decide⟩ hl.1 rfl (Nat.le_of_ble_eq_true rfl) ⟨Nat.zero_le _, Nat.zero_le _⟩ dX4_isWord_48 (fun r13 _ => ?_)
            obtain ⟨z13, hz13, rfl⟩ := iI_of r13
            refine s_icmp_eq (a := z12) (b := z13) (tgt := 56) hE.1 hE.2.1 (by omega) (by omega) dX4_isWord_51 (by decide) (fun c14 => ?_) (fun c14 => ?_)
            · skip
              refine lv_iinc (v := iI (y8_2 + 1)) (lv' := [(2, .int (iI (y8_2 + 1))), (0, .ref (ad 1)), (1, .ref (tk 8))]) hE.1 hE.2.1 dX4_isWord_56 hl (k := 0) rfl ((iI_add (y8_2) (1)).trans (congrArg iI (by omega))) (by decide) rfl (fun ls hl => ?_)
              refine lv_goto (tgt := 28) hE.1 hE.2.1 dX4_isWord_59 (by decide) ?_
              exact ih8 _ (by omega) (y8_2 + 1) vl8 arl8 all8 _ _ _ rfl (by omega) hI (fun i j h => (hfr8 i j h)) hP hS (lv_sub hl [0, 1, 2] rfl)
            · skip
              refine lv_iconst (v := iI (0)) hE.1 hE.2.1 dX4_isWord_54 (by decide) ?_
              exact kr _ vl8 arl8 all8 _ _ _ _ (nar01 (by omega)) ⟨⟨0, by omega, rfl⟩, hI, fun i j h => (hfr8 i j (fun q => h (mem_sub (by decide) q)))⟩ hP hS dX4_isWord_55
      exact loop8 _ (0) v ar al _ _ _ rfl (by omega) hI (fun _ _ _ => rfl) hP hS hl
    · skip
      refine lv_iconst (v := iI (0)) hE.1 hE.2.1 dX4_isWord_24 (by decide) ?_
      exact kr _ v ar al _ _ _ _ (nar01 (by omega)) ⟨⟨0, by omega, rfl⟩, hI, fun i j h => rfl⟩ hP hS dX4_isWord_25

set_option maxHeartbeats 4000000 in
set_option maxRecDepth 100000 in
theorem s_X4_isWord_1_1009 (l : Launch) (D : va_G) (K : Nat → ClassId) (ad : Nat → Nat) (mm : Option Nat) (N : Nat) (hNN : 132 ≤ N) (v ar : sI) (al : sL) (hI : XI v) (tk tv : Nat → Nat) : Met l yX4_isWord (wM yX4_isWord cX4_isWord 3 (some .boolean)) (rmD 4) (va_Pc [.ref (ad 1), .ref (tk 9)] (twPre D K ad (xG ad K mm) N v ar al tk tv)) (va_Qi (fun (r : Int32) (u : sT) => (∃ z : Int, (0 ≤ z ∧ z ≤ 1) ∧ r = iI z) ∧ XI u.1 ∧ (∀ i j : Nat, (i, j) ∉ ([] : List (Nat × Nat)) → u.1 i j = v i j)) (wB D ad (xG ad K mm) N) (inW ad N)) 0 0 (inW ad N) := by
  refine s_metI (by decide) (Nat.le_of_ble_eq_true rfl) ?_
  intro p e s m below meth c ls args Q hE hB hl kr
  have hE : CallFix p m c cX4_isWord 3 s args tbG "TaleCourt$Reader" := hE
  obtain ⟨⟨hP, hK, hN⟩, hT, hTR⟩ := hB
  have hS : va_S (inW ad N) s.heap s.heap [] := va_S.rf
  have hl : lv_has ls 3 [(0, .ref (ad 1)), (1, .ref (tk 9))] := hl
  refine lv_aload_n hE.1 hE.2.1 dX4_isWord_0 rfl (lv_at hl 0 rfl) ?_
  obtain ⟨z1, hz1, ez1⟩ := iI_of (v 1 6)
  refine x_get (x := .int (v 1 6)) hE hK hP 1 (Nat.lt_of_lt_of_le (by decide) hNN) (xG_4 rfl) rfl hin4 6 (by decide) mw_155 rfl dX4_isWord_1 ?_
  refine x_top (y := iI (z1)) ez1 ?_
  refine lv_iconst (v := iI (2)) hE.1 hE.2.1 dX4_isWord_4 (by decide) ?_
  refine s_icmp_ne (a := z1) (b := 2) (tgt := 24) hE.1 hE.2.1 (by omega) (by omega) dX4_isWord_5 (by decide) (fun c2 => ?_) (fun c2 => ?_)
  · skip
    refine lv_iconst (v := iI (0)) hE.1 hE.2.1 dX4_isWord_24 (by decide) ?_
    exact kr _ v ar al _ _ _ _ (nar01 (by omega)) ⟨⟨0, by omega, rfl⟩, hI, fun i j h => rfl⟩ hP hS dX4_isWord_25
  · skip
    refine lv_aload_n hE.1 hE.2.1 dX4_isWord_8 rfl (lv_at hl 0 rfl) ?_
    obtain ⟨z3, hz3, ez3⟩ := iI_of (v 1 5)
    refine x_get (x := .int (v 1 5)) hE hK hP 1 (Nat.lt_of_lt_of_le (by decide) hNN) (xG_4 rfl) rfl hin4 5 (by decide) mw_154 rfl dX4_isWord_9 ?_
    refine x_top (y := iI (z3)) ez3 ?_
    refine lv_aload_n hE.1 hE.2.1 dX4_isWord_12 rfl (lv_at hl 0 rfl) ?_
    obtain ⟨z4, hz4, ez4⟩ := iI_of (v 1 4)
    refine x_get (x := .int (v 1 4)) hE hK hP 1 (Nat.lt_of_lt_of_le (by decide) hNN) (xG_4 rfl) rfl hin4 4 (by decide) mw_153 rfl dX4_isWord_13 ?_
    refine x_top (y := iI (z4)) ez4 ?_
    refine lv_isub hE.1 hE.2.1 dX4_isWord_16 ?_
    obtain ⟨z5, hz5, ez5⟩ := iI_of (iI (z3) - iI (z4))
    refine x_top ez5 ?_
    refine lv_aload_n hE.1 hE.2.1 dX4_isWord_17 rfl (lv_at hl 1 rfl) ?_
    refine x_vp (nn := 0) (As := []) (rest := [.int (iI (z5))]) hE (t_length l tk tv (inW ad N) 9 (by decide) 6 rfl) tP_blind (tP_now hT hS) (vk_recv hT.1 (by decide) hS) rfl mw_566 mw_567 mw_568 mw_125 mw_569 (by decide +kernel) ⟨by decide, by decide⟩ hl.1 rfl (Nat.le_of_ble_eq_true rfl) ⟨Nat.zero_le _, Nat.zero_le _⟩ dX4_isWord_18 (fun r6 hr6 => ?_)
    subst hr6
    refine s_icmp_eq (a := z5) (b := 6) (tgt := 26) hE.1 hE.2.1 (by omega) (by omega) dX4_isWord_21 (by decide) (fun c7 => ?_) (fun c7 => ?_)
    · skip
      refine lv_iconst (v := iI (0)) hE.1 hE.2.1 dX4_isWord_26 (by decide) ?_
      refine lv_istore_n (lv' := [(2, .int (iI (0))), (0, .ref (ad 1)), (1, .ref (tk 9))]) hE.1 hE.2.1 dX4_isWord_27 rfl hl (by decide) rfl (fun ls hl => ?_)
      have loop8 : ∀ (k8 : Nat) (y8_2 : Int) (vl8 arl8 : sI) (all8 : sL) (H : Heap) (locs : List Loc) (ls : Array Slot), (8 - y8_2).toNat = k8 → (0 ≤ y8_2 ∧ y8_2 ≤ 8) → XI vl8 → (∀ i j : Nat, (i, j) ∉ ([] : List (Nat × Nat)) → vl8 i j = v i j) → va_P D xcl (wW ad (xG ad K mm) N vl8 arl8 all8) H → va_S (inW ad N) s.heap H locs → lv_has ls 3 [(2, .int (iI (y8_2))), (0, .ref (ad 1)), (1, .ref (tk 9))] → W p l e (rmD 4) s m args below meth c H locs 0 0 Q (F0 m 28 ls []) := by
        intro k8
        induction k8 using Nat.strongRecOn with
        | _ k8 ih8 =>
          intro y8_2 vl8 arl8 all8 H locs ls hk8 hb_y8_2 hI hfr8 hP hS hl
          refine lv_iload_n hE.1 hE.2.1 dX4_isWord_28 rfl (lv_at hl 0 rfl) ?_
          refine lv_aload_n hE.1 hE.2.1 dX4_isWord_29 rfl (lv_at hl 2 rfl) ?_
          refine x_vp (nn := 0) (As := []) (rest := [.int (iI (y8_2))]) hE (t_length l tk tv (inW ad N) 9 (by decide) 6 rfl) tP_blind (tP_now hT hS) (vk_recv hT.1 (by decide) hS) rfl mw_566 mw_567 mw_568 mw_125 mw_569 (by decide +kernel) ⟨by decide, by decide⟩ hl.1 rfl (Nat.le_of_ble_eq_true rfl) ⟨Nat.zero_le _, Nat.zero_le _⟩ dX4_isWord_30 (fun r9 hr9 => ?_)
          subst hr9
          refine s_icmp_ge (a := y8_2) (b := 6) (tgt := 62) hE.1 hE.2.1 (by omega) (by omega) dX4_isWord_33 (by decide) (fun c10 => ?_) (fun c10 => ?_)
          · skip
            refine lv_iconst (v := iI (1)) hE.1 hE.2.1 dX4_isWord_62 (by decide) ?_
            exact kr _ vl8 arl8 all8 _ _ _ _ (nar01 (by omega)) ⟨⟨1, by omega, rfl⟩, hI, fun i j h => (hfr8 i j (fun q => h (mem_sub (by decide) q)))⟩ hP hS dX4_isWord_63
          · skip
            refine lv_aload_n hE.1 hE.2.1 dX4_isWord_36 rfl (lv_at hl 1 rfl) ?_
            refine lv_aload_n hE.1 hE.2.1 dX4_isWord_37 rfl (lv_at hl 1 rfl) ?_
            refine x_get (x := .int (vl8 1 4)) hE hK hP 1 (Nat.lt_of_lt_of_le (by decide) hNN) (xG_4 rfl) rfl hin4 4 (by decide) mw_153 rfl dX4_isWord_38 ?_
            refine x_top (y := iI (z4)) ((hfr8 1 4 (by decide)).trans ez4) ?_
            refine lv_iload_n hE.1 hE.2.1 dX4_isWord_41 rfl (lv_at hl 0 rfl) ?_
            refine lv_iadd hE.1 hE.2.1 dX4_isWord_42 ?_
            obtain ⟨z11, hz11, ez11⟩ := iI_of (iI (z4) + iI (y8_2))
            refine x_top ez11 ?_
            refine x_vp (nn := 1) (As := [.int (iI (z11))]) (rest := []) hE (s_X4_byteAt_1 l D K ad mm N hNN vl8 arl8 all8 hI  (z11) (by omega)) wPre_blind (wPre_now hK hN hP) (x_recv hK hP 1 (Nat.lt_of_lt_of_le (by decide) hNN) (xG_4 rfl) rfl) rfl mw_542 mw_544 mw_1 mw_115 mw_545 (by decide +kernel) ⟨by decide, by decide⟩ hl.1 rfl (Nat.le_of_ble_eq_true rfl) ⟨Nat.zero_le _, Nat.zero_le _⟩ dX4_isWord_43 (fun r12 hr12 => ?_)
            obtain ⟨z12, hz12, rfl⟩ := hr12
            refine lv_aload_n hE.1 hE.2.1 dX4_isWord_46 rfl (lv_at hl 2 rfl) ?_
            refine lv_iload_n hE.1 hE.2.1 dX4_isWord_47 rfl (lv_at hl 0 rfl) ?_
            refine x_vp (nn := 1) (As := [.int (iI (y8_2))]) (rest := [.int (iI (z12))]) hE (t_charAt l tk tv (inW ad N) 9 (by decide) (y8_2) (show 0 ≤ y8_2 ∧ y8_2 < ((6 : Nat) : Int) by omega)) tP_blind (tP_now hT hS) (vk_recv hT.1 (by decide) hS) rfl mw_576 mw_577 mw_578 mw_125 mw_579 (by decide +kernel) ⟨by decide, by decide⟩ hl.1 rfl (Nat.le_of_ble_eq_true rfl) ⟨Nat.zero_le _, Nat.zero_le _⟩ dX4_isWord_48 (fun r13 _ => ?_)
            obtain ⟨z13, hz13, rfl⟩ := iI_of r13
            refine s_icmp_eq (a := z12) (b := z13) (tgt := 56) hE.1 hE.2.1 (by omega) (by omega) dX4_isWord_51 (by decide) (fun c14 => ?_) (fun c14 => ?_)
            · skip
              refine lv_iinc (v := iI (y8_2 + 1)) (lv' := [(2, .int (iI (y8_2 + 1))), (0, .ref (ad 1)), (1, .ref (tk 9))]) hE.1 hE.2.1 dX4_isWord_56 hl (k := 0) rfl ((iI_add (y8_2) (1)).trans (congrArg iI (by omega))) (by decide) rfl (fun ls hl => ?_)
              refine lv_goto (tgt := 28) hE.1 hE.2.1 dX4_isWord_59 (by decide) ?_
              exact ih8 _ (by omega) (y8_2 + 1) vl8 arl8 all8 _ _ _ rfl (by omega) hI (fun i j h => (hfr8 i j h)) hP hS (lv_sub hl [0, 1, 2] rfl)
            · skip
              refine lv_iconst (v := iI (0)) hE.1 hE.2.1 dX4_isWord_54 (by decide) ?_
              exact kr _ vl8 arl8 all8 _ _ _ _ (nar01 (by omega)) ⟨⟨0, by omega, rfl⟩, hI, fun i j h => (hfr8 i j (fun q => h (mem_sub (by decide) q)))⟩ hP hS dX4_isWord_55
      exact loop8 _ (0) v ar al _ _ _ rfl (by omega) hI (fun _ _ _ => rfl) hP hS hl
    · skip
      refine lv_iconst (v := iI (0)) hE.1 hE.2.1 dX4_isWord_24 (by decide) ?_
      exact kr _ v ar al _ _ _ _ (nar01 (by omega)) ⟨⟨0, by omega, rfl⟩, hI, fun i j h => rfl⟩ hP hS dX4_isWord_25

set_option maxHeartbeats 4000000 in
set_option maxRecDepth 100000 in
theorem s_X4_takeWord_1_1009 (l : Launch) (D : va_G) (K : Nat → ClassId) (ad : Nat → Nat) (mm : Option Nat) (N : Nat) (hNN : 132 ≤ N) (v ar : sI) (al : sL) (hI : XI v) (tk tv : Nat → Nat) : Met l yX4_takeWord (wM yX4_takeWord cX4_takeWord 2 none) (rmD 5) (va_Pc [.ref (ad 1), .ref (tk 9)] (twPre D K ad (xG ad K mm) N v ar al tk tv)) (va_Qv (fun u : sT => XI u.1 ∧ (∀ i j : Nat, (i, j) ∉ ([(1, 1), (1, 2), (1, 4), (1, 5), (1, 6)] : List (Nat × Nat)) → u.1 i j = v i j)) (wB D ad (xG ad K mm) N) (inW ad N)) 0 0 (inW ad N) := by
  refine s_metV (by decide) (Nat.le_of_ble_eq_true rfl) ?_
  intro p e s m below meth c ls args Q hE hB hl kr
  have hE : CallFix p m c cX4_takeWord 2 s args tbG "TaleCourt$Reader" := hE
  obtain ⟨⟨hP, hK, hN⟩, hT, hTR⟩ := hB
  have hS : va_S (inW ad N) s.heap s.heap [] := va_S.rf
  have hl : lv_has ls 2 [(0, .ref (ad 1)), (1, .ref (tk 9))] := hl
  refine lv_aload_n hE.1 hE.2.1 dX4_takeWord_0 rfl (lv_at hl 0 rfl) ?_
  refine lv_aload_n hE.1 hE.2.1 dX4_takeWord_1 rfl (lv_at hl 1 rfl) ?_
  refine x_viB (nn := 1) (As := [.ref (tk 9)]) (rest := []) hE hK hN hP hS (s_X4_isWord_1_1009 l D K ad mm N hNN v ar al hI tk tv  ) tw_blind (tw_now hK hN hP hT hTR hS) (x_recv hK hP 1 (Nat.lt_of_lt_of_le (by decide) hNN) (xG_4 rfl) rfl) rfl mw_562 mw_564 mw_5 mw_115 mw_565 (by decide +kernel) ⟨by decide, by decide⟩ hl.1 rfl (Nat.le_of_ble_eq_true rfl) ⟨Nat.zero_le _, Nat.zero_le _⟩ dX4_takeWord_2 (fun r1 v1 ar1 al1 H locs hq1 hP hS => ?_)
  obtain ⟨⟨z1, hz1, rfl⟩, hI, hq1⟩ := hq1
  have hI : XI v1 := hI
  refine s_if_eq (a := z1) (tgt := 15) hE.1 hE.2.1 (by omega) dX4_takeWord_5 (by decide) (fun c2 => ?_) (fun c2 => ?_)
  · skip
    refine lv_aload_n hE.1 hE.2.1 dX4_takeWord_15 rfl (lv_at hl 0 rfl) ?_
    refine lv_iconst (v := iI (1)) hE.1 hE.2.1 dX4_takeWord_16 (by decide) ?_
    refine x_vv (nn := 1) (As := [.int (iI (1))]) (rest := []) hE hK hN hP hS (s_X4_fail_1 l D K ad mm N hNN v1 ar1 al1 hI  (1) (by omega)) (x_recv hK hP 1 (Nat.lt_of_lt_of_le (by decide) hNN) (xG_4 rfl) rfl) rfl mw_614 mw_616 mw_6 mw_115 mw_617 (by decide +kernel) ⟨by decide, by decide⟩ hl.1 rfl (Nat.le_of_ble_eq_true rfl) ⟨Nat.zero_le _, Nat.zero_le _⟩ dX4_takeWord_17 (fun v3 ar3 al3 H locs hq3 hP hS => ?_)
    obtain ⟨hI, hq3⟩ := hq3
    have hI : XI v3 := hI
    exact kr v3 ar3 al3 _ _ _ _ ⟨hI, fun i j h => ((hq3 i j (fun q => h (mem_sub (by decide) q))).trans (hq1 i j (fun q => h (mem_sub (by decide) q))))⟩ hP hS dX4_takeWord_20
  · skip
    refine lv_aload_n hE.1 hE.2.1 dX4_takeWord_8 rfl (lv_at hl 0 rfl) ?_
    refine x_vv (nn := 0) (As := []) (rest := []) hE hK hN hP hS (s_X4_step_1 l D K ad mm N hNN v1 ar1 al1 hI  ) (x_recv hK hP 1 (Nat.lt_of_lt_of_le (by decide) hNN) (xG_4 rfl) rfl) rfl mw_538 mw_540 mw_0 mw_115 mw_541 (by decide +kernel) ⟨by decide, by decide⟩ hl.1 rfl (Nat.le_of_ble_eq_true rfl) ⟨Nat.zero_le _, Nat.zero_le _⟩ dX4_takeWord_9 (fun v4 ar4 al4 H locs hq4 hP hS => ?_)
    obtain ⟨hI, hq4⟩ := hq4
    have hI : XI v4 := hI
    refine lv_goto (tgt := 20) hE.1 hE.2.1 dX4_takeWord_12 (by decide) ?_
    exact kr v4 ar4 al4 _ _ _ _ ⟨hI, fun i j h => ((hq4 i j (fun q => h (mem_sub (by decide) q))).trans (hq1 i j (fun q => h (mem_sub (by decide) q))))⟩ hP hS dX4_takeWord_20

theorem dX4_readMark_0 : decode cX4_readMark 0 = .ok (.iconst 1, 1) := by decide +kernel
theorem dX4_readMark_1 : decode cX4_readMark 1 = .ok (.iload_n 2, 1) := by decide +kernel
theorem dX4_readMark_2 : decode cX4_readMark 2 = .ok (.ishl, 1) := by decide +kernel
theorem dX4_readMark_3 : decode cX4_readMark 3 = .ok (.istore_n 3, 1) := by decide +kernel
theorem dX4_readMark_4 : decode cX4_readMark 4 = .ok (.aload_n 0, 1) := by decide +kernel
theorem dX4_readMark_5 : decode cX4_readMark 5 = .ok (.ldc 118, 2) := by decide +kernel
theorem dX4_readMark_7 : decode cX4_readMark 7 = .ok (.invokevirtual 51, 3) := by decide +kernel
theorem dX4_readMark_10 : decode cX4_readMark 10 = .ok (.ifCond .eq 29, 3) := by decide +kernel
theorem dX4_readMark_13 : decode cX4_readMark 13 = .ok (.aload_n 1, 1) := by decide +kernel
theorem dX4_readMark_14 : decode cX4_readMark 14 = .ok (.getfield 120, 3) := by decide +kernel
theorem dX4_readMark_17 : decode cX4_readMark 17 = .ok (.iload_n 3, 1) := by decide +kernel
theorem dX4_readMark_18 : decode cX4_readMark 18 = .ok (.iand, 1) := by decide +kernel
theorem dX4_readMark_19 : decode cX4_readMark 19 = .ok (.ifCond .ne 20, 3) := by decide +kernel
theorem dX4_readMark_22 : decode cX4_readMark 22 = .ok (.aload_n 1, 1) := by decide +kernel
theorem dX4_readMark_23 : decode cX4_readMark 23 = .ok (.dup, 1) := by decide +kernel
theorem dX4_readMark_24 : decode cX4_readMark 24 = .ok (.getfield 120, 3) := by decide +kernel
theorem dX4_readMark_27 : decode cX4_readMark 27 = .ok (.iload_n 3, 1) := by decide +kernel
theorem dX4_readMark_28 : decode cX4_readMark 28 = .ok (.ior, 1) := by decide +kernel
theorem dX4_readMark_29 : decode cX4_readMark 29 = .ok (.putfield 120, 3) := by decide +kernel
theorem dX4_readMark_32 : decode cX4_readMark 32 = .ok (.aload_n 0, 1) := by decide +kernel
theorem dX4_readMark_33 : decode cX4_readMark 33 = .ok (.invokevirtual 33, 3) := by decide +kernel
theorem dX4_readMark_36 : decode cX4_readMark 36 = .ok (.goto 138, 3) := by decide +kernel
theorem dX4_readMark_39 : decode cX4_readMark 39 = .ok (.aload_n 0, 1) := by decide +kernel
theorem dX4_readMark_40 : decode cX4_readMark 40 = .ok (.ldc 123, 2) := by decide +kernel
theorem dX4_readMark_42 : decode cX4_readMark 42 = .ok (.invokevirtual 51, 3) := by decide +kernel
theorem dX4_readMark_45 : decode cX4_readMark 45 = .ok (.ifCond .eq 29, 3) := by decide +kernel
theorem dX4_readMark_48 : decode cX4_readMark 48 = .ok (.aload_n 1, 1) := by decide +kernel
theorem dX4_readMark_49 : decode cX4_readMark 49 = .ok (.getfield 125, 3) := by decide +kernel
theorem dX4_readMark_52 : decode cX4_readMark 52 = .ok (.iload_n 3, 1) := by decide +kernel
theorem dX4_readMark_53 : decode cX4_readMark 53 = .ok (.iand, 1) := by decide +kernel
theorem dX4_readMark_54 : decode cX4_readMark 54 = .ok (.ifCond .ne 20, 3) := by decide +kernel
theorem dX4_readMark_57 : decode cX4_readMark 57 = .ok (.aload_n 1, 1) := by decide +kernel
theorem dX4_readMark_58 : decode cX4_readMark 58 = .ok (.dup, 1) := by decide +kernel
theorem dX4_readMark_59 : decode cX4_readMark 59 = .ok (.getfield 125, 3) := by decide +kernel
theorem dX4_readMark_62 : decode cX4_readMark 62 = .ok (.iload_n 3, 1) := by decide +kernel
theorem dX4_readMark_63 : decode cX4_readMark 63 = .ok (.ior, 1) := by decide +kernel
theorem dX4_readMark_64 : decode cX4_readMark 64 = .ok (.putfield 125, 3) := by decide +kernel
theorem dX4_readMark_67 : decode cX4_readMark 67 = .ok (.aload_n 0, 1) := by decide +kernel
theorem dX4_readMark_68 : decode cX4_readMark 68 = .ok (.invokevirtual 33, 3) := by decide +kernel
theorem dX4_readMark_71 : decode cX4_readMark 71 = .ok (.goto 103, 3) := by decide +kernel
theorem dX4_readMark_74 : decode cX4_readMark 74 = .ok (.aload_n 0, 1) := by decide +kernel
theorem dX4_readMark_75 : decode cX4_readMark 75 = .ok (.ldc 128, 2) := by decide +kernel
theorem dX4_readMark_77 : decode cX4_readMark 77 = .ok (.invokevirtual 51, 3) := by decide +kernel
theorem dX4_readMark_80 : decode cX4_readMark 80 = .ok (.ifCond .eq 29, 3) := by decide +kernel
theorem dX4_readMark_83 : decode cX4_readMark 83 = .ok (.aload_n 1, 1) := by decide +kernel
theorem dX4_readMark_84 : decode cX4_readMark 84 = .ok (.getfield 130, 3) := by decide +kernel
theorem dX4_readMark_87 : decode cX4_readMark 87 = .ok (.iload_n 3, 1) := by decide +kernel
theorem dX4_readMark_88 : decode cX4_readMark 88 = .ok (.iand, 1) := by decide +kernel
theorem dX4_readMark_89 : decode cX4_readMark 89 = .ok (.ifCond .ne 20, 3) := by decide +kernel
theorem dX4_readMark_92 : decode cX4_readMark 92 = .ok (.aload_n 1, 1) := by decide +kernel
theorem dX4_readMark_93 : decode cX4_readMark 93 = .ok (.dup, 1) := by decide +kernel
theorem dX4_readMark_94 : decode cX4_readMark 94 = .ok (.getfield 130, 3) := by decide +kernel
theorem dX4_readMark_97 : decode cX4_readMark 97 = .ok (.iload_n 3, 1) := by decide +kernel
theorem dX4_readMark_98 : decode cX4_readMark 98 = .ok (.ior, 1) := by decide +kernel
theorem dX4_readMark_99 : decode cX4_readMark 99 = .ok (.putfield 130, 3) := by decide +kernel
theorem dX4_readMark_102 : decode cX4_readMark 102 = .ok (.aload_n 0, 1) := by decide +kernel
theorem dX4_readMark_103 : decode cX4_readMark 103 = .ok (.invokevirtual 33, 3) := by decide +kernel
theorem dX4_readMark_106 : decode cX4_readMark 106 = .ok (.goto 68, 3) := by decide +kernel
theorem dX4_readMark_109 : decode cX4_readMark 109 = .ok (.aload_n 0, 1) := by decide +kernel
theorem dX4_readMark_110 : decode cX4_readMark 110 = .ok (.ldc 133, 2) := by decide +kernel
theorem dX4_readMark_112 : decode cX4_readMark 112 = .ok (.invokevirtual 51, 3) := by decide +kernel
theorem dX4_readMark_115 : decode cX4_readMark 115 = .ok (.ifCond .eq 54, 3) := by decide +kernel
theorem dX4_readMark_118 : decode cX4_readMark 118 = .ok (.aload_n 1, 1) := by decide +kernel
theorem dX4_readMark_119 : decode cX4_readMark 119 = .ok (.getfield 135, 3) := by decide +kernel
theorem dX4_readMark_122 : decode cX4_readMark 122 = .ok (.iload_n 2, 1) := by decide +kernel
theorem dX4_readMark_123 : decode cX4_readMark 123 = .ok (.iaload, 1) := by decide +kernel
theorem dX4_readMark_124 : decode cX4_readMark 124 = .ok (.iconst (-1), 1) := by decide +kernel
theorem dX4_readMark_125 : decode cX4_readMark 125 = .ok (.if_icmp .ne 44, 3) := by decide +kernel
theorem dX4_readMark_128 : decode cX4_readMark 128 = .ok (.aload_n 0, 1) := by decide +kernel
theorem dX4_readMark_129 : decode cX4_readMark 129 = .ok (.invokevirtual 33, 3) := by decide +kernel
theorem dX4_readMark_132 : decode cX4_readMark 132 = .ok (.aload_n 1, 1) := by decide +kernel
theorem dX4_readMark_133 : decode cX4_readMark 133 = .ok (.getfield 135, 3) := by decide +kernel
theorem dX4_readMark_136 : decode cX4_readMark 136 = .ok (.iload_n 2, 1) := by decide +kernel
theorem dX4_readMark_137 : decode cX4_readMark 137 = .ok (.aload_n 0, 1) := by decide +kernel
theorem dX4_readMark_138 : decode cX4_readMark 138 = .ok (.iconst 0, 1) := by decide +kernel
theorem dX4_readMark_139 : decode cX4_readMark 139 = .ok (.bipush 8, 2) := by decide +kernel
theorem dX4_readMark_141 : decode cX4_readMark 141 = .ok (.iload_n 3, 1) := by decide +kernel
theorem dX4_readMark_142 : decode cX4_readMark 142 = .ok (.invokevirtual 81, 3) := by decide +kernel
theorem dX4_readMark_145 : decode cX4_readMark 145 = .ok (.iastore, 1) := by decide +kernel
theorem dX4_readMark_146 : decode cX4_readMark 146 = .ok (.aload_n 0, 1) := by decide +kernel
theorem dX4_readMark_147 : decode cX4_readMark 147 = .ok (.ldc 137, 2) := by decide +kernel
theorem dX4_readMark_149 : decode cX4_readMark 149 = .ok (.invokevirtual 96, 3) := by decide +kernel
theorem dX4_readMark_152 : decode cX4_readMark 152 = .ok (.aload_n 1, 1) := by decide +kernel
theorem dX4_readMark_153 : decode cX4_readMark 153 = .ok (.getfield 139, 3) := by decide +kernel
theorem dX4_readMark_156 : decode cX4_readMark 156 = .ok (.iload_n 2, 1) := by decide +kernel
theorem dX4_readMark_157 : decode cX4_readMark 157 = .ok (.aload_n 0, 1) := by decide +kernel
theorem dX4_readMark_158 : decode cX4_readMark 158 = .ok (.iconst 1, 1) := by decide +kernel
theorem dX4_readMark_159 : decode cX4_readMark 159 = .ok (.bipush 9, 2) := by decide +kernel
theorem dX4_readMark_161 : decode cX4_readMark 161 = .ok (.iconst 0, 1) := by decide +kernel
theorem dX4_readMark_162 : decode cX4_readMark 162 = .ok (.invokevirtual 81, 3) := by decide +kernel
theorem dX4_readMark_165 : decode cX4_readMark 165 = .ok (.iastore, 1) := by decide +kernel
theorem dX4_readMark_166 : decode cX4_readMark 166 = .ok (.goto 8, 3) := by decide +kernel
theorem dX4_readMark_169 : decode cX4_readMark 169 = .ok (.aload_n 0, 1) := by decide +kernel
theorem dX4_readMark_170 : decode cX4_readMark 170 = .ok (.iconst 1, 1) := by decide +kernel
theorem dX4_readMark_171 : decode cX4_readMark 171 = .ok (.invokevirtual 90, 3) := by decide +kernel
theorem dX4_readMark_174 : decode cX4_readMark 174 = .ok (.return_, 1) := by decide +kernel
set_option maxHeartbeats 4000000 in
set_option maxRecDepth 100000 in
theorem s_X4_readMark_1_13 (l : Launch) (D : va_G) (K : Nat → ClassId) (ad : Nat → Nat) (mm : Option Nat) (N : Nat) (hNN : 132 ≤ N) (v ar : sI) (al : sL) (hI : XI v) (tk tv : Nat → Nat) (z_1 : Int) (hz_1 : 0 ≤ z_1 ∧ z_1 ≤ 8) : Met l yX4_readMark (wM yX4_readMark cX4_readMark 4 none) (rmD 6) (va_Pc [.ref (ad 1), .ref (ad 13), .int (iI (z_1))] (twPre D K ad (xG ad K mm) N v ar al tk tv)) (va_Qv (fun u : sT => XI u.1 ∧ (∀ i j : Nat, (i, j) ∉ ([(1, 1), (1, 2), (1, 4), (1, 5), (1, 6), (13, 7), (13, 8), (13, 9)] : List (Nat × Nat)) → u.1 i j = v i j)) (wB D ad (xG ad K mm) N) (inW ad N)) 0 0 (inW ad N) := by
  refine s_metV (by decide) (Nat.le_of_ble_eq_true rfl) ?_
  intro p e s m below meth c ls args Q hE hB hl kr
  have hE : CallFix p m c cX4_readMark 4 s args tbG "TaleCourt$Reader" := hE
  obtain ⟨⟨hP, hK, hN⟩, hT, hTR⟩ := hB
  have hS : va_S (inW ad N) s.heap s.heap [] := va_S.rf
  have hl : lv_has ls 4 [(0, .ref (ad 1)), (1, .ref (ad 13)), (2, .int (iI (z_1)))] := hl
  refine lv_iconst (v := iI (1)) hE.1 hE.2.1 dX4_readMark_0 (by decide) ?_
  refine lv_iload_n hE.1 hE.2.1 dX4_readMark_1 rfl (lv_at hl 2 rfl) ?_
  refine lv_ishl hE.1 hE.2.1 dX4_readMark_2 ?_
  obtain ⟨z1, hz1, ez1⟩ := iI_shl1 (a := z_1) (by omega)
  refine x_top ez1 ?_
  refine lv_istore_n (lv' := [(3, .int (iI (z1))), (0, .ref (ad 1)), (1, .ref (ad 13)), (2, .int (iI (z_1)))]) hE.1 hE.2.1 dX4_readMark_3 rfl hl (by decide) rfl (fun ls hl => ?_)
  refine lv_aload_n hE.1 hE.2.1 dX4_readMark_4 rfl (lv_at hl 1 rfl) ?_
  refine va_ldcS (index := 118) (q := tk 5) hE.1 hE.2.1 hE.2.2.2.1 (show vk_R "TaleCourt$Reader" 118 "opens" (tk 5) s from hTR 5 (by decide)) dX4_readMark_5 ?_
  refine x_viB (nn := 1) (As := [.ref (tk 5)]) (rest := []) hE hK hN hP hS (s_X4_isWord_1_1005 l D K ad mm N hNN v ar al hI tk tv  ) tw_blind (tw_now hK hN hP hT hTR hS) (x_recv hK hP 1 (Nat.lt_of_lt_of_le (by decide) hNN) (xG_4 rfl) rfl) rfl mw_562 mw_564 mw_5 mw_115 mw_565 (by decide +kernel) ⟨by decide, by decide⟩ hl.1 rfl (Nat.le_of_ble_eq_true rfl) ⟨Nat.zero_le _, Nat.zero_le _⟩ dX4_readMark_7 (fun r2 v2 ar2 al2 H locs hq2 hP hS => ?_)
  obtain ⟨⟨z2, hz2, rfl⟩, hI, hq2⟩ := hq2
  have hI : XI v2 := hI
  refine s_if_eq (a := z2) (tgt := 39) hE.1 hE.2.1 (by omega) dX4_readMark_10 (by decide) (fun c3 => ?_) (fun c3 => ?_)
  · skip
    refine lv_aload_n hE.1 hE.2.1 dX4_readMark_39 rfl (lv_at hl 1 rfl) ?_
    refine va_ldcS (index := 123) (q := tk 6) hE.1 hE.2.1 hE.2.2.2.1 (show vk_R "TaleCourt$Reader" 123 "stranger" (tk 6) s from hTR 6 (by decide)) dX4_readMark_40 ?_
    refine x_viB (nn := 1) (As := [.ref (tk 6)]) (rest := []) hE hK hN hP hS (s_X4_isWord_1_1006 l D K ad mm N hNN v2 ar2 al2 hI tk tv  ) tw_blind (tw_now hK hN hP hT hTR hS) (x_recv hK hP 1 (Nat.lt_of_lt_of_le (by decide) hNN) (xG_4 rfl) rfl) rfl mw_562 mw_564 mw_5 mw_115 mw_565 (by decide +kernel) ⟨by decide, by decide⟩ hl.1 rfl (Nat.le_of_ble_eq_true rfl) ⟨Nat.zero_le _, Nat.zero_le _⟩ dX4_readMark_42 (fun r4 v4 ar4 al4 H locs hq4 hP hS => ?_)
    obtain ⟨⟨z4, hz4, rfl⟩, hI, hq4⟩ := hq4
    have hI : XI v4 := hI
    refine s_if_eq (a := z4) (tgt := 74) hE.1 hE.2.1 (by omega) dX4_readMark_45 (by decide) (fun c5 => ?_) (fun c5 => ?_)
    · skip
      refine lv_aload_n hE.1 hE.2.1 dX4_readMark_74 rfl (lv_at hl 1 rfl) ?_
      refine va_ldcS (index := 128) (q := tk 7) hE.1 hE.2.1 hE.2.2.2.1 (show vk_R "TaleCourt$Reader" 128 "song" (tk 7) s from hTR 7 (by decide)) dX4_readMark_75 ?_
      refine x_viB (nn := 1) (As := [.ref (tk 7)]) (rest := []) hE hK hN hP hS (s_X4_isWord_1_1007 l D K ad mm N hNN v4 ar4 al4 hI tk tv  ) tw_blind (tw_now hK hN hP hT hTR hS) (x_recv hK hP 1 (Nat.lt_of_lt_of_le (by decide) hNN) (xG_4 rfl) rfl) rfl mw_562 mw_564 mw_5 mw_115 mw_565 (by decide +kernel) ⟨by decide, by decide⟩ hl.1 rfl (Nat.le_of_ble_eq_true rfl) ⟨Nat.zero_le _, Nat.zero_le _⟩ dX4_readMark_77 (fun r6 v6 ar6 al6 H locs hq6 hP hS => ?_)
      obtain ⟨⟨z6, hz6, rfl⟩, hI, hq6⟩ := hq6
      have hI : XI v6 := hI
      refine s_if_eq (a := z6) (tgt := 109) hE.1 hE.2.1 (by omega) dX4_readMark_80 (by decide) (fun c7 => ?_) (fun c7 => ?_)
      · skip
        refine lv_aload_n hE.1 hE.2.1 dX4_readMark_109 rfl (lv_at hl 1 rfl) ?_
        refine va_ldcS (index := 133) (q := tk 8) hE.1 hE.2.1 hE.2.2.2.1 (show vk_R "TaleCourt$Reader" 133 "owes" (tk 8) s from hTR 8 (by decide)) dX4_readMark_110 ?_
        refine x_viB (nn := 1) (As := [.ref (tk 8)]) (rest := []) hE hK hN hP hS (s_X4_isWord_1_1008 l D K ad mm N hNN v6 ar6 al6 hI tk tv  ) tw_blind (tw_now hK hN hP hT hTR hS) (x_recv hK hP 1 (Nat.lt_of_lt_of_le (by decide) hNN) (xG_4 rfl) rfl) rfl mw_562 mw_564 mw_5 mw_115 mw_565 (by decide +kernel) ⟨by decide, by decide⟩ hl.1 rfl (Nat.le_of_ble_eq_true rfl) ⟨Nat.zero_le _, Nat.zero_le _⟩ dX4_readMark_112 (fun r8 v8 ar8 al8 H locs hq8 hP hS => ?_)
        obtain ⟨⟨z8, hz8, rfl⟩, hI, hq8⟩ := hq8
        have hI : XI v8 := hI
        refine s_if_eq (a := z8) (tgt := 169) hE.1 hE.2.1 (by omega) dX4_readMark_115 (by decide) (fun c9 => ?_) (fun c9 => ?_)
        · skip
          refine lv_aload_n hE.1 hE.2.1 dX4_readMark_169 rfl (lv_at hl 1 rfl) ?_
          refine lv_iconst (v := iI (1)) hE.1 hE.2.1 dX4_readMark_170 (by decide) ?_
          refine x_vv (nn := 1) (As := [.int (iI (1))]) (rest := []) hE hK hN hP hS (s_X4_fail_1 l D K ad mm N hNN v8 ar8 al8 hI  (1) (by omega)) (x_recv hK hP 1 (Nat.lt_of_lt_of_le (by decide) hNN) (xG_4 rfl) rfl) rfl mw_614 mw_616 mw_6 mw_115 mw_617 (by decide +kernel) ⟨by decide, by decide⟩ hl.1 rfl (Nat.le_of_ble_eq_true rfl) ⟨Nat.zero_le _, Nat.zero_le _⟩ dX4_readMark_171 (fun v10 ar10 al10 H locs hq10 hP hS => ?_)
          obtain ⟨hI, hq10⟩ := hq10
          have hI : XI v10 := hI
          exact kr v10 ar10 al10 _ _ _ _ ⟨hI, fun i j h => ((hq10 i j (fun q => h (mem_sub (by decide) q))).trans ((hq8 i j (fun q => h (mem_sub (by decide) q))).trans ((hq6 i j (fun q => h (mem_sub (by decide) q))).trans ((hq4 i j (fun q => h (mem_sub (by decide) q))).trans (hq2 i j (fun q => h (mem_sub (by decide) q)))))))⟩ hP hS dX4_readMark_174
        · skip
          refine lv_aload_n hE.1 hE.2.1 dX4_readMark_118 rfl (lv_at hl 2 rfl) ?_
          refine x_get (x := .ref (ad 15)) hE hK hP 13 (Nat.lt_of_lt_of_le (by decide) hNN) (xG_1 rfl) rfl hin1 12 (by decide) mw_223 rfl dX4_readMark_119 ?_
          refine lv_iload_n hE.1 hE.2.1 dX4_readMark_122 rfl (lv_at hl 3 rfl) ?_
          refine x_iald (j := iI (z_1)) hE hK hP 15 (Nat.lt_of_lt_of_le (by decide) hNN) (xG_10 rfl) (iI_in (n := 9) (by omega)) dX4_readMark_123 ?_
          obtain ⟨z12, hz12, ez12⟩ := iI_of (ar8 15 (iI (z_1)).toNatClampNeg)
          refine x_top ez12 ?_
          refine lv_iconst (v := iI (-1)) hE.1 hE.2.1 dX4_readMark_124 (by decide) ?_
          refine s_icmp_ne (a := z12) (b := -1) (tgt := 169) hE.1 hE.2.1 (by omega) (by omega) dX4_readMark_125 (by decide) (fun c13 => ?_) (fun c13 => ?_)
          · skip
            refine lv_aload_n hE.1 hE.2.1 dX4_readMark_169 rfl (lv_at hl 1 rfl) ?_
            refine lv_iconst (v := iI (1)) hE.1 hE.2.1 dX4_readMark_170 (by decide) ?_
            refine x_vv (nn := 1) (As := [.int (iI (1))]) (rest := []) hE hK hN hP hS (s_X4_fail_1 l D K ad mm N hNN v8 ar8 al8 hI  (1) (by omega)) (x_recv hK hP 1 (Nat.lt_of_lt_of_le (by decide) hNN) (xG_4 rfl) rfl) rfl mw_614 mw_616 mw_6 mw_115 mw_617 (by decide +kernel) ⟨by decide, by decide⟩ hl.1 rfl (Nat.le_of_ble_eq_true rfl) ⟨Nat.zero_le _, Nat.zero_le _⟩ dX4_readMark_171 (fun v14 ar14 al14 H locs hq14 hP hS => ?_)
            obtain ⟨hI, hq14⟩ := hq14
            have hI : XI v14 := hI
            exact kr v14 ar14 al14 _ _ _ _ ⟨hI, fun i j h => ((hq14 i j (fun q => h (mem_sub (by decide) q))).trans ((hq8 i j (fun q => h (mem_sub (by decide) q))).trans ((hq6 i j (fun q => h (mem_sub (by decide) q))).trans ((hq4 i j (fun q => h (mem_sub (by decide) q))).trans (hq2 i j (fun q => h (mem_sub (by decide) q)))))))⟩ hP hS dX4_readMark_174
          · skip
            refine lv_aload_n hE.1 hE.2.1 dX4_readMark_128 rfl (lv_at hl 1 rfl) ?_
            refine x_vv (nn := 0) (As := []) (rest := []) hE hK hN hP hS (s_X4_step_1 l D K ad mm N hNN v8 ar8 al8 hI  ) (x_recv hK hP 1 (Nat.lt_of_lt_of_le (by decide) hNN) (xG_4 rfl) rfl) rfl mw_538 mw_540 mw_0 mw_115 mw_541 (by decide +kernel) ⟨by decide, by decide⟩ hl.1 rfl (Nat.le_of_ble_eq_true rfl) ⟨Nat.zero_le _, Nat.zero_le _⟩ dX4_readMark_129 (fun v15 ar15 al15 H locs hq15 hP hS => ?_)
            obtain ⟨hI, hq15⟩ := hq15
            have hI : XI v15 := hI
            refine lv_aload_n hE.1 hE.2.1 dX4_readMark_132 rfl (lv_at hl 2 rfl) ?_
            refine x_get (x := .ref (ad 15)) hE hK hP 13 (Nat.lt_of_lt_of_le (by decide) hNN) (xG_1 rfl) rfl hin1 12 (by decide) mw_223 rfl dX4_readMark_133 ?_
            refine lv_iload_n hE.1 hE.2.1 dX4_readMark_136 rfl (lv_at hl 3 rfl) ?_
            refine lv_aload_n hE.1 hE.2.1 dX4_readMark_137 rfl (lv_at hl 1 rfl) ?_
            refine lv_iconst (v := iI (0)) hE.1 hE.2.1 dX4_readMark_138 (by decide) ?_
            refine lv_bipush (v := iI (8)) hE.1 hE.2.1 dX4_readMark_139 (by decide) ?_
            refine lv_iload_n hE.1 hE.2.1 dX4_readMark_141 rfl (lv_at hl 0 rfl) ?_
            refine x_vi (nn := 3) (As := [.int (iI (0)), .int (iI (8)), .int (iI (z1))]) (rest := [.int (iI (z_1)), .ref (ad 15)]) hE hK hN hP hS (s_X4_takeNumber_1 l D K ad mm N hNN v15 ar15 al15 hI  (0) (by omega) (8) (by omega) (z1) (by omega)) (x_recv hK hP 1 (Nat.lt_of_lt_of_le (by decide) hNN) (xG_4 rfl) rfl) rfl mw_619 mw_621 mw_7 mw_115 mw_622 (by decide +kernel) ⟨by decide, by decide⟩ hl.1 rfl (Nat.le_of_ble_eq_true rfl) ⟨Nat.zero_le _, Nat.zero_le _⟩ dX4_readMark_142 (fun r16 v16 ar16 al16 H locs hq16 hP hS => ?_)
            obtain ⟨⟨z16, hz16, rfl⟩, hI, hq16⟩ := hq16
            have hI : XI v16 := hI
            refine x_iast (j := iI (z_1)) hE hK hN hP hS 15 (Nat.lt_of_lt_of_le (by decide) hNN) (fun _ => xG_10 rfl) (iI_in (n := 9) (by omega)) dX4_readMark_145 (fun ar17 H locs ha17 hP hS => ?_)
            refine lv_aload_n hE.1 hE.2.1 dX4_readMark_146 rfl (lv_at hl 1 rfl) ?_
            refine va_ldcS (index := 137) (q := tk 9) hE.1 hE.2.1 hE.2.2.2.1 (show vk_R "TaleCourt$Reader" 137 "within" (tk 9) s from hTR 9 (by decide)) dX4_readMark_147 ?_
            refine x_vvB (nn := 1) (As := [.ref (tk 9)]) (rest := []) hE hK hN hP hS (s_X4_takeWord_1_1009 l D K ad mm N hNN v16 ar17 al16 hI tk tv  ) tw_blind (tw_now hK hN hP hT hTR hS) (x_recv hK hP 1 (Nat.lt_of_lt_of_le (by decide) hNN) (xG_4 rfl) rfl) rfl mw_558 mw_560 mw_4 mw_115 mw_561 (by decide +kernel) ⟨by decide, by decide⟩ hl.1 rfl (Nat.le_of_ble_eq_true rfl) ⟨Nat.zero_le _, Nat.zero_le _⟩ dX4_readMark_149 (fun v18 ar18 al18 H locs hq18 hP hS => ?_)
            obtain ⟨hI, hq18⟩ := hq18
            have hI : XI v18 := hI
            refine lv_aload_n hE.1 hE.2.1 dX4_readMark_152 rfl (lv_at hl 2 rfl) ?_
            refine x_get (x := .ref (ad 16)) hE hK hP 13 (Nat.lt_of_lt_of_le (by decide) hNN) (xG_1 rfl) rfl hin1 13 (by decide) mw_227 rfl dX4_readMark_153 ?_
            refine lv_iload_n hE.1 hE.2.1 dX4_readMark_156 rfl (lv_at hl 3 rfl) ?_
            refine lv_aload_n hE.1 hE.2.1 dX4_readMark_157 rfl (lv_at hl 1 rfl) ?_
            refine lv_iconst (v := iI (1)) hE.1 hE.2.1 dX4_readMark_158 (by decide) ?_
            refine lv_bipush (v := iI (9)) hE.1 hE.2.1 dX4_readMark_159 (by decide) ?_
            refine lv_iconst (v := iI (0)) hE.1 hE.2.1 dX4_readMark_161 (by decide) ?_
            refine x_vi (nn := 3) (As := [.int (iI (1)), .int (iI (9)), .int (iI (0))]) (rest := [.int (iI (z_1)), .ref (ad 16)]) hE hK hN hP hS (s_X4_takeNumber_1 l D K ad mm N hNN v18 ar18 al18 hI  (1) (by omega) (9) (by omega) (0) (by omega)) (x_recv hK hP 1 (Nat.lt_of_lt_of_le (by decide) hNN) (xG_4 rfl) rfl) rfl mw_619 mw_621 mw_7 mw_115 mw_622 (by decide +kernel) ⟨by decide, by decide⟩ hl.1 rfl (Nat.le_of_ble_eq_true rfl) ⟨Nat.zero_le _, Nat.zero_le _⟩ dX4_readMark_162 (fun r19 v19 ar19 al19 H locs hq19 hP hS => ?_)
            obtain ⟨⟨z19, hz19, rfl⟩, hI, hq19⟩ := hq19
            have hI : XI v19 := hI
            refine x_iast (j := iI (z_1)) hE hK hN hP hS 16 (Nat.lt_of_lt_of_le (by decide) hNN) (fun _ => xG_10 rfl) (iI_in (n := 9) (by omega)) dX4_readMark_165 (fun ar20 H locs ha20 hP hS => ?_)
            refine lv_goto (tgt := 174) hE.1 hE.2.1 dX4_readMark_166 (by decide) ?_
            exact kr v19 ar20 al19 _ _ _ _ ⟨hI, fun i j h => ((hq19 i j (fun q => h (mem_sub (by decide) q))).trans ((hq18 i j (fun q => h (mem_sub (by decide) q))).trans ((hq16 i j (fun q => h (mem_sub (by decide) q))).trans ((hq15 i j (fun q => h (mem_sub (by decide) q))).trans ((hq8 i j (fun q => h (mem_sub (by decide) q))).trans ((hq6 i j (fun q => h (mem_sub (by decide) q))).trans ((hq4 i j (fun q => h (mem_sub (by decide) q))).trans (hq2 i j (fun q => h (mem_sub (by decide) q))))))))))⟩ hP hS dX4_readMark_174
      · skip
        refine lv_aload_n hE.1 hE.2.1 dX4_readMark_83 rfl (lv_at hl 2 rfl) ?_
        obtain ⟨z21, hz21, ez21⟩ := iI_of (v6 13 9)
        refine x_get (x := .int (v6 13 9)) hE hK hP 13 (Nat.lt_of_lt_of_le (by decide) hNN) (xG_1 rfl) rfl hin1 9 (by decide) mw_213 rfl dX4_readMark_84 ?_
        refine x_top (y := iI (z21)) ez21 ?_
        refine lv_iload_n hE.1 hE.2.1 dX4_readMark_87 rfl (lv_at hl 0 rfl) ?_
        refine lv_iand hE.1 hE.2.1 dX4_readMark_88 ?_
        obtain ⟨z22, hz22, ez22⟩ := iI_of (iI (z21) &&& iI (z1))
        refine x_top ez22 ?_
        refine s_if_ne (a := z22) (tgt := 109) hE.1 hE.2.1 (by omega) dX4_readMark_89 (by decide) (fun c23 => ?_) (fun c23 => ?_)
        · skip
          refine lv_aload_n hE.1 hE.2.1 dX4_readMark_109 rfl (lv_at hl 1 rfl) ?_
          refine va_ldcS (index := 133) (q := tk 8) hE.1 hE.2.1 hE.2.2.2.1 (show vk_R "TaleCourt$Reader" 133 "owes" (tk 8) s from hTR 8 (by decide)) dX4_readMark_110 ?_
          refine x_viB (nn := 1) (As := [.ref (tk 8)]) (rest := []) hE hK hN hP hS (s_X4_isWord_1_1008 l D K ad mm N hNN v6 ar6 al6 hI tk tv  ) tw_blind (tw_now hK hN hP hT hTR hS) (x_recv hK hP 1 (Nat.lt_of_lt_of_le (by decide) hNN) (xG_4 rfl) rfl) rfl mw_562 mw_564 mw_5 mw_115 mw_565 (by decide +kernel) ⟨by decide, by decide⟩ hl.1 rfl (Nat.le_of_ble_eq_true rfl) ⟨Nat.zero_le _, Nat.zero_le _⟩ dX4_readMark_112 (fun r24 v24 ar24 al24 H locs hq24 hP hS => ?_)
          obtain ⟨⟨z24, hz24, rfl⟩, hI, hq24⟩ := hq24
          have hI : XI v24 := hI
          refine s_if_eq (a := z24) (tgt := 169) hE.1 hE.2.1 (by omega) dX4_readMark_115 (by decide) (fun c25 => ?_) (fun c25 => ?_)
          · skip
            refine lv_aload_n hE.1 hE.2.1 dX4_readMark_169 rfl (lv_at hl 1 rfl) ?_
            refine lv_iconst (v := iI (1)) hE.1 hE.2.1 dX4_readMark_170 (by decide) ?_
            refine x_vv (nn := 1) (As := [.int (iI (1))]) (rest := []) hE hK hN hP hS (s_X4_fail_1 l D K ad mm N hNN v24 ar24 al24 hI  (1) (by omega)) (x_recv hK hP 1 (Nat.lt_of_lt_of_le (by decide) hNN) (xG_4 rfl) rfl) rfl mw_614 mw_616 mw_6 mw_115 mw_617 (by decide +kernel) ⟨by decide, by decide⟩ hl.1 rfl (Nat.le_of_ble_eq_true rfl) ⟨Nat.zero_le _, Nat.zero_le _⟩ dX4_readMark_171 (fun v26 ar26 al26 H locs hq26 hP hS => ?_)
            obtain ⟨hI, hq26⟩ := hq26
            have hI : XI v26 := hI
            exact kr v26 ar26 al26 _ _ _ _ ⟨hI, fun i j h => ((hq26 i j (fun q => h (mem_sub (by decide) q))).trans ((hq24 i j (fun q => h (mem_sub (by decide) q))).trans ((hq6 i j (fun q => h (mem_sub (by decide) q))).trans ((hq4 i j (fun q => h (mem_sub (by decide) q))).trans (hq2 i j (fun q => h (mem_sub (by decide) q)))))))⟩ hP hS dX4_readMark_174
          · skip
            refine lv_aload_n hE.1 hE.2.1 dX4_readMark_118 rfl (lv_at hl 2 rfl) ?_
            refine x_get (x := .ref (ad 15)) hE hK hP 13 (Nat.lt_of_lt_of_le (by decide) hNN) (xG_1 rfl) rfl hin1 12 (by decide) mw_223 rfl dX4_readMark_119 ?_
            refine lv_iload_n hE.1 hE.2.1 dX4_readMark_122 rfl (lv_at hl 3 rfl) ?_
            refine x_iald (j := iI (z_1)) hE hK hP 15 (Nat.lt_of_lt_of_le (by decide) hNN) (xG_10 rfl) (iI_in (n := 9) (by omega)) dX4_readMark_123 ?_
            obtain ⟨z28, hz28, ez28⟩ := iI_of (ar24 15 (iI (z_1)).toNatClampNeg)
            refine x_top ez28 ?_
            refine lv_iconst (v := iI (-1)) hE.1 hE.2.1 dX4_readMark_124 (by decide) ?_
            refine s_icmp_ne (a := z28) (b := -1) (tgt := 169) hE.1 hE.2.1 (by omega) (by omega) dX4_readMark_125 (by decide) (fun c29 => ?_) (fun c29 => ?_)
            · skip
              refine lv_aload_n hE.1 hE.2.1 dX4_readMark_169 rfl (lv_at hl 1 rfl) ?_
              refine lv_iconst (v := iI (1)) hE.1 hE.2.1 dX4_readMark_170 (by decide) ?_
              refine x_vv (nn := 1) (As := [.int (iI (1))]) (rest := []) hE hK hN hP hS (s_X4_fail_1 l D K ad mm N hNN v24 ar24 al24 hI  (1) (by omega)) (x_recv hK hP 1 (Nat.lt_of_lt_of_le (by decide) hNN) (xG_4 rfl) rfl) rfl mw_614 mw_616 mw_6 mw_115 mw_617 (by decide +kernel) ⟨by decide, by decide⟩ hl.1 rfl (Nat.le_of_ble_eq_true rfl) ⟨Nat.zero_le _, Nat.zero_le _⟩ dX4_readMark_171 (fun v30 ar30 al30 H locs hq30 hP hS => ?_)
              obtain ⟨hI, hq30⟩ := hq30
              have hI : XI v30 := hI
              exact kr v30 ar30 al30 _ _ _ _ ⟨hI, fun i j h => ((hq30 i j (fun q => h (mem_sub (by decide) q))).trans ((hq24 i j (fun q => h (mem_sub (by decide) q))).trans ((hq6 i j (fun q => h (mem_sub (by decide) q))).trans ((hq4 i j (fun q => h (mem_sub (by decide) q))).trans (hq2 i j (fun q => h (mem_sub (by decide) q)))))))⟩ hP hS dX4_readMark_174
            · skip
              refine lv_aload_n hE.1 hE.2.1 dX4_readMark_128 rfl (lv_at hl 1 rfl) ?_
              refine x_vv (nn := 0) (As := []) (rest := []) hE hK hN hP hS (s_X4_step_1 l D K ad mm N hNN v24 ar24 al24 hI  ) (x_recv hK hP 1 (Nat.lt_of_lt_of_le (by decide) hNN) (xG_4 rfl) rfl) rfl mw_538 mw_540 mw_0 mw_115 mw_541 (by decide +kernel) ⟨by decide, by decide⟩ hl.1 rfl (Nat.le_of_ble_eq_true rfl) ⟨Nat.zero_le _, Nat.zero_le _⟩ dX4_readMark_129 (fun v31 ar31 al31 H locs hq31 hP hS => ?_)
              obtain ⟨hI, hq31⟩ := hq31
              have hI : XI v31 := hI
              refine lv_aload_n hE.1 hE.2.1 dX4_readMark_132 rfl (lv_at hl 2 rfl) ?_
              refine x_get (x := .ref (ad 15)) hE hK hP 13 (Nat.lt_of_lt_of_le (by decide) hNN) (xG_1 rfl) rfl hin1 12 (by decide) mw_223 rfl dX4_readMark_133 ?_
              refine lv_iload_n hE.1 hE.2.1 dX4_readMark_136 rfl (lv_at hl 3 rfl) ?_
              refine lv_aload_n hE.1 hE.2.1 dX4_readMark_137 rfl (lv_at hl 1 rfl) ?_
              refine lv_iconst (v := iI (0)) hE.1 hE.2.1 dX4_readMark_138 (by decide) ?_
              refine lv_bipush (v := iI (8)) hE.1 hE.2.1 dX4_readMark_139 (by decide) ?_
              refine lv_iload_n hE.1 hE.2.1 dX4_readMark_141 rfl (lv_at hl 0 rfl) ?_
              refine x_vi (nn := 3) (As := [.int (iI (0)), .int (iI (8)), .int (iI (z1))]) (rest := [.int (iI (z_1)), .ref (ad 15)]) hE hK hN hP hS (s_X4_takeNumber_1 l D K ad mm N hNN v31 ar31 al31 hI  (0) (by omega) (8) (by omega) (z1) (by omega)) (x_recv hK hP 1 (Nat.lt_of_lt_of_le (by decide) hNN) (xG_4 rfl) rfl) rfl mw_619 mw_621 mw_7 mw_115 mw_622 (by decide +kernel) ⟨by decide, by decide⟩ hl.1 rfl (Nat.le_of_ble_eq_true rfl) ⟨Nat.zero_le _, Nat.zero_le _⟩ dX4_readMark_142 (fun r32 v32 ar32 al32 H locs hq32 hP hS => ?_)
              obtain ⟨⟨z32, hz32, rfl⟩, hI, hq32⟩ := hq32
              have hI : XI v32 := hI
              refine x_iast (j := iI (z_1)) hE hK hN hP hS 15 (Nat.lt_of_lt_of_le (by decide) hNN) (fun _ => xG_10 rfl) (iI_in (n := 9) (by omega)) dX4_readMark_145 (fun ar33 H locs ha33 hP hS => ?_)
              refine lv_aload_n hE.1 hE.2.1 dX4_readMark_146 rfl (lv_at hl 1 rfl) ?_
              refine va_ldcS (index := 137) (q := tk 9) hE.1 hE.2.1 hE.2.2.2.1 (show vk_R "TaleCourt$Reader" 137 "within" (tk 9) s from hTR 9 (by decide)) dX4_readMark_147 ?_
              refine x_vvB (nn := 1) (As := [.ref (tk 9)]) (rest := []) hE hK hN hP hS (s_X4_takeWord_1_1009 l D K ad mm N hNN v32 ar33 al32 hI tk tv  ) tw_blind (tw_now hK hN hP hT hTR hS) (x_recv hK hP 1 (Nat.lt_of_lt_of_le (by decide) hNN) (xG_4 rfl) rfl) rfl mw_558 mw_560 mw_4 mw_115 mw_561 (by decide +kernel) ⟨by decide, by decide⟩ hl.1 rfl (Nat.le_of_ble_eq_true rfl) ⟨Nat.zero_le _, Nat.zero_le _⟩ dX4_readMark_149 (fun v34 ar34 al34 H locs hq34 hP hS => ?_)
              obtain ⟨hI, hq34⟩ := hq34
              have hI : XI v34 := hI
              refine lv_aload_n hE.1 hE.2.1 dX4_readMark_152 rfl (lv_at hl 2 rfl) ?_
              refine x_get (x := .ref (ad 16)) hE hK hP 13 (Nat.lt_of_lt_of_le (by decide) hNN) (xG_1 rfl) rfl hin1 13 (by decide) mw_227 rfl dX4_readMark_153 ?_
              refine lv_iload_n hE.1 hE.2.1 dX4_readMark_156 rfl (lv_at hl 3 rfl) ?_
              refine lv_aload_n hE.1 hE.2.1 dX4_readMark_157 rfl (lv_at hl 1 rfl) ?_
              refine lv_iconst (v := iI (1)) hE.1 hE.2.1 dX4_readMark_158 (by decide) ?_
              refine lv_bipush (v := iI (9)) hE.1 hE.2.1 dX4_readMark_159 (by decide) ?_
              refine lv_iconst (v := iI (0)) hE.1 hE.2.1 dX4_readMark_161 (by decide) ?_
              refine x_vi (nn := 3) (As := [.int (iI (1)), .int (iI (9)), .int (iI (0))]) (rest := [.int (iI (z_1)), .ref (ad 16)]) hE hK hN hP hS (s_X4_takeNumber_1 l D K ad mm N hNN v34 ar34 al34 hI  (1) (by omega) (9) (by omega) (0) (by omega)) (x_recv hK hP 1 (Nat.lt_of_lt_of_le (by decide) hNN) (xG_4 rfl) rfl) rfl mw_619 mw_621 mw_7 mw_115 mw_622 (by decide +kernel) ⟨by decide, by decide⟩ hl.1 rfl (Nat.le_of_ble_eq_true rfl) ⟨Nat.zero_le _, Nat.zero_le _⟩ dX4_readMark_162 (fun r35 v35 ar35 al35 H locs hq35 hP hS => ?_)
              obtain ⟨⟨z35, hz35, rfl⟩, hI, hq35⟩ := hq35
              have hI : XI v35 := hI
              refine x_iast (j := iI (z_1)) hE hK hN hP hS 16 (Nat.lt_of_lt_of_le (by decide) hNN) (fun _ => xG_10 rfl) (iI_in (n := 9) (by omega)) dX4_readMark_165 (fun ar36 H locs ha36 hP hS => ?_)
              refine lv_goto (tgt := 174) hE.1 hE.2.1 dX4_readMark_166 (by decide) ?_
              exact kr v35 ar36 al35 _ _ _ _ ⟨hI, fun i j h => ((hq35 i j (fun q => h (mem_sub (by decide) q))).trans ((hq34 i j (fun q => h (mem_sub (by decide) q))).trans ((hq32 i j (fun q => h (mem_sub (by decide) q))).trans ((hq31 i j (fun q => h (mem_sub (by decide) q))).trans ((hq24 i j (fun q => h (mem_sub (by decide) q))).trans ((hq6 i j (fun q => h (mem_sub (by decide) q))).trans ((hq4 i j (fun q => h (mem_sub (by decide) q))).trans (hq2 i j (fun q => h (mem_sub (by decide) q))))))))))⟩ hP hS dX4_readMark_174
        · skip
          refine lv_aload_n hE.1 hE.2.1 dX4_readMark_92 rfl (lv_at hl 2 rfl) ?_
          refine lv_dup hE.1 hE.2.1 dX4_readMark_93 rfl ?_
          refine x_get (x := .int (v6 13 9)) hE hK hP 13 (Nat.lt_of_lt_of_le (by decide) hNN) (xG_1 rfl) rfl hin1 9 (by decide) mw_213 rfl dX4_readMark_94 ?_
          refine x_top (y := iI (z21)) ez21 ?_
          refine lv_iload_n hE.1 hE.2.1 dX4_readMark_97 rfl (lv_at hl 0 rfl) ?_
          refine lv_ior hE.1 hE.2.1 dX4_readMark_98 ?_
          obtain ⟨z37, hz37, ez37⟩ := iI_of (iI (z21) ||| iI (z1))
          refine x_top ez37 ?_
          refine x_put (x := iI (z37)) hE hK hN hP hS 13 (Nat.lt_of_lt_of_le (by decide) hNN) (xG_1 rfl) rfl hin1 tyX1 tyX1_ok nmX1 9 (by decide) mw_213 rfl rfl rfl (Nat.le_of_ble_eq_true rfl) (xG_1 rfl) dX4_readMark_99 (fun v38 H locs hv38 hP hS => ?_)
          have hI := XI_putN hI hv38 (by decide)
          refine lv_aload_n hE.1 hE.2.1 dX4_readMark_102 rfl (lv_at hl 1 rfl) ?_
          refine x_vv (nn := 0) (As := []) (rest := []) hE hK hN hP hS (s_X4_step_1 l D K ad mm N hNN v38 ar6 al6 hI  ) (x_recv hK hP 1 (Nat.lt_of_lt_of_le (by decide) hNN) (xG_4 rfl) rfl) rfl mw_538 mw_540 mw_0 mw_115 mw_541 (by decide +kernel) ⟨by decide, by decide⟩ hl.1 rfl (Nat.le_of_ble_eq_true rfl) ⟨Nat.zero_le _, Nat.zero_le _⟩ dX4_readMark_103 (fun v39 ar39 al39 H locs hq39 hP hS => ?_)
          obtain ⟨hI, hq39⟩ := hq39
          have hI : XI v39 := hI
          refine lv_goto (tgt := 174) hE.1 hE.2.1 dX4_readMark_106 (by decide) ?_
          exact kr v39 ar39 al39 _ _ _ _ ⟨hI, fun i j h => ((hq39 i j (fun q => h (mem_sub (by decide) q))).trans ((up_oth hv38 (fun q => h (by rcases q with ⟨rfl, rfl⟩; decide))).trans ((hq6 i j (fun q => h (mem_sub (by decide) q))).trans ((hq4 i j (fun q => h (mem_sub (by decide) q))).trans (hq2 i j (fun q => h (mem_sub (by decide) q)))))))⟩ hP hS dX4_readMark_174
    · skip
      refine lv_aload_n hE.1 hE.2.1 dX4_readMark_48 rfl (lv_at hl 2 rfl) ?_
      obtain ⟨z40, hz40, ez40⟩ := iI_of (v4 13 8)
      refine x_get (x := .int (v4 13 8)) hE hK hP 13 (Nat.lt_of_lt_of_le (by decide) hNN) (xG_1 rfl) rfl hin1 8 (by decide) mw_209 rfl dX4_readMark_49 ?_
      refine x_top (y := iI (z40)) ez40 ?_
      refine lv_iload_n hE.1 hE.2.1 dX4_readMark_52 rfl (lv_at hl 0 rfl) ?_
      refine lv_iand hE.1 hE.2.1 dX4_readMark_53 ?_
      obtain ⟨z41, hz41, ez41⟩ := iI_of (iI (z40) &&& iI (z1))
      refine x_top ez41 ?_
      refine s_if_ne (a := z41) (tgt := 74) hE.1 hE.2.1 (by omega) dX4_readMark_54 (by decide) (fun c42 => ?_) (fun c42 => ?_)
      · skip
        refine lv_aload_n hE.1 hE.2.1 dX4_readMark_74 rfl (lv_at hl 1 rfl) ?_
        refine va_ldcS (index := 128) (q := tk 7) hE.1 hE.2.1 hE.2.2.2.1 (show vk_R "TaleCourt$Reader" 128 "song" (tk 7) s from hTR 7 (by decide)) dX4_readMark_75 ?_
        refine x_viB (nn := 1) (As := [.ref (tk 7)]) (rest := []) hE hK hN hP hS (s_X4_isWord_1_1007 l D K ad mm N hNN v4 ar4 al4 hI tk tv  ) tw_blind (tw_now hK hN hP hT hTR hS) (x_recv hK hP 1 (Nat.lt_of_lt_of_le (by decide) hNN) (xG_4 rfl) rfl) rfl mw_562 mw_564 mw_5 mw_115 mw_565 (by decide +kernel) ⟨by decide, by decide⟩ hl.1 rfl (Nat.le_of_ble_eq_true rfl) ⟨Nat.zero_le _, Nat.zero_le _⟩ dX4_readMark_77 (fun r43 v43 ar43 al43 H locs hq43 hP hS => ?_)
        obtain ⟨⟨z43, hz43, rfl⟩, hI, hq43⟩ := hq43
        have hI : XI v43 := hI
        refine s_if_eq (a := z43) (tgt := 109) hE.1 hE.2.1 (by omega) dX4_readMark_80 (by decide) (fun c44 => ?_) (fun c44 => ?_)
        · skip
          refine lv_aload_n hE.1 hE.2.1 dX4_readMark_109 rfl (lv_at hl 1 rfl) ?_
          refine va_ldcS (index := 133) (q := tk 8) hE.1 hE.2.1 hE.2.2.2.1 (show vk_R "TaleCourt$Reader" 133 "owes" (tk 8) s from hTR 8 (by decide)) dX4_readMark_110 ?_
          refine x_viB (nn := 1) (As := [.ref (tk 8)]) (rest := []) hE hK hN hP hS (s_X4_isWord_1_1008 l D K ad mm N hNN v43 ar43 al43 hI tk tv  ) tw_blind (tw_now hK hN hP hT hTR hS) (x_recv hK hP 1 (Nat.lt_of_lt_of_le (by decide) hNN) (xG_4 rfl) rfl) rfl mw_562 mw_564 mw_5 mw_115 mw_565 (by decide +kernel) ⟨by decide, by decide⟩ hl.1 rfl (Nat.le_of_ble_eq_true rfl) ⟨Nat.zero_le _, Nat.zero_le _⟩ dX4_readMark_112 (fun r45 v45 ar45 al45 H locs hq45 hP hS => ?_)
          obtain ⟨⟨z45, hz45, rfl⟩, hI, hq45⟩ := hq45
          have hI : XI v45 := hI
          refine s_if_eq (a := z45) (tgt := 169) hE.1 hE.2.1 (by omega) dX4_readMark_115 (by decide) (fun c46 => ?_) (fun c46 => ?_)
          · skip
            refine lv_aload_n hE.1 hE.2.1 dX4_readMark_169 rfl (lv_at hl 1 rfl) ?_
            refine lv_iconst (v := iI (1)) hE.1 hE.2.1 dX4_readMark_170 (by decide) ?_
            refine x_vv (nn := 1) (As := [.int (iI (1))]) (rest := []) hE hK hN hP hS (s_X4_fail_1 l D K ad mm N hNN v45 ar45 al45 hI  (1) (by omega)) (x_recv hK hP 1 (Nat.lt_of_lt_of_le (by decide) hNN) (xG_4 rfl) rfl) rfl mw_614 mw_616 mw_6 mw_115 mw_617 (by decide +kernel) ⟨by decide, by decide⟩ hl.1 rfl (Nat.le_of_ble_eq_true rfl) ⟨Nat.zero_le _, Nat.zero_le _⟩ dX4_readMark_171 (fun v47 ar47 al47 H locs hq47 hP hS => ?_)
            obtain ⟨hI, hq47⟩ := hq47
            have hI : XI v47 := hI
            exact kr v47 ar47 al47 _ _ _ _ ⟨hI, fun i j h => ((hq47 i j (fun q => h (mem_sub (by decide) q))).trans ((hq45 i j (fun q => h (mem_sub (by decide) q))).trans ((hq43 i j (fun q => h (mem_sub (by decide) q))).trans ((hq4 i j (fun q => h (mem_sub (by decide) q))).trans (hq2 i j (fun q => h (mem_sub (by decide) q)))))))⟩ hP hS dX4_readMark_174
          · skip
            refine lv_aload_n hE.1 hE.2.1 dX4_readMark_118 rfl (lv_at hl 2 rfl) ?_
            refine x_get (x := .ref (ad 15)) hE hK hP 13 (Nat.lt_of_lt_of_le (by decide) hNN) (xG_1 rfl) rfl hin1 12 (by decide) mw_223 rfl dX4_readMark_119 ?_
            refine lv_iload_n hE.1 hE.2.1 dX4_readMark_122 rfl (lv_at hl 3 rfl) ?_
            refine x_iald (j := iI (z_1)) hE hK hP 15 (Nat.lt_of_lt_of_le (by decide) hNN) (xG_10 rfl) (iI_in (n := 9) (by omega)) dX4_readMark_123 ?_
            obtain ⟨z49, hz49, ez49⟩ := iI_of (ar45 15 (iI (z_1)).toNatClampNeg)
            refine x_top ez49 ?_
            refine lv_iconst (v := iI (-1)) hE.1 hE.2.1 dX4_readMark_124 (by decide) ?_
            refine s_icmp_ne (a := z49) (b := -1) (tgt := 169) hE.1 hE.2.1 (by omega) (by omega) dX4_readMark_125 (by decide) (fun c50 => ?_) (fun c50 => ?_)
            · skip
              refine lv_aload_n hE.1 hE.2.1 dX4_readMark_169 rfl (lv_at hl 1 rfl) ?_
              refine lv_iconst (v := iI (1)) hE.1 hE.2.1 dX4_readMark_170 (by decide) ?_
              refine x_vv (nn := 1) (As := [.int (iI (1))]) (rest := []) hE hK hN hP hS (s_X4_fail_1 l D K ad mm N hNN v45 ar45 al45 hI  (1) (by omega)) (x_recv hK hP 1 (Nat.lt_of_lt_of_le (by decide) hNN) (xG_4 rfl) rfl) rfl mw_614 mw_616 mw_6 mw_115 mw_617 (by decide +kernel) ⟨by decide, by decide⟩ hl.1 rfl (Nat.le_of_ble_eq_true rfl) ⟨Nat.zero_le _, Nat.zero_le _⟩ dX4_readMark_171 (fun v51 ar51 al51 H locs hq51 hP hS => ?_)
              obtain ⟨hI, hq51⟩ := hq51
              have hI : XI v51 := hI
              exact kr v51 ar51 al51 _ _ _ _ ⟨hI, fun i j h => ((hq51 i j (fun q => h (mem_sub (by decide) q))).trans ((hq45 i j (fun q => h (mem_sub (by decide) q))).trans ((hq43 i j (fun q => h (mem_sub (by decide) q))).trans ((hq4 i j (fun q => h (mem_sub (by decide) q))).trans (hq2 i j (fun q => h (mem_sub (by decide) q)))))))⟩ hP hS dX4_readMark_174
            · skip
              refine lv_aload_n hE.1 hE.2.1 dX4_readMark_128 rfl (lv_at hl 1 rfl) ?_
              refine x_vv (nn := 0) (As := []) (rest := []) hE hK hN hP hS (s_X4_step_1 l D K ad mm N hNN v45 ar45 al45 hI  ) (x_recv hK hP 1 (Nat.lt_of_lt_of_le (by decide) hNN) (xG_4 rfl) rfl) rfl mw_538 mw_540 mw_0 mw_115 mw_541 (by decide +kernel) ⟨by decide, by decide⟩ hl.1 rfl (Nat.le_of_ble_eq_true rfl) ⟨Nat.zero_le _, Nat.zero_le _⟩ dX4_readMark_129 (fun v52 ar52 al52 H locs hq52 hP hS => ?_)
              obtain ⟨hI, hq52⟩ := hq52
              have hI : XI v52 := hI
              refine lv_aload_n hE.1 hE.2.1 dX4_readMark_132 rfl (lv_at hl 2 rfl) ?_
              refine x_get (x := .ref (ad 15)) hE hK hP 13 (Nat.lt_of_lt_of_le (by decide) hNN) (xG_1 rfl) rfl hin1 12 (by decide) mw_223 rfl dX4_readMark_133 ?_
              refine lv_iload_n hE.1 hE.2.1 dX4_readMark_136 rfl (lv_at hl 3 rfl) ?_
              refine lv_aload_n hE.1 hE.2.1 dX4_readMark_137 rfl (lv_at hl 1 rfl) ?_
              refine lv_iconst (v := iI (0)) hE.1 hE.2.1 dX4_readMark_138 (by decide) ?_
              refine lv_bipush (v := iI (8)) hE.1 hE.2.1 dX4_readMark_139 (by decide) ?_
              refine lv_iload_n hE.1 hE.2.1 dX4_readMark_141 rfl (lv_at hl 0 rfl) ?_
              refine x_vi (nn := 3) (As := [.int (iI (0)), .int (iI (8)), .int (iI (z1))]) (rest := [.int (iI (z_1)), .ref (ad 15)]) hE hK hN hP hS (s_X4_takeNumber_1 l D K ad mm N hNN v52 ar52 al52 hI  (0) (by omega) (8) (by omega) (z1) (by omega)) (x_recv hK hP 1 (Nat.lt_of_lt_of_le (by decide) hNN) (xG_4 rfl) rfl) rfl mw_619 mw_621 mw_7 mw_115 mw_622 (by decide +kernel) ⟨by decide, by decide⟩ hl.1 rfl (Nat.le_of_ble_eq_true rfl) ⟨Nat.zero_le _, Nat.zero_le _⟩ dX4_readMark_142 (fun r53 v53 ar53 al53 H locs hq53 hP hS => ?_)
              obtain ⟨⟨z53, hz53, rfl⟩, hI, hq53⟩ := hq53
              have hI : XI v53 := hI
              refine x_iast (j := iI (z_1)) hE hK hN hP hS 15 (Nat.lt_of_lt_of_le (by decide) hNN) (fun _ => xG_10 rfl) (iI_in (n := 9) (by omega)) dX4_readMark_145 (fun ar54 H locs ha54 hP hS => ?_)
              refine lv_aload_n hE.1 hE.2.1 dX4_readMark_146 rfl (lv_at hl 1 rfl) ?_
              refine va_ldcS (index := 137) (q := tk 9) hE.1 hE.2.1 hE.2.2.2.1 (show vk_R "TaleCourt$Reader" 137 "within" (tk 9) s from hTR 9 (by decide)) dX4_readMark_147 ?_
              refine x_vvB (nn := 1) (As := [.ref (tk 9)]) (rest := []) hE hK hN hP hS (s_X4_takeWord_1_1009 l D K ad mm N hNN v53 ar54 al53 hI tk tv  ) tw_blind (tw_now hK hN hP hT hTR hS) (x_recv hK hP 1 (Nat.lt_of_lt_of_le (by decide) hNN) (xG_4 rfl) rfl) rfl mw_558 mw_560 mw_4 mw_115 mw_561 (by decide +kernel) ⟨by decide, by decide⟩ hl.1 rfl (Nat.le_of_ble_eq_true rfl) ⟨Nat.zero_le _, Nat.zero_le _⟩ dX4_readMark_149 (fun v55 ar55 al55 H locs hq55 hP hS => ?_)
              obtain ⟨hI, hq55⟩ := hq55
              have hI : XI v55 := hI
              refine lv_aload_n hE.1 hE.2.1 dX4_readMark_152 rfl (lv_at hl 2 rfl) ?_
              refine x_get (x := .ref (ad 16)) hE hK hP 13 (Nat.lt_of_lt_of_le (by decide) hNN) (xG_1 rfl) rfl hin1 13 (by decide) mw_227 rfl dX4_readMark_153 ?_
              refine lv_iload_n hE.1 hE.2.1 dX4_readMark_156 rfl (lv_at hl 3 rfl) ?_
              refine lv_aload_n hE.1 hE.2.1 dX4_readMark_157 rfl (lv_at hl 1 rfl) ?_
              refine lv_iconst (v := iI (1)) hE.1 hE.2.1 dX4_readMark_158 (by decide) ?_
              refine lv_bipush (v := iI (9)) hE.1 hE.2.1 dX4_readMark_159 (by decide) ?_
              refine lv_iconst (v := iI (0)) hE.1 hE.2.1 dX4_readMark_161 (by decide) ?_
              refine x_vi (nn := 3) (As := [.int (iI (1)), .int (iI (9)), .int (iI (0))]) (rest := [.int (iI (z_1)), .ref (ad 16)]) hE hK hN hP hS (s_X4_takeNumber_1 l D K ad mm N hNN v55 ar55 al55 hI  (1) (by omega) (9) (by omega) (0) (by omega)) (x_recv hK hP 1 (Nat.lt_of_lt_of_le (by decide) hNN) (xG_4 rfl) rfl) rfl mw_619 mw_621 mw_7 mw_115 mw_622 (by decide +kernel) ⟨by decide, by decide⟩ hl.1 rfl (Nat.le_of_ble_eq_true rfl) ⟨Nat.zero_le _, Nat.zero_le _⟩ dX4_readMark_162 (fun r56 v56 ar56 al56 H locs hq56 hP hS => ?_)
              obtain ⟨⟨z56, hz56, rfl⟩, hI, hq56⟩ := hq56
              have hI : XI v56 := hI
              refine x_iast (j := iI (z_1)) hE hK hN hP hS 16 (Nat.lt_of_lt_of_le (by decide) hNN) (fun _ => xG_10 rfl) (iI_in (n := 9) (by omega)) dX4_readMark_165 (fun ar57 H locs ha57 hP hS => ?_)
              refine lv_goto (tgt := 174) hE.1 hE.2.1 dX4_readMark_166 (by decide) ?_
              exact kr v56 ar57 al56 _ _ _ _ ⟨hI, fun i j h => ((hq56 i j (fun q => h (mem_sub (by decide) q))).trans ((hq55 i j (fun q => h (mem_sub (by decide) q))).trans ((hq53 i j (fun q => h (mem_sub (by decide) q))).trans ((hq52 i j (fun q => h (mem_sub (by decide) q))).trans ((hq45 i j (fun q => h (mem_sub (by decide) q))).trans ((hq43 i j (fun q => h (mem_sub (by decide) q))).trans ((hq4 i j (fun q => h (mem_sub (by decide) q))).trans (hq2 i j (fun q => h (mem_sub (by decide) q))))))))))⟩ hP hS dX4_readMark_174
        · skip
          refine lv_aload_n hE.1 hE.2.1 dX4_readMark_83 rfl (lv_at hl 2 rfl) ?_
          obtain ⟨z58, hz58, ez58⟩ := iI_of (v43 13 9)
          refine x_get (x := .int (v43 13 9)) hE hK hP 13 (Nat.lt_of_lt_of_le (by decide) hNN) (xG_1 rfl) rfl hin1 9 (by decide) mw_213 rfl dX4_readMark_84 ?_
          refine x_top (y := iI (z58)) ez58 ?_
          refine lv_iload_n hE.1 hE.2.1 dX4_readMark_87 rfl (lv_at hl 0 rfl) ?_
          refine lv_iand hE.1 hE.2.1 dX4_readMark_88 ?_
          obtain ⟨z59, hz59, ez59⟩ := iI_of (iI (z58) &&& iI (z1))
          refine x_top ez59 ?_
          refine s_if_ne (a := z59) (tgt := 109) hE.1 hE.2.1 (by omega) dX4_readMark_89 (by decide) (fun c60 => ?_) (fun c60 => ?_)
          · skip
            refine lv_aload_n hE.1 hE.2.1 dX4_readMark_109 rfl (lv_at hl 1 rfl) ?_
            refine va_ldcS (index := 133) (q := tk 8) hE.1 hE.2.1 hE.2.2.2.1 (show vk_R "TaleCourt$Reader" 133 "owes" (tk 8) s from hTR 8 (by decide)) dX4_readMark_110 ?_
            refine x_viB (nn := 1) (As := [.ref (tk 8)]) (rest := []) hE hK hN hP hS (s_X4_isWord_1_1008 l D K ad mm N hNN v43 ar43 al43 hI tk tv  ) tw_blind (tw_now hK hN hP hT hTR hS) (x_recv hK hP 1 (Nat.lt_of_lt_of_le (by decide) hNN) (xG_4 rfl) rfl) rfl mw_562 mw_564 mw_5 mw_115 mw_565 (by decide +kernel) ⟨by decide, by decide⟩ hl.1 rfl (Nat.le_of_ble_eq_true rfl) ⟨Nat.zero_le _, Nat.zero_le _⟩ dX4_readMark_112 (fun r61 v61 ar61 al61 H locs hq61 hP hS => ?_)
            obtain ⟨⟨z61, hz61, rfl⟩, hI, hq61⟩ := hq61
            have hI : XI v61 := hI
            refine s_if_eq (a := z61) (tgt := 169) hE.1 hE.2.1 (by omega) dX4_readMark_115 (by decide) (fun c62 => ?_) (fun c62 => ?_)
            · skip
              refine lv_aload_n hE.1 hE.2.1 dX4_readMark_169 rfl (lv_at hl 1 rfl) ?_
              refine lv_iconst (v := iI (1)) hE.1 hE.2.1 dX4_readMark_170 (by decide) ?_
              refine x_vv (nn := 1) (As := [.int (iI (1))]) (rest := []) hE hK hN hP hS (s_X4_fail_1 l D K ad mm N hNN v61 ar61 al61 hI  (1) (by omega)) (x_recv hK hP 1 (Nat.lt_of_lt_of_le (by decide) hNN) (xG_4 rfl) rfl) rfl mw_614 mw_616 mw_6 mw_115 mw_617 (by decide +kernel) ⟨by decide, by decide⟩ hl.1 rfl (Nat.le_of_ble_eq_true rfl) ⟨Nat.zero_le _, Nat.zero_le _⟩ dX4_readMark_171 (fun v63 ar63 al63 H locs hq63 hP hS => ?_)
              obtain ⟨hI, hq63⟩ := hq63
              have hI : XI v63 := hI
              exact kr v63 ar63 al63 _ _ _ _ ⟨hI, fun i j h => ((hq63 i j (fun q => h (mem_sub (by decide) q))).trans ((hq61 i j (fun q => h (mem_sub (by decide) q))).trans ((hq43 i j (fun q => h (mem_sub (by decide) q))).trans ((hq4 i j (fun q => h (mem_sub (by decide) q))).trans (hq2 i j (fun q => h (mem_sub (by decide) q)))))))⟩ hP hS dX4_readMark_174
            · skip
              refine lv_aload_n hE.1 hE.2.1 dX4_readMark_118 rfl (lv_at hl 2 rfl) ?_
              refine x_get (x := .ref (ad 15)) hE hK hP 13 (Nat.lt_of_lt_of_le (by decide) hNN) (xG_1 rfl) rfl hin1 12 (by decide) mw_223 rfl dX4_readMark_119 ?_
              refine lv_iload_n hE.1 hE.2.1 dX4_readMark_122 rfl (lv_at hl 3 rfl) ?_
              refine x_iald (j := iI (z_1)) hE hK hP 15 (Nat.lt_of_lt_of_le (by decide) hNN) (xG_10 rfl) (iI_in (n := 9) (by omega)) dX4_readMark_123 ?_
              obtain ⟨z65, hz65, ez65⟩ := iI_of (ar61 15 (iI (z_1)).toNatClampNeg)
              refine x_top ez65 ?_
              refine lv_iconst (v := iI (-1)) hE.1 hE.2.1 dX4_readMark_124 (by decide) ?_
              refine s_icmp_ne (a := z65) (b := -1) (tgt := 169) hE.1 hE.2.1 (by omega) (by omega) dX4_readMark_125 (by decide) (fun c66 => ?_) (fun c66 => ?_)
              · skip
                refine lv_aload_n hE.1 hE.2.1 dX4_readMark_169 rfl (lv_at hl 1 rfl) ?_
                refine lv_iconst (v := iI (1)) hE.1 hE.2.1 dX4_readMark_170 (by decide) ?_
                refine x_vv (nn := 1) (As := [.int (iI (1))]) (rest := []) hE hK hN hP hS (s_X4_fail_1 l D K ad mm N hNN v61 ar61 al61 hI  (1) (by omega)) (x_recv hK hP 1 (Nat.lt_of_lt_of_le (by decide) hNN) (xG_4 rfl) rfl) rfl mw_614 mw_616 mw_6 mw_115 mw_617 (by decide +kernel) ⟨by decide, by decide⟩ hl.1 rfl (Nat.le_of_ble_eq_true rfl) ⟨Nat.zero_le _, Nat.zero_le _⟩ dX4_readMark_171 (fun v67 ar67 al67 H locs hq67 hP hS => ?_)
                obtain ⟨hI, hq67⟩ := hq67
                have hI : XI v67 := hI
                exact kr v67 ar67 al67 _ _ _ _ ⟨hI, fun i j h => ((hq67 i j (fun q => h (mem_sub (by decide) q))).trans ((hq61 i j (fun q => h (mem_sub (by decide) q))).trans ((hq43 i j (fun q => h (mem_sub (by decide) q))).trans ((hq4 i j (fun q => h (mem_sub (by decide) q))).trans (hq2 i j (fun q => h (mem_sub (by decide) q)))))))⟩ hP hS dX4_readMark_174
              · skip
                refine lv_aload_n hE.1 hE.2.1 dX4_readMark_128 rfl (lv_at hl 1 rfl) ?_
                refine x_vv (nn := 0) (As := []) (rest := []) hE hK hN hP hS (s_X4_step_1 l D K ad mm N hNN v61 ar61 al61 hI  ) (x_recv hK hP 1 (Nat.lt_of_lt_of_le (by decide) hNN) (xG_4 rfl) rfl) rfl mw_538 mw_540 mw_0 mw_115 mw_541 (by decide +kernel) ⟨by decide, by decide⟩ hl.1 rfl (Nat.le_of_ble_eq_true rfl) ⟨Nat.zero_le _, Nat.zero_le _⟩ dX4_readMark_129 (fun v68 ar68 al68 H locs hq68 hP hS => ?_)
                obtain ⟨hI, hq68⟩ := hq68
                have hI : XI v68 := hI
                refine lv_aload_n hE.1 hE.2.1 dX4_readMark_132 rfl (lv_at hl 2 rfl) ?_
                refine x_get (x := .ref (ad 15)) hE hK hP 13 (Nat.lt_of_lt_of_le (by decide) hNN) (xG_1 rfl) rfl hin1 12 (by decide) mw_223 rfl dX4_readMark_133 ?_
                refine lv_iload_n hE.1 hE.2.1 dX4_readMark_136 rfl (lv_at hl 3 rfl) ?_
                refine lv_aload_n hE.1 hE.2.1 dX4_readMark_137 rfl (lv_at hl 1 rfl) ?_
                refine lv_iconst (v := iI (0)) hE.1 hE.2.1 dX4_readMark_138 (by decide) ?_
                refine lv_bipush (v := iI (8)) hE.1 hE.2.1 dX4_readMark_139 (by decide) ?_
                refine lv_iload_n hE.1 hE.2.1 dX4_readMark_141 rfl (lv_at hl 0 rfl) ?_
                refine x_vi (nn := 3) (As := [.int (iI (0)), .int (iI (8)), .int (iI (z1))]) (rest := [.int (iI (z_1)), .ref (ad 15)]) hE hK hN hP hS (s_X4_takeNumber_1 l D K ad mm N hNN v68 ar68 al68 hI  (0) (by omega) (8) (by omega) (z1) (by omega)) (x_recv hK hP 1 (Nat.lt_of_lt_of_le (by decide) hNN) (xG_4 rfl) rfl) rfl mw_619 mw_621 mw_7 mw_115 mw_622 (by decide +kernel) ⟨by decide, by decide⟩ hl.1 rfl (Nat.le_of_ble_eq_true rfl) ⟨Nat.zero_le _, Nat.zero_le _⟩ dX4_readMark_142 (fun r69 v69 ar69 al69 H locs hq69 hP hS => ?_)
                obtain ⟨⟨z69, hz69, rfl⟩, hI, hq69⟩ := hq69
                have hI : XI v69 := hI
                refine x_iast (j := iI (z_1)) hE hK hN hP hS 15 (Nat.lt_of_lt_of_le (by decide) hNN) (fun _ => xG_10 rfl) (iI_in (n := 9) (by omega)) dX4_readMark_145 (fun ar70 H locs ha70 hP hS => ?_)
                refine lv_aload_n hE.1 hE.2.1 dX4_readMark_146 rfl (lv_at hl 1 rfl) ?_
                refine va_ldcS (index := 137) (q := tk 9) hE.1 hE.2.1 hE.2.2.2.1 (show vk_R "TaleCourt$Reader" 137 "within" (tk 9) s from hTR 9 (by decide)) dX4_readMark_147 ?_
                refine x_vvB (nn := 1) (As := [.ref (tk 9)]) (rest := []) hE hK hN hP hS (s_X4_takeWord_1_1009 l D K ad mm N hNN v69 ar70 al69 hI tk tv  ) tw_blind (tw_now hK hN hP hT hTR hS) (x_recv hK hP 1 (Nat.lt_of_lt_of_le (by decide) hNN) (xG_4 rfl) rfl) rfl mw_558 mw_560 mw_4 mw_115 mw_561 (by decide +kernel) ⟨by decide, by decide⟩ hl.1 rfl (Nat.le_of_ble_eq_true rfl) ⟨Nat.zero_le _, Nat.zero_le _⟩ dX4_readMark_149 (fun v71 ar71 al71 H locs hq71 hP hS => ?_)
                obtain ⟨hI, hq71⟩ := hq71
                have hI : XI v71 := hI
                refine lv_aload_n hE.1 hE.2.1 dX4_readMark_152 rfl (lv_at hl 2 rfl) ?_
                refine x_get (x := .ref (ad 16)) hE hK hP 13 (Nat.lt_of_lt_of_le (by decide) hNN) (xG_1 rfl) rfl hin1 13 (by decide) mw_227 rfl dX4_readMark_153 ?_
                refine lv_iload_n hE.1 hE.2.1 dX4_readMark_156 rfl (lv_at hl 3 rfl) ?_
                refine lv_aload_n hE.1 hE.2.1 dX4_readMark_157 rfl (lv_at hl 1 rfl) ?_
                refine lv_iconst (v := iI (1)) hE.1 hE.2.1 dX4_readMark_158 (by decide) ?_
                refine lv_bipush (v := iI (9)) hE.1 hE.2.1 dX4_readMark_159 (by decide) ?_
                refine lv_iconst (v := iI (0)) hE.1 hE.2.1 dX4_readMark_161 (by decide) ?_
                refine x_vi (nn := 3) (As := [.int (iI (1)), .int (iI (9)), .int (iI (0))]) (rest := [.int (iI (z_1)), .ref (ad 16)]) hE hK hN hP hS (s_X4_takeNumber_1 l D K ad mm N hNN v71 ar71 al71 hI  (1) (by omega) (9) (by omega) (0) (by omega)) (x_recv hK hP 1 (Nat.lt_of_lt_of_le (by decide) hNN) (xG_4 rfl) rfl) rfl mw_619 mw_621 mw_7 mw_115 mw_622 (by decide +kernel) ⟨by decide, by decide⟩ hl.1 rfl (Nat.le_of_ble_eq_true rfl) ⟨Nat.zero_le _, Nat.zero_le _⟩ dX4_readMark_162 (fun r72 v72 ar72 al72 H locs hq72 hP hS => ?_)
                obtain ⟨⟨z72, hz72, rfl⟩, hI, hq72⟩ := hq72
                have hI : XI v72 := hI
                refine x_iast (j := iI (z_1)) hE hK hN hP hS 16 (Nat.lt_of_lt_of_le (by decide) hNN) (fun _ => xG_10 rfl) (iI_in (n := 9) (by omega)) dX4_readMark_165 (fun ar73 H locs ha73 hP hS => ?_)
                refine lv_goto (tgt := 174) hE.1 hE.2.1 dX4_readMark_166 (by decide) ?_
                exact kr v72 ar73 al72 _ _ _ _ ⟨hI, fun i j h => ((hq72 i j (fun q => h (mem_sub (by decide) q))).trans ((hq71 i j (fun q => h (mem_sub (by decide) q))).trans ((hq69 i j (fun q => h (mem_sub (by decide) q))).trans ((hq68 i j (fun q => h (mem_sub (by decide) q))).trans ((hq61 i j (fun q => h (mem_sub (by decide) q))).trans ((hq43 i j (fun q => h (mem_sub (by decide) q))).trans ((hq4 i j (fun q => h (mem_sub (by decide) q))).trans (hq2 i j (fun q => h (mem_sub (by decide) q))))))))))⟩ hP hS dX4_readMark_174
          · skip
            refine lv_aload_n hE.1 hE.2.1 dX4_readMark_92 rfl (lv_at hl 2 rfl) ?_
            refine lv_dup hE.1 hE.2.1 dX4_readMark_93 rfl ?_
            refine x_get (x := .int (v43 13 9)) hE hK hP 13 (Nat.lt_of_lt_of_le (by decide) hNN) (xG_1 rfl) rfl hin1 9 (by decide) mw_213 rfl dX4_readMark_94 ?_
            refine x_top (y := iI (z58)) ez58 ?_
            refine lv_iload_n hE.1 hE.2.1 dX4_readMark_97 rfl (lv_at hl 0 rfl) ?_
            refine lv_ior hE.1 hE.2.1 dX4_readMark_98 ?_
            obtain ⟨z74, hz74, ez74⟩ := iI_of (iI (z58) ||| iI (z1))
            refine x_top ez74 ?_
            refine x_put (x := iI (z74)) hE hK hN hP hS 13 (Nat.lt_of_lt_of_le (by decide) hNN) (xG_1 rfl) rfl hin1 tyX1 tyX1_ok nmX1 9 (by decide) mw_213 rfl rfl rfl (Nat.le_of_ble_eq_true rfl) (xG_1 rfl) dX4_readMark_99 (fun v75 H locs hv75 hP hS => ?_)
            have hI := XI_putN hI hv75 (by decide)
            refine lv_aload_n hE.1 hE.2.1 dX4_readMark_102 rfl (lv_at hl 1 rfl) ?_
            refine x_vv (nn := 0) (As := []) (rest := []) hE hK hN hP hS (s_X4_step_1 l D K ad mm N hNN v75 ar43 al43 hI  ) (x_recv hK hP 1 (Nat.lt_of_lt_of_le (by decide) hNN) (xG_4 rfl) rfl) rfl mw_538 mw_540 mw_0 mw_115 mw_541 (by decide +kernel) ⟨by decide, by decide⟩ hl.1 rfl (Nat.le_of_ble_eq_true rfl) ⟨Nat.zero_le _, Nat.zero_le _⟩ dX4_readMark_103 (fun v76 ar76 al76 H locs hq76 hP hS => ?_)
            obtain ⟨hI, hq76⟩ := hq76
            have hI : XI v76 := hI
            refine lv_goto (tgt := 174) hE.1 hE.2.1 dX4_readMark_106 (by decide) ?_
            exact kr v76 ar76 al76 _ _ _ _ ⟨hI, fun i j h => ((hq76 i j (fun q => h (mem_sub (by decide) q))).trans ((up_oth hv75 (fun q => h (by rcases q with ⟨rfl, rfl⟩; decide))).trans ((hq43 i j (fun q => h (mem_sub (by decide) q))).trans ((hq4 i j (fun q => h (mem_sub (by decide) q))).trans (hq2 i j (fun q => h (mem_sub (by decide) q)))))))⟩ hP hS dX4_readMark_174
      · skip
        refine lv_aload_n hE.1 hE.2.1 dX4_readMark_57 rfl (lv_at hl 2 rfl) ?_
        refine lv_dup hE.1 hE.2.1 dX4_readMark_58 rfl ?_
        refine x_get (x := .int (v4 13 8)) hE hK hP 13 (Nat.lt_of_lt_of_le (by decide) hNN) (xG_1 rfl) rfl hin1 8 (by decide) mw_209 rfl dX4_readMark_59 ?_
        refine x_top (y := iI (z40)) ez40 ?_
        refine lv_iload_n hE.1 hE.2.1 dX4_readMark_62 rfl (lv_at hl 0 rfl) ?_
        refine lv_ior hE.1 hE.2.1 dX4_readMark_63 ?_
        obtain ⟨z77, hz77, ez77⟩ := iI_of (iI (z40) ||| iI (z1))
        refine x_top ez77 ?_
        refine x_put (x := iI (z77)) hE hK hN hP hS 13 (Nat.lt_of_lt_of_le (by decide) hNN) (xG_1 rfl) rfl hin1 tyX1 tyX1_ok nmX1 8 (by decide) mw_209 rfl rfl rfl (Nat.le_of_ble_eq_true rfl) (xG_1 rfl) dX4_readMark_64 (fun v78 H locs hv78 hP hS => ?_)
        have hI := XI_putN hI hv78 (by decide)
        refine lv_aload_n hE.1 hE.2.1 dX4_readMark_67 rfl (lv_at hl 1 rfl) ?_
        refine x_vv (nn := 0) (As := []) (rest := []) hE hK hN hP hS (s_X4_step_1 l D K ad mm N hNN v78 ar4 al4 hI  ) (x_recv hK hP 1 (Nat.lt_of_lt_of_le (by decide) hNN) (xG_4 rfl) rfl) rfl mw_538 mw_540 mw_0 mw_115 mw_541 (by decide +kernel) ⟨by decide, by decide⟩ hl.1 rfl (Nat.le_of_ble_eq_true rfl) ⟨Nat.zero_le _, Nat.zero_le _⟩ dX4_readMark_68 (fun v79 ar79 al79 H locs hq79 hP hS => ?_)
        obtain ⟨hI, hq79⟩ := hq79
        have hI : XI v79 := hI
        refine lv_goto (tgt := 174) hE.1 hE.2.1 dX4_readMark_71 (by decide) ?_
        exact kr v79 ar79 al79 _ _ _ _ ⟨hI, fun i j h => ((hq79 i j (fun q => h (mem_sub (by decide) q))).trans ((up_oth hv78 (fun q => h (by rcases q with ⟨rfl, rfl⟩; decide))).trans ((hq4 i j (fun q => h (mem_sub (by decide) q))).trans (hq2 i j (fun q => h (mem_sub (by decide) q))))))⟩ hP hS dX4_readMark_174
  · skip
    refine lv_aload_n hE.1 hE.2.1 dX4_readMark_13 rfl (lv_at hl 2 rfl) ?_
    obtain ⟨z80, hz80, ez80⟩ := iI_of (v2 13 7)
    refine x_get (x := .int (v2 13 7)) hE hK hP 13 (Nat.lt_of_lt_of_le (by decide) hNN) (xG_1 rfl) rfl hin1 7 (by decide) mw_205 rfl dX4_readMark_14 ?_
    refine x_top (y := iI (z80)) ez80 ?_
    refine lv_iload_n hE.1 hE.2.1 dX4_readMark_17 rfl (lv_at hl 0 rfl) ?_
    refine lv_iand hE.1 hE.2.1 dX4_readMark_18 ?_
    obtain ⟨z81, hz81, ez81⟩ := iI_of (iI (z80) &&& iI (z1))
    refine x_top ez81 ?_
    refine s_if_ne (a := z81) (tgt := 39) hE.1 hE.2.1 (by omega) dX4_readMark_19 (by decide) (fun c82 => ?_) (fun c82 => ?_)
    · skip
      refine lv_aload_n hE.1 hE.2.1 dX4_readMark_39 rfl (lv_at hl 1 rfl) ?_
      refine va_ldcS (index := 123) (q := tk 6) hE.1 hE.2.1 hE.2.2.2.1 (show vk_R "TaleCourt$Reader" 123 "stranger" (tk 6) s from hTR 6 (by decide)) dX4_readMark_40 ?_
      refine x_viB (nn := 1) (As := [.ref (tk 6)]) (rest := []) hE hK hN hP hS (s_X4_isWord_1_1006 l D K ad mm N hNN v2 ar2 al2 hI tk tv  ) tw_blind (tw_now hK hN hP hT hTR hS) (x_recv hK hP 1 (Nat.lt_of_lt_of_le (by decide) hNN) (xG_4 rfl) rfl) rfl mw_562 mw_564 mw_5 mw_115 mw_565 (by decide +kernel) ⟨by decide, by decide⟩ hl.1 rfl (Nat.le_of_ble_eq_true rfl) ⟨Nat.zero_le _, Nat.zero_le _⟩ dX4_readMark_42 (fun r83 v83 ar83 al83 H locs hq83 hP hS => ?_)
      obtain ⟨⟨z83, hz83, rfl⟩, hI, hq83⟩ := hq83
      have hI : XI v83 := hI
      refine s_if_eq (a := z83) (tgt := 74) hE.1 hE.2.1 (by omega) dX4_readMark_45 (by decide) (fun c84 => ?_) (fun c84 => ?_)
      · skip
        refine lv_aload_n hE.1 hE.2.1 dX4_readMark_74 rfl (lv_at hl 1 rfl) ?_
        refine va_ldcS (index := 128) (q := tk 7) hE.1 hE.2.1 hE.2.2.2.1 (show vk_R "TaleCourt$Reader" 128 "song" (tk 7) s from hTR 7 (by decide)) dX4_readMark_75 ?_
        refine x_viB (nn := 1) (As := [.ref (tk 7)]) (rest := []) hE hK hN hP hS (s_X4_isWord_1_1007 l D K ad mm N hNN v83 ar83 al83 hI tk tv  ) tw_blind (tw_now hK hN hP hT hTR hS) (x_recv hK hP 1 (Nat.lt_of_lt_of_le (by decide) hNN) (xG_4 rfl) rfl) rfl mw_562 mw_564 mw_5 mw_115 mw_565 (by decide +kernel) ⟨by decide, by decide⟩ hl.1 rfl (Nat.le_of_ble_eq_true rfl) ⟨Nat.zero_le _, Nat.zero_le _⟩ dX4_readMark_77 (fun r85 v85 ar85 al85 H locs hq85 hP hS => ?_)
        obtain ⟨⟨z85, hz85, rfl⟩, hI, hq85⟩ := hq85
        have hI : XI v85 := hI
        refine s_if_eq (a := z85) (tgt := 109) hE.1 hE.2.1 (by omega) dX4_readMark_80 (by decide) (fun c86 => ?_) (fun c86 => ?_)
        · skip
          refine lv_aload_n hE.1 hE.2.1 dX4_readMark_109 rfl (lv_at hl 1 rfl) ?_
          refine va_ldcS (index := 133) (q := tk 8) hE.1 hE.2.1 hE.2.2.2.1 (show vk_R "TaleCourt$Reader" 133 "owes" (tk 8) s from hTR 8 (by decide)) dX4_readMark_110 ?_
          refine x_viB (nn := 1) (As := [.ref (tk 8)]) (rest := []) hE hK hN hP hS (s_X4_isWord_1_1008 l D K ad mm N hNN v85 ar85 al85 hI tk tv  ) tw_blind (tw_now hK hN hP hT hTR hS) (x_recv hK hP 1 (Nat.lt_of_lt_of_le (by decide) hNN) (xG_4 rfl) rfl) rfl mw_562 mw_564 mw_5 mw_115 mw_565 (by decide +kernel) ⟨by decide, by decide⟩ hl.1 rfl (Nat.le_of_ble_eq_true rfl) ⟨Nat.zero_le _, Nat.zero_le _⟩ dX4_readMark_112 (fun r87 v87 ar87 al87 H locs hq87 hP hS => ?_)
          obtain ⟨⟨z87, hz87, rfl⟩, hI, hq87⟩ := hq87
          have hI : XI v87 := hI
          refine s_if_eq (a := z87) (tgt := 169) hE.1 hE.2.1 (by omega) dX4_readMark_115 (by decide) (fun c88 => ?_) (fun c88 => ?_)
          · skip
            refine lv_aload_n hE.1 hE.2.1 dX4_readMark_169 rfl (lv_at hl 1 rfl) ?_
            refine lv_iconst (v := iI (1)) hE.1 hE.2.1 dX4_readMark_170 (by decide) ?_
            refine x_vv (nn := 1) (As := [.int (iI (1))]) (rest := []) hE hK hN hP hS (s_X4_fail_1 l D K ad mm N hNN v87 ar87 al87 hI  (1) (by omega)) (x_recv hK hP 1 (Nat.lt_of_lt_of_le (by decide) hNN) (xG_4 rfl) rfl) rfl mw_614 mw_616 mw_6 mw_115 mw_617 (by decide +kernel) ⟨by decide, by decide⟩ hl.1 rfl (Nat.le_of_ble_eq_true rfl) ⟨Nat.zero_le _, Nat.zero_le _⟩ dX4_readMark_171 (fun v89 ar89 al89 H locs hq89 hP hS => ?_)
            obtain ⟨hI, hq89⟩ := hq89
            have hI : XI v89 := hI
            exact kr v89 ar89 al89 _ _ _ _ ⟨hI, fun i j h => ((hq89 i j (fun q => h (mem_sub (by decide) q))).trans ((hq87 i j (fun q => h (mem_sub (by decide) q))).trans ((hq85 i j (fun q => h (mem_sub (by decide) q))).trans ((hq83 i j (fun q => h (mem_sub (by decide) q))).trans (hq2 i j (fun q => h (mem_sub (by decide) q)))))))⟩ hP hS dX4_readMark_174
          · skip
            refine lv_aload_n hE.1 hE.2.1 dX4_readMark_118 rfl (lv_at hl 2 rfl) ?_
            refine x_get (x := .ref (ad 15)) hE hK hP 13 (Nat.lt_of_lt_of_le (by decide) hNN) (xG_1 rfl) rfl hin1 12 (by decide) mw_223 rfl dX4_readMark_119 ?_
            refine lv_iload_n hE.1 hE.2.1 dX4_readMark_122 rfl (lv_at hl 3 rfl) ?_
            refine x_iald (j := iI (z_1)) hE hK hP 15 (Nat.lt_of_lt_of_le (by decide) hNN) (xG_10 rfl) (iI_in (n := 9) (by omega)) dX4_readMark_123 ?_
            obtain ⟨z91, hz91, ez91⟩ := iI_of (ar87 15 (iI (z_1)).toNatClampNeg)
            refine x_top ez91 ?_
            refine lv_iconst (v := iI (-1)) hE.1 hE.2.1 dX4_readMark_124 (by decide) ?_
            refine s_icmp_ne (a := z91) (b := -1) (tgt := 169) hE.1 hE.2.1 (by omega) (by omega) dX4_readMark_125 (by decide) (fun c92 => ?_) (fun c92 => ?_)
            · skip
              refine lv_aload_n hE.1 hE.2.1 dX4_readMark_169 rfl (lv_at hl 1 rfl) ?_
              refine lv_iconst (v := iI (1)) hE.1 hE.2.1 dX4_readMark_170 (by decide) ?_
              refine x_vv (nn := 1) (As := [.int (iI (1))]) (rest := []) hE hK hN hP hS (s_X4_fail_1 l D K ad mm N hNN v87 ar87 al87 hI  (1) (by omega)) (x_recv hK hP 1 (Nat.lt_of_lt_of_le (by decide) hNN) (xG_4 rfl) rfl) rfl mw_614 mw_616 mw_6 mw_115 mw_617 (by decide +kernel) ⟨by decide, by decide⟩ hl.1 rfl (Nat.le_of_ble_eq_true rfl) ⟨Nat.zero_le _, Nat.zero_le _⟩ dX4_readMark_171 (fun v93 ar93 al93 H locs hq93 hP hS => ?_)
              obtain ⟨hI, hq93⟩ := hq93
              have hI : XI v93 := hI
              exact kr v93 ar93 al93 _ _ _ _ ⟨hI, fun i j h => ((hq93 i j (fun q => h (mem_sub (by decide) q))).trans ((hq87 i j (fun q => h (mem_sub (by decide) q))).trans ((hq85 i j (fun q => h (mem_sub (by decide) q))).trans ((hq83 i j (fun q => h (mem_sub (by decide) q))).trans (hq2 i j (fun q => h (mem_sub (by decide) q)))))))⟩ hP hS dX4_readMark_174
            · skip
              refine lv_aload_n hE.1 hE.2.1 dX4_readMark_128 rfl (lv_at hl 1 rfl) ?_
              refine x_vv (nn := 0) (As := []) (rest := []) hE hK hN hP hS (s_X4_step_1 l D K ad mm N hNN v87 ar87 al87 hI  ) (x_recv hK hP 1 (Nat.lt_of_lt_of_le (by decide) hNN) (xG_4 rfl) rfl) rfl mw_538 mw_540 mw_0 mw_115 mw_541 (by decide +kernel) ⟨by decide, by decide⟩ hl.1 rfl (Nat.le_of_ble_eq_true rfl) ⟨Nat.zero_le _, Nat.zero_le _⟩ dX4_readMark_129 (fun v94 ar94 al94 H locs hq94 hP hS => ?_)
              obtain ⟨hI, hq94⟩ := hq94
              have hI : XI v94 := hI
              refine lv_aload_n hE.1 hE.2.1 dX4_readMark_132 rfl (lv_at hl 2 rfl) ?_
              refine x_get (x := .ref (ad 15)) hE hK hP 13 (Nat.lt_of_lt_of_le (by decide) hNN) (xG_1 rfl) rfl hin1 12 (by decide) mw_223 rfl dX4_readMark_133 ?_
              refine lv_iload_n hE.1 hE.2.1 dX4_readMark_136 rfl (lv_at hl 3 rfl) ?_
              refine lv_aload_n hE.1 hE.2.1 dX4_readMark_137 rfl (lv_at hl 1 rfl) ?_
              refine lv_iconst (v := iI (0)) hE.1 hE.2.1 dX4_readMark_138 (by decide) ?_
              refine lv_bipush (v := iI (8)) hE.1 hE.2.1 dX4_readMark_139 (by decide) ?_
              refine lv_iload_n hE.1 hE.2.1 dX4_readMark_141 rfl (lv_at hl 0 rfl) ?_
              refine x_vi (nn := 3) (As := [.int (iI (0)), .int (iI (8)), .int (iI (z1))]) (rest := [.int (iI (z_1)), .ref (ad 15)]) hE hK hN hP hS (s_X4_takeNumber_1 l D K ad mm N hNN v94 ar94 al94 hI  (0) (by omega) (8) (by omega) (z1) (by omega)) (x_recv hK hP 1 (Nat.lt_of_lt_of_le (by decide) hNN) (xG_4 rfl) rfl) rfl mw_619 mw_621 mw_7 mw_115 mw_622 (by decide +kernel) ⟨by decide, by decide⟩ hl.1 rfl (Nat.le_of_ble_eq_true rfl) ⟨Nat.zero_le _, Nat.zero_le _⟩ dX4_readMark_142 (fun r95 v95 ar95 al95 H locs hq95 hP hS => ?_)
              obtain ⟨⟨z95, hz95, rfl⟩, hI, hq95⟩ := hq95
              have hI : XI v95 := hI
              refine x_iast (j := iI (z_1)) hE hK hN hP hS 15 (Nat.lt_of_lt_of_le (by decide) hNN) (fun _ => xG_10 rfl) (iI_in (n := 9) (by omega)) dX4_readMark_145 (fun ar96 H locs ha96 hP hS => ?_)
              refine lv_aload_n hE.1 hE.2.1 dX4_readMark_146 rfl (lv_at hl 1 rfl) ?_
              refine va_ldcS (index := 137) (q := tk 9) hE.1 hE.2.1 hE.2.2.2.1 (show vk_R "TaleCourt$Reader" 137 "within" (tk 9) s from hTR 9 (by decide)) dX4_readMark_147 ?_
              refine x_vvB (nn := 1) (As := [.ref (tk 9)]) (rest := []) hE hK hN hP hS (s_X4_takeWord_1_1009 l D K ad mm N hNN v95 ar96 al95 hI tk tv  ) tw_blind (tw_now hK hN hP hT hTR hS) (x_recv hK hP 1 (Nat.lt_of_lt_of_le (by decide) hNN) (xG_4 rfl) rfl) rfl mw_558 mw_560 mw_4 mw_115 mw_561 (by decide +kernel) ⟨by decide, by decide⟩ hl.1 rfl (Nat.le_of_ble_eq_true rfl) ⟨Nat.zero_le _, Nat.zero_le _⟩ dX4_readMark_149 (fun v97 ar97 al97 H locs hq97 hP hS => ?_)
              obtain ⟨hI, hq97⟩ := hq97
              have hI : XI v97 := hI
              refine lv_aload_n hE.1 hE.2.1 dX4_readMark_152 rfl (lv_at hl 2 rfl) ?_
              refine x_get (x := .ref (ad 16)) hE hK hP 13 (Nat.lt_of_lt_of_le (by decide) hNN) (xG_1 rfl) rfl hin1 13 (by decide) mw_227 rfl dX4_readMark_153 ?_
              refine lv_iload_n hE.1 hE.2.1 dX4_readMark_156 rfl (lv_at hl 3 rfl) ?_
              refine lv_aload_n hE.1 hE.2.1 dX4_readMark_157 rfl (lv_at hl 1 rfl) ?_
              refine lv_iconst (v := iI (1)) hE.1 hE.2.1 dX4_readMark_158 (by decide) ?_
              refine lv_bipush (v := iI (9)) hE.1 hE.2.1 dX4_readMark_159 (by decide) ?_
              refine lv_iconst (v := iI (0)) hE.1 hE.2.1 dX4_readMark_161 (by decide) ?_
              refine x_vi (nn := 3) (As := [.int (iI (1)), .int (iI (9)), .int (iI (0))]) (rest := [.int (iI (z_1)), .ref (ad 16)]) hE hK hN hP hS (s_X4_takeNumber_1 l D K ad mm N hNN v97 ar97 al97 hI  (1) (by omega) (9) (by omega) (0) (by omega)) (x_recv hK hP 1 (Nat.lt_of_lt_of_le (by decide) hNN) (xG_4 rfl) rfl) rfl mw_619 mw_621 mw_7 mw_115 mw_622 (by decide +kernel) ⟨by decide, by decide⟩ hl.1 rfl (Nat.le_of_ble_eq_true rfl) ⟨Nat.zero_le _, Nat.zero_le _⟩ dX4_readMark_162 (fun r98 v98 ar98 al98 H locs hq98 hP hS => ?_)
              obtain ⟨⟨z98, hz98, rfl⟩, hI, hq98⟩ := hq98
              have hI : XI v98 := hI
              refine x_iast (j := iI (z_1)) hE hK hN hP hS 16 (Nat.lt_of_lt_of_le (by decide) hNN) (fun _ => xG_10 rfl) (iI_in (n := 9) (by omega)) dX4_readMark_165 (fun ar99 H locs ha99 hP hS => ?_)
              refine lv_goto (tgt := 174) hE.1 hE.2.1 dX4_readMark_166 (by decide) ?_
              exact kr v98 ar99 al98 _ _ _ _ ⟨hI, fun i j h => ((hq98 i j (fun q => h (mem_sub (by decide) q))).trans ((hq97 i j (fun q => h (mem_sub (by decide) q))).trans ((hq95 i j (fun q => h (mem_sub (by decide) q))).trans ((hq94 i j (fun q => h (mem_sub (by decide) q))).trans ((hq87 i j (fun q => h (mem_sub (by decide) q))).trans ((hq85 i j (fun q => h (mem_sub (by decide) q))).trans ((hq83 i j (fun q => h (mem_sub (by decide) q))).trans (hq2 i j (fun q => h (mem_sub (by decide) q))))))))))⟩ hP hS dX4_readMark_174
        · skip
          refine lv_aload_n hE.1 hE.2.1 dX4_readMark_83 rfl (lv_at hl 2 rfl) ?_
          obtain ⟨z100, hz100, ez100⟩ := iI_of (v85 13 9)
          refine x_get (x := .int (v85 13 9)) hE hK hP 13 (Nat.lt_of_lt_of_le (by decide) hNN) (xG_1 rfl) rfl hin1 9 (by decide) mw_213 rfl dX4_readMark_84 ?_
          refine x_top (y := iI (z100)) ez100 ?_
          refine lv_iload_n hE.1 hE.2.1 dX4_readMark_87 rfl (lv_at hl 0 rfl) ?_
          refine lv_iand hE.1 hE.2.1 dX4_readMark_88 ?_
          obtain ⟨z101, hz101, ez101⟩ := iI_of (iI (z100) &&& iI (z1))
          refine x_top ez101 ?_
          refine s_if_ne (a := z101) (tgt := 109) hE.1 hE.2.1 (by omega) dX4_readMark_89 (by decide) (fun c102 => ?_) (fun c102 => ?_)
          · skip
            refine lv_aload_n hE.1 hE.2.1 dX4_readMark_109 rfl (lv_at hl 1 rfl) ?_
            refine va_ldcS (index := 133) (q := tk 8) hE.1 hE.2.1 hE.2.2.2.1 (show vk_R "TaleCourt$Reader" 133 "owes" (tk 8) s from hTR 8 (by decide)) dX4_readMark_110 ?_
            refine x_viB (nn := 1) (As := [.ref (tk 8)]) (rest := []) hE hK hN hP hS (s_X4_isWord_1_1008 l D K ad mm N hNN v85 ar85 al85 hI tk tv  ) tw_blind (tw_now hK hN hP hT hTR hS) (x_recv hK hP 1 (Nat.lt_of_lt_of_le (by decide) hNN) (xG_4 rfl) rfl) rfl mw_562 mw_564 mw_5 mw_115 mw_565 (by decide +kernel) ⟨by decide, by decide⟩ hl.1 rfl (Nat.le_of_ble_eq_true rfl) ⟨Nat.zero_le _, Nat.zero_le _⟩ dX4_readMark_112 (fun r103 v103 ar103 al103 H locs hq103 hP hS => ?_)
            obtain ⟨⟨z103, hz103, rfl⟩, hI, hq103⟩ := hq103
            have hI : XI v103 := hI
            refine s_if_eq (a := z103) (tgt := 169) hE.1 hE.2.1 (by omega) dX4_readMark_115 (by decide) (fun c104 => ?_) (fun c104 => ?_)
            · skip
              refine lv_aload_n hE.1 hE.2.1 dX4_readMark_169 rfl (lv_at hl 1 rfl) ?_
              refine lv_iconst (v := iI (1)) hE.1 hE.2.1 dX4_readMark_170 (by decide) ?_
              refine x_vv (nn := 1) (As := [.int (iI (1))]) (rest := []) hE hK hN hP hS (s_X4_fail_1 l D K ad mm N hNN v103 ar103 al103 hI  (1) (by omega)) (x_recv hK hP 1 (Nat.lt_of_lt_of_le (by decide) hNN) (xG_4 rfl) rfl) rfl mw_614 mw_616 mw_6 mw_115 mw_617 (by decide +kernel) ⟨by decide, by decide⟩ hl.1 rfl (Nat.le_of_ble_eq_true rfl) ⟨Nat.zero_le _, Nat.zero_le _⟩ dX4_readMark_171 (fun v105 ar105 al105 H locs hq105 hP hS => ?_)
              obtain ⟨hI, hq105⟩ := hq105
              have hI : XI v105 := hI
              exact kr v105 ar105 al105 _ _ _ _ ⟨hI, fun i j h => ((hq105 i j (fun q => h (mem_sub (by decide) q))).trans ((hq103 i j (fun q => h (mem_sub (by decide) q))).trans ((hq85 i j (fun q => h (mem_sub (by decide) q))).trans ((hq83 i j (fun q => h (mem_sub (by decide) q))).trans (hq2 i j (fun q => h (mem_sub (by decide) q)))))))⟩ hP hS dX4_readMark_174
            · skip
              refine lv_aload_n hE.1 hE.2.1 dX4_readMark_118 rfl (lv_at hl 2 rfl) ?_
              refine x_get (x := .ref (ad 15)) hE hK hP 13 (Nat.lt_of_lt_of_le (by decide) hNN) (xG_1 rfl) rfl hin1 12 (by decide) mw_223 rfl dX4_readMark_119 ?_
              refine lv_iload_n hE.1 hE.2.1 dX4_readMark_122 rfl (lv_at hl 3 rfl) ?_
              refine x_iald (j := iI (z_1)) hE hK hP 15 (Nat.lt_of_lt_of_le (by decide) hNN) (xG_10 rfl) (iI_in (n := 9) (by omega)) dX4_readMark_123 ?_
              obtain ⟨z107, hz107, ez107⟩ := iI_of (ar103 15 (iI (z_1)).toNatClampNeg)
              refine x_top ez107 ?_
              refine lv_iconst (v := iI (-1)) hE.1 hE.2.1 dX4_readMark_124 (by decide) ?_
              refine s_icmp_ne (a := z107) (b := -1) (tgt := 169) hE.1 hE.2.1 (by omega) (by omega) dX4_readMark_125 (by decide) (fun c108 => ?_) (fun c108 => ?_)
              · skip
                refine lv_aload_n hE.1 hE.2.1 dX4_readMark_169 rfl (lv_at hl 1 rfl) ?_
                refine lv_iconst (v := iI (1)) hE.1 hE.2.1 dX4_readMark_170 (by decide) ?_
                refine x_vv (nn := 1) (As := [.int (iI (1))]) (rest := []) hE hK hN hP hS (s_X4_fail_1 l D K ad mm N hNN v103 ar103 al103 hI  (1) (by omega)) (x_recv hK hP 1 (Nat.lt_of_lt_of_le (by decide) hNN) (xG_4 rfl) rfl) rfl mw_614 mw_616 mw_6 mw_115 mw_617 (by decide +kernel) ⟨by decide, by decide⟩ hl.1 rfl (Nat.le_of_ble_eq_true rfl) ⟨Nat.zero_le _, Nat.zero_le _⟩ dX4_readMark_171 (fun v109 ar109 al109 H locs hq109 hP hS => ?_)
                obtain ⟨hI, hq109⟩ := hq109
                have hI : XI v109 := hI
                exact kr v109 ar109 al109 _ _ _ _ ⟨hI, fun i j h => ((hq109 i j (fun q => h (mem_sub (by decide) q))).trans ((hq103 i j (fun q => h (mem_sub (by decide) q))).trans ((hq85 i j (fun q => h (mem_sub (by decide) q))).trans ((hq83 i j (fun q => h (mem_sub (by decide) q))).trans (hq2 i j (fun q => h (mem_sub (by decide) q)))))))⟩ hP hS dX4_readMark_174
              · skip
                refine lv_aload_n hE.1 hE.2.1 dX4_readMark_128 rfl (lv_at hl 1 rfl) ?_
                refine x_vv (nn := 0) (As := []) (rest := []) hE hK hN hP hS (s_X4_step_1 l D K ad mm N hNN v103 ar103 al103 hI  ) (x_recv hK hP 1 (Nat.lt_of_lt_of_le (by decide) hNN) (xG_4 rfl) rfl) rfl mw_538 mw_540 mw_0 mw_115 mw_541 (by decide +kernel) ⟨by decide, by decide⟩ hl.1 rfl (Nat.le_of_ble_eq_true rfl) ⟨Nat.zero_le _, Nat.zero_le _⟩ dX4_readMark_129 (fun v110 ar110 al110 H locs hq110 hP hS => ?_)
                obtain ⟨hI, hq110⟩ := hq110
                have hI : XI v110 := hI
                refine lv_aload_n hE.1 hE.2.1 dX4_readMark_132 rfl (lv_at hl 2 rfl) ?_
                refine x_get (x := .ref (ad 15)) hE hK hP 13 (Nat.lt_of_lt_of_le (by decide) hNN) (xG_1 rfl) rfl hin1 12 (by decide) mw_223 rfl dX4_readMark_133 ?_
                refine lv_iload_n hE.1 hE.2.1 dX4_readMark_136 rfl (lv_at hl 3 rfl) ?_
                refine lv_aload_n hE.1 hE.2.1 dX4_readMark_137 rfl (lv_at hl 1 rfl) ?_
                refine lv_iconst (v := iI (0)) hE.1 hE.2.1 dX4_readMark_138 (by decide) ?_
                refine lv_bipush (v := iI (8)) hE.1 hE.2.1 dX4_readMark_139 (by decide) ?_
                refine lv_iload_n hE.1 hE.2.1 dX4_readMark_141 rfl (lv_at hl 0 rfl) ?_
                refine x_vi (nn := 3) (As := [.int (iI (0)), .int (iI (8)), .int (iI (z1))]) (rest := [.int (iI (z_1)), .ref (ad 15)]) hE hK hN hP hS (s_X4_takeNumber_1 l D K ad mm N hNN v110 ar110 al110 hI  (0) (by omega) (8) (by omega) (z1) (by omega)) (x_recv hK hP 1 (Nat.lt_of_lt_of_le (by decide) hNN) (xG_4 rfl) rfl) rfl mw_619 mw_621 mw_7 mw_115 mw_622 (by decide +kernel) ⟨by decide, by decide⟩ hl.1 rfl (Nat.le_of_ble_eq_true rfl) ⟨Nat.zero_le _, Nat.zero_le _⟩ dX4_readMark_142 (fun r111 v111 ar111 al111 H locs hq111 hP hS => ?_)
                obtain ⟨⟨z111, hz111, rfl⟩, hI, hq111⟩ := hq111
                have hI : XI v111 := hI
                refine x_iast (j := iI (z_1)) hE hK hN hP hS 15 (Nat.lt_of_lt_of_le (by decide) hNN) (fun _ => xG_10 rfl) (iI_in (n := 9) (by omega)) dX4_readMark_145 (fun ar112 H locs ha112 hP hS => ?_)
                refine lv_aload_n hE.1 hE.2.1 dX4_readMark_146 rfl (lv_at hl 1 rfl) ?_
                refine va_ldcS (index := 137) (q := tk 9) hE.1 hE.2.1 hE.2.2.2.1 (show vk_R "TaleCourt$Reader" 137 "within" (tk 9) s from hTR 9 (by decide)) dX4_readMark_147 ?_
                refine x_vvB (nn := 1) (As := [.ref (tk 9)]) (rest := []) hE hK hN hP hS (s_X4_takeWord_1_1009 l D K ad mm N hNN v111 ar112 al111 hI tk tv  ) tw_blind (tw_now hK hN hP hT hTR hS) (x_recv hK hP 1 (Nat.lt_of_lt_of_le (by decide) hNN) (xG_4 rfl) rfl) rfl mw_558 mw_560 mw_4 mw_115 mw_561 (by decide +kernel) ⟨by decide, by decide⟩ hl.1 rfl (Nat.le_of_ble_eq_true rfl) ⟨Nat.zero_le _, Nat.zero_le _⟩ dX4_readMark_149 (fun v113 ar113 al113 H locs hq113 hP hS => ?_)
                obtain ⟨hI, hq113⟩ := hq113
                have hI : XI v113 := hI
                refine lv_aload_n hE.1 hE.2.1 dX4_readMark_152 rfl (lv_at hl 2 rfl) ?_
                refine x_get (x := .ref (ad 16)) hE hK hP 13 (Nat.lt_of_lt_of_le (by decide) hNN) (xG_1 rfl) rfl hin1 13 (by decide) mw_227 rfl dX4_readMark_153 ?_
                refine lv_iload_n hE.1 hE.2.1 dX4_readMark_156 rfl (lv_at hl 3 rfl) ?_
                refine lv_aload_n hE.1 hE.2.1 dX4_readMark_157 rfl (lv_at hl 1 rfl) ?_
                refine lv_iconst (v := iI (1)) hE.1 hE.2.1 dX4_readMark_158 (by decide) ?_
                refine lv_bipush (v := iI (9)) hE.1 hE.2.1 dX4_readMark_159 (by decide) ?_
                refine lv_iconst (v := iI (0)) hE.1 hE.2.1 dX4_readMark_161 (by decide) ?_
                refine x_vi (nn := 3) (As := [.int (iI (1)), .int (iI (9)), .int (iI (0))]) (rest := [.int (iI (z_1)), .ref (ad 16)]) hE hK hN hP hS (s_X4_takeNumber_1 l D K ad mm N hNN v113 ar113 al113 hI  (1) (by omega) (9) (by omega) (0) (by omega)) (x_recv hK hP 1 (Nat.lt_of_lt_of_le (by decide) hNN) (xG_4 rfl) rfl) rfl mw_619 mw_621 mw_7 mw_115 mw_622 (by decide +kernel) ⟨by decide, by decide⟩ hl.1 rfl (Nat.le_of_ble_eq_true rfl) ⟨Nat.zero_le _, Nat.zero_le _⟩ dX4_readMark_162 (fun r114 v114 ar114 al114 H locs hq114 hP hS => ?_)
                obtain ⟨⟨z114, hz114, rfl⟩, hI, hq114⟩ := hq114
                have hI : XI v114 := hI
                refine x_iast (j := iI (z_1)) hE hK hN hP hS 16 (Nat.lt_of_lt_of_le (by decide) hNN) (fun _ => xG_10 rfl) (iI_in (n := 9) (by omega)) dX4_readMark_165 (fun ar115 H locs ha115 hP hS => ?_)
                refine lv_goto (tgt := 174) hE.1 hE.2.1 dX4_readMark_166 (by decide) ?_
                exact kr v114 ar115 al114 _ _ _ _ ⟨hI, fun i j h => ((hq114 i j (fun q => h (mem_sub (by decide) q))).trans ((hq113 i j (fun q => h (mem_sub (by decide) q))).trans ((hq111 i j (fun q => h (mem_sub (by decide) q))).trans ((hq110 i j (fun q => h (mem_sub (by decide) q))).trans ((hq103 i j (fun q => h (mem_sub (by decide) q))).trans ((hq85 i j (fun q => h (mem_sub (by decide) q))).trans ((hq83 i j (fun q => h (mem_sub (by decide) q))).trans (hq2 i j (fun q => h (mem_sub (by decide) q))))))))))⟩ hP hS dX4_readMark_174
          · skip
            refine lv_aload_n hE.1 hE.2.1 dX4_readMark_92 rfl (lv_at hl 2 rfl) ?_
            refine lv_dup hE.1 hE.2.1 dX4_readMark_93 rfl ?_
            refine x_get (x := .int (v85 13 9)) hE hK hP 13 (Nat.lt_of_lt_of_le (by decide) hNN) (xG_1 rfl) rfl hin1 9 (by decide) mw_213 rfl dX4_readMark_94 ?_
            refine x_top (y := iI (z100)) ez100 ?_
            refine lv_iload_n hE.1 hE.2.1 dX4_readMark_97 rfl (lv_at hl 0 rfl) ?_
            refine lv_ior hE.1 hE.2.1 dX4_readMark_98 ?_
            obtain ⟨z116, hz116, ez116⟩ := iI_of (iI (z100) ||| iI (z1))
            refine x_top ez116 ?_
            refine x_put (x := iI (z116)) hE hK hN hP hS 13 (Nat.lt_of_lt_of_le (by decide) hNN) (xG_1 rfl) rfl hin1 tyX1 tyX1_ok nmX1 9 (by decide) mw_213 rfl rfl rfl (Nat.le_of_ble_eq_true rfl) (xG_1 rfl) dX4_readMark_99 (fun v117 H locs hv117 hP hS => ?_)
            have hI := XI_putN hI hv117 (by decide)
            refine lv_aload_n hE.1 hE.2.1 dX4_readMark_102 rfl (lv_at hl 1 rfl) ?_
            refine x_vv (nn := 0) (As := []) (rest := []) hE hK hN hP hS (s_X4_step_1 l D K ad mm N hNN v117 ar85 al85 hI  ) (x_recv hK hP 1 (Nat.lt_of_lt_of_le (by decide) hNN) (xG_4 rfl) rfl) rfl mw_538 mw_540 mw_0 mw_115 mw_541 (by decide +kernel) ⟨by decide, by decide⟩ hl.1 rfl (Nat.le_of_ble_eq_true rfl) ⟨Nat.zero_le _, Nat.zero_le _⟩ dX4_readMark_103 (fun v118 ar118 al118 H locs hq118 hP hS => ?_)
            obtain ⟨hI, hq118⟩ := hq118
            have hI : XI v118 := hI
            refine lv_goto (tgt := 174) hE.1 hE.2.1 dX4_readMark_106 (by decide) ?_
            exact kr v118 ar118 al118 _ _ _ _ ⟨hI, fun i j h => ((hq118 i j (fun q => h (mem_sub (by decide) q))).trans ((up_oth hv117 (fun q => h (by rcases q with ⟨rfl, rfl⟩; decide))).trans ((hq85 i j (fun q => h (mem_sub (by decide) q))).trans ((hq83 i j (fun q => h (mem_sub (by decide) q))).trans (hq2 i j (fun q => h (mem_sub (by decide) q)))))))⟩ hP hS dX4_readMark_174
      · skip
        refine lv_aload_n hE.1 hE.2.1 dX4_readMark_48 rfl (lv_at hl 2 rfl) ?_
        obtain ⟨z119, hz119, ez119⟩ := iI_of (v83 13 8)
        refine x_get (x := .int (v83 13 8)) hE hK hP 13 (Nat.lt_of_lt_of_le (by decide) hNN) (xG_1 rfl) rfl hin1 8 (by decide) mw_209 rfl dX4_readMark_49 ?_
        refine x_top (y := iI (z119)) ez119 ?_
        refine lv_iload_n hE.1 hE.2.1 dX4_readMark_52 rfl (lv_at hl 0 rfl) ?_
        refine lv_iand hE.1 hE.2.1 dX4_readMark_53 ?_
        obtain ⟨z120, hz120, ez120⟩ := iI_of (iI (z119) &&& iI (z1))
        refine x_top ez120 ?_
        refine s_if_ne (a := z120) (tgt := 74) hE.1 hE.2.1 (by omega) dX4_readMark_54 (by decide) (fun c121 => ?_) (fun c121 => ?_)
        · skip
          refine lv_aload_n hE.1 hE.2.1 dX4_readMark_74 rfl (lv_at hl 1 rfl) ?_
          refine va_ldcS (index := 128) (q := tk 7) hE.1 hE.2.1 hE.2.2.2.1 (show vk_R "TaleCourt$Reader" 128 "song" (tk 7) s from hTR 7 (by decide)) dX4_readMark_75 ?_
          refine x_viB (nn := 1) (As := [.ref (tk 7)]) (rest := []) hE hK hN hP hS (s_X4_isWord_1_1007 l D K ad mm N hNN v83 ar83 al83 hI tk tv  ) tw_blind (tw_now hK hN hP hT hTR hS) (x_recv hK hP 1 (Nat.lt_of_lt_of_le (by decide) hNN) (xG_4 rfl) rfl) rfl mw_562 mw_564 mw_5 mw_115 mw_565 (by decide +kernel) ⟨by decide, by decide⟩ hl.1 rfl (Nat.le_of_ble_eq_true rfl) ⟨Nat.zero_le _, Nat.zero_le _⟩ dX4_readMark_77 (fun r122 v122 ar122 al122 H locs hq122 hP hS => ?_)
          obtain ⟨⟨z122, hz122, rfl⟩, hI, hq122⟩ := hq122
          have hI : XI v122 := hI
          refine s_if_eq (a := z122) (tgt := 109) hE.1 hE.2.1 (by omega) dX4_readMark_80 (by decide) (fun c123 => ?_) (fun c123 => ?_)
          · skip
            refine lv_aload_n hE.1 hE.2.1 dX4_readMark_109 rfl (lv_at hl 1 rfl) ?_
            refine va_ldcS (index := 133) (q := tk 8) hE.1 hE.2.1 hE.2.2.2.1 (show vk_R "TaleCourt$Reader" 133 "owes" (tk 8) s from hTR 8 (by decide)) dX4_readMark_110 ?_
            refine x_viB (nn := 1) (As := [.ref (tk 8)]) (rest := []) hE hK hN hP hS (s_X4_isWord_1_1008 l D K ad mm N hNN v122 ar122 al122 hI tk tv  ) tw_blind (tw_now hK hN hP hT hTR hS) (x_recv hK hP 1 (Nat.lt_of_lt_of_le (by decide) hNN) (xG_4 rfl) rfl) rfl mw_562 mw_564 mw_5 mw_115 mw_565 (by decide +kernel) ⟨by decide, by decide⟩ hl.1 rfl (Nat.le_of_ble_eq_true rfl) ⟨Nat.zero_le _, Nat.zero_le _⟩ dX4_readMark_112 (fun r124 v124 ar124 al124 H locs hq124 hP hS => ?_)
            obtain ⟨⟨z124, hz124, rfl⟩, hI, hq124⟩ := hq124
            have hI : XI v124 := hI
            refine s_if_eq (a := z124) (tgt := 169) hE.1 hE.2.1 (by omega) dX4_readMark_115 (by decide) (fun c125 => ?_) (fun c125 => ?_)
            · skip
              refine lv_aload_n hE.1 hE.2.1 dX4_readMark_169 rfl (lv_at hl 1 rfl) ?_
              refine lv_iconst (v := iI (1)) hE.1 hE.2.1 dX4_readMark_170 (by decide) ?_
              refine x_vv (nn := 1) (As := [.int (iI (1))]) (rest := []) hE hK hN hP hS (s_X4_fail_1 l D K ad mm N hNN v124 ar124 al124 hI  (1) (by omega)) (x_recv hK hP 1 (Nat.lt_of_lt_of_le (by decide) hNN) (xG_4 rfl) rfl) rfl mw_614 mw_616 mw_6 mw_115 mw_617 (by decide +kernel) ⟨by decide, by decide⟩ hl.1 rfl (Nat.le_of_ble_eq_true rfl) ⟨Nat.zero_le _, Nat.zero_le _⟩ dX4_readMark_171 (fun v126 ar126 al126 H locs hq126 hP hS => ?_)
              obtain ⟨hI, hq126⟩ := hq126
              have hI : XI v126 := hI
              exact kr v126 ar126 al126 _ _ _ _ ⟨hI, fun i j h => ((hq126 i j (fun q => h (mem_sub (by decide) q))).trans ((hq124 i j (fun q => h (mem_sub (by decide) q))).trans ((hq122 i j (fun q => h (mem_sub (by decide) q))).trans ((hq83 i j (fun q => h (mem_sub (by decide) q))).trans (hq2 i j (fun q => h (mem_sub (by decide) q)))))))⟩ hP hS dX4_readMark_174
            · skip
              refine lv_aload_n hE.1 hE.2.1 dX4_readMark_118 rfl (lv_at hl 2 rfl) ?_
              refine x_get (x := .ref (ad 15)) hE hK hP 13 (Nat.lt_of_lt_of_le (by decide) hNN) (xG_1 rfl) rfl hin1 12 (by decide) mw_223 rfl dX4_readMark_119 ?_
              refine lv_iload_n hE.1 hE.2.1 dX4_readMark_122 rfl (lv_at hl 3 rfl) ?_
              refine x_iald (j := iI (z_1)) hE hK hP 15 (Nat.lt_of_lt_of_le (by decide) hNN) (xG_10 rfl) (iI_in (n := 9) (by omega)) dX4_readMark_123 ?_
              obtain ⟨z128, hz128, ez128⟩ := iI_of (ar124 15 (iI (z_1)).toNatClampNeg)
              refine x_top ez128 ?_
              refine lv_iconst (v := iI (-1)) hE.1 hE.2.1 dX4_readMark_124 (by decide) ?_
              refine s_icmp_ne (a := z128) (b := -1) (tgt := 169) hE.1 hE.2.1 (by omega) (by omega) dX4_readMark_125 (by decide) (fun c129 => ?_) (fun c129 => ?_)
              · skip
                refine lv_aload_n hE.1 hE.2.1 dX4_readMark_169 rfl (lv_at hl 1 rfl) ?_
                refine lv_iconst (v := iI (1)) hE.1 hE.2.1 dX4_readMark_170 (by decide) ?_
                refine x_vv (nn := 1) (As := [.int (iI (1))]) (rest := []) hE hK hN hP hS (s_X4_fail_1 l D K ad mm N hNN v124 ar124 al124 hI  (1) (by omega)) (x_recv hK hP 1 (Nat.lt_of_lt_of_le (by decide) hNN) (xG_4 rfl) rfl) rfl mw_614 mw_616 mw_6 mw_115 mw_617 (by decide +kernel) ⟨by decide, by decide⟩ hl.1 rfl (Nat.le_of_ble_eq_true rfl) ⟨Nat.zero_le _, Nat.zero_le _⟩ dX4_readMark_171 (fun v130 ar130 al130 H locs hq130 hP hS => ?_)
                obtain ⟨hI, hq130⟩ := hq130
                have hI : XI v130 := hI
                exact kr v130 ar130 al130 _ _ _ _ ⟨hI, fun i j h => ((hq130 i j (fun q => h (mem_sub (by decide) q))).trans ((hq124 i j (fun q => h (mem_sub (by decide) q))).trans ((hq122 i j (fun q => h (mem_sub (by decide) q))).trans ((hq83 i j (fun q => h (mem_sub (by decide) q))).trans (hq2 i j (fun q => h (mem_sub (by decide) q)))))))⟩ hP hS dX4_readMark_174
              · skip
                refine lv_aload_n hE.1 hE.2.1 dX4_readMark_128 rfl (lv_at hl 1 rfl) ?_
                refine x_vv (nn := 0) (As := []) (rest := []) hE hK hN hP hS (s_X4_step_1 l D K ad mm N hNN v124 ar124 al124 hI  ) (x_recv hK hP 1 (Nat.lt_of_lt_of_le (by decide) hNN) (xG_4 rfl) rfl) rfl mw_538 mw_540 mw_0 mw_115 mw_541 (by decide +kernel) ⟨by decide, by decide⟩ hl.1 rfl (Nat.le_of_ble_eq_true rfl) ⟨Nat.zero_le _, Nat.zero_le _⟩ dX4_readMark_129 (fun v131 ar131 al131 H locs hq131 hP hS => ?_)
                obtain ⟨hI, hq131⟩ := hq131
                have hI : XI v131 := hI
                refine lv_aload_n hE.1 hE.2.1 dX4_readMark_132 rfl (lv_at hl 2 rfl) ?_
                refine x_get (x := .ref (ad 15)) hE hK hP 13 (Nat.lt_of_lt_of_le (by decide) hNN) (xG_1 rfl) rfl hin1 12 (by decide) mw_223 rfl dX4_readMark_133 ?_
                refine lv_iload_n hE.1 hE.2.1 dX4_readMark_136 rfl (lv_at hl 3 rfl) ?_
                refine lv_aload_n hE.1 hE.2.1 dX4_readMark_137 rfl (lv_at hl 1 rfl) ?_
                refine lv_iconst (v := iI (0)) hE.1 hE.2.1 dX4_readMark_138 (by decide) ?_
                refine lv_bipush (v := iI (8)) hE.1 hE.2.1 dX4_readMark_139 (by decide) ?_
                refine lv_iload_n hE.1 hE.2.1 dX4_readMark_141 rfl (lv_at hl 0 rfl) ?_
                refine x_vi (nn := 3) (As := [.int (iI (0)), .int (iI (8)), .int (iI (z1))]) (rest := [.int (iI (z_1)), .ref (ad 15)]) hE hK hN hP hS (s_X4_takeNumber_1 l D K ad mm N hNN v131 ar131 al131 hI  (0) (by omega) (8) (by omega) (z1) (by omega)) (x_recv hK hP 1 (Nat.lt_of_lt_of_le (by decide) hNN) (xG_4 rfl) rfl) rfl mw_619 mw_621 mw_7 mw_115 mw_622 (by decide +kernel) ⟨by decide, by decide⟩ hl.1 rfl (Nat.le_of_ble_eq_true rfl) ⟨Nat.zero_le _, Nat.zero_le _⟩ dX4_readMark_142 (fun r132 v132 ar132 al132 H locs hq132 hP hS => ?_)
                obtain ⟨⟨z132, hz132, rfl⟩, hI, hq132⟩ := hq132
                have hI : XI v132 := hI
                refine x_iast (j := iI (z_1)) hE hK hN hP hS 15 (Nat.lt_of_lt_of_le (by decide) hNN) (fun _ => xG_10 rfl) (iI_in (n := 9) (by omega)) dX4_readMark_145 (fun ar133 H locs ha133 hP hS => ?_)
                refine lv_aload_n hE.1 hE.2.1 dX4_readMark_146 rfl (lv_at hl 1 rfl) ?_
                refine va_ldcS (index := 137) (q := tk 9) hE.1 hE.2.1 hE.2.2.2.1 (show vk_R "TaleCourt$Reader" 137 "within" (tk 9) s from hTR 9 (by decide)) dX4_readMark_147 ?_
                refine x_vvB (nn := 1) (As := [.ref (tk 9)]) (rest := []) hE hK hN hP hS (s_X4_takeWord_1_1009 l D K ad mm N hNN v132 ar133 al132 hI tk tv  ) tw_blind (tw_now hK hN hP hT hTR hS) (x_recv hK hP 1 (Nat.lt_of_lt_of_le (by decide) hNN) (xG_4 rfl) rfl) rfl mw_558 mw_560 mw_4 mw_115 mw_561 (by decide +kernel) ⟨by decide, by decide⟩ hl.1 rfl (Nat.le_of_ble_eq_true rfl) ⟨Nat.zero_le _, Nat.zero_le _⟩ dX4_readMark_149 (fun v134 ar134 al134 H locs hq134 hP hS => ?_)
                obtain ⟨hI, hq134⟩ := hq134
                have hI : XI v134 := hI
                refine lv_aload_n hE.1 hE.2.1 dX4_readMark_152 rfl (lv_at hl 2 rfl) ?_
                refine x_get (x := .ref (ad 16)) hE hK hP 13 (Nat.lt_of_lt_of_le (by decide) hNN) (xG_1 rfl) rfl hin1 13 (by decide) mw_227 rfl dX4_readMark_153 ?_
                refine lv_iload_n hE.1 hE.2.1 dX4_readMark_156 rfl (lv_at hl 3 rfl) ?_
                refine lv_aload_n hE.1 hE.2.1 dX4_readMark_157 rfl (lv_at hl 1 rfl) ?_
                refine lv_iconst (v := iI (1)) hE.1 hE.2.1 dX4_readMark_158 (by decide) ?_
                refine lv_bipush (v := iI (9)) hE.1 hE.2.1 dX4_readMark_159 (by decide) ?_
                refine lv_iconst (v := iI (0)) hE.1 hE.2.1 dX4_readMark_161 (by decide) ?_
                refine x_vi (nn := 3) (As := [.int (iI (1)), .int (iI (9)), .int (iI (0))]) (rest := [.int (iI (z_1)), .ref (ad 16)]) hE hK hN hP hS (s_X4_takeNumber_1 l D K ad mm N hNN v134 ar134 al134 hI  (1) (by omega) (9) (by omega) (0) (by omega)) (x_recv hK hP 1 (Nat.lt_of_lt_of_le (by decide) hNN) (xG_4 rfl) rfl) rfl mw_619 mw_621 mw_7 mw_115 mw_622 (by decide +kernel) ⟨by decide, by decide⟩ hl.1 rfl (Nat.le_of_ble_eq_true rfl) ⟨Nat.zero_le _, Nat.zero_le _⟩ dX4_readMark_162 (fun r135 v135 ar135 al135 H locs hq135 hP hS => ?_)
                obtain ⟨⟨z135, hz135, rfl⟩, hI, hq135⟩ := hq135
                have hI : XI v135 := hI
                refine x_iast (j := iI (z_1)) hE hK hN hP hS 16 (Nat.lt_of_lt_of_le (by decide) hNN) (fun _ => xG_10 rfl) (iI_in (n := 9) (by omega)) dX4_readMark_165 (fun ar136 H locs ha136 hP hS => ?_)
                refine lv_goto (tgt := 174) hE.1 hE.2.1 dX4_readMark_166 (by decide) ?_
                exact kr v135 ar136 al135 _ _ _ _ ⟨hI, fun i j h => ((hq135 i j (fun q => h (mem_sub (by decide) q))).trans ((hq134 i j (fun q => h (mem_sub (by decide) q))).trans ((hq132 i j (fun q => h (mem_sub (by decide) q))).trans ((hq131 i j (fun q => h (mem_sub (by decide) q))).trans ((hq124 i j (fun q => h (mem_sub (by decide) q))).trans ((hq122 i j (fun q => h (mem_sub (by decide) q))).trans ((hq83 i j (fun q => h (mem_sub (by decide) q))).trans (hq2 i j (fun q => h (mem_sub (by decide) q))))))))))⟩ hP hS dX4_readMark_174
          · skip
            refine lv_aload_n hE.1 hE.2.1 dX4_readMark_83 rfl (lv_at hl 2 rfl) ?_
            obtain ⟨z137, hz137, ez137⟩ := iI_of (v122 13 9)
            refine x_get (x := .int (v122 13 9)) hE hK hP 13 (Nat.lt_of_lt_of_le (by decide) hNN) (xG_1 rfl) rfl hin1 9 (by decide) mw_213 rfl dX4_readMark_84 ?_
            refine x_top (y := iI (z137)) ez137 ?_
            refine lv_iload_n hE.1 hE.2.1 dX4_readMark_87 rfl (lv_at hl 0 rfl) ?_
            refine lv_iand hE.1 hE.2.1 dX4_readMark_88 ?_
            obtain ⟨z138, hz138, ez138⟩ := iI_of (iI (z137) &&& iI (z1))
            refine x_top ez138 ?_
            refine s_if_ne (a := z138) (tgt := 109) hE.1 hE.2.1 (by omega) dX4_readMark_89 (by decide) (fun c139 => ?_) (fun c139 => ?_)
            · skip
              refine lv_aload_n hE.1 hE.2.1 dX4_readMark_109 rfl (lv_at hl 1 rfl) ?_
              refine va_ldcS (index := 133) (q := tk 8) hE.1 hE.2.1 hE.2.2.2.1 (show vk_R "TaleCourt$Reader" 133 "owes" (tk 8) s from hTR 8 (by decide)) dX4_readMark_110 ?_
              refine x_viB (nn := 1) (As := [.ref (tk 8)]) (rest := []) hE hK hN hP hS (s_X4_isWord_1_1008 l D K ad mm N hNN v122 ar122 al122 hI tk tv  ) tw_blind (tw_now hK hN hP hT hTR hS) (x_recv hK hP 1 (Nat.lt_of_lt_of_le (by decide) hNN) (xG_4 rfl) rfl) rfl mw_562 mw_564 mw_5 mw_115 mw_565 (by decide +kernel) ⟨by decide, by decide⟩ hl.1 rfl (Nat.le_of_ble_eq_true rfl) ⟨Nat.zero_le _, Nat.zero_le _⟩ dX4_readMark_112 (fun r140 v140 ar140 al140 H locs hq140 hP hS => ?_)
              obtain ⟨⟨z140, hz140, rfl⟩, hI, hq140⟩ := hq140
              have hI : XI v140 := hI
              refine s_if_eq (a := z140) (tgt := 169) hE.1 hE.2.1 (by omega) dX4_readMark_115 (by decide) (fun c141 => ?_) (fun c141 => ?_)
              · skip
                refine lv_aload_n hE.1 hE.2.1 dX4_readMark_169 rfl (lv_at hl 1 rfl) ?_
                refine lv_iconst (v := iI (1)) hE.1 hE.2.1 dX4_readMark_170 (by decide) ?_
                refine x_vv (nn := 1) (As := [.int (iI (1))]) (rest := []) hE hK hN hP hS (s_X4_fail_1 l D K ad mm N hNN v140 ar140 al140 hI  (1) (by omega)) (x_recv hK hP 1 (Nat.lt_of_lt_of_le (by decide) hNN) (xG_4 rfl) rfl) rfl mw_614 mw_616 mw_6 mw_115 mw_617 (by decide +kernel) ⟨by decide, by decide⟩ hl.1 rfl (Nat.le_of_ble_eq_true rfl) ⟨Nat.zero_le _, Nat.zero_le _⟩ dX4_readMark_171 (fun v142 ar142 al142 H locs hq142 hP hS => ?_)
                obtain ⟨hI, hq142⟩ := hq142
                have hI : XI v142 := hI
                exact kr v142 ar142 al142 _ _ _ _ ⟨hI, fun i j h => ((hq142 i j (fun q => h (mem_sub (by decide) q))).trans ((hq140 i j (fun q => h (mem_sub (by decide) q))).trans ((hq122 i j (fun q => h (mem_sub (by decide) q))).trans ((hq83 i j (fun q => h (mem_sub (by decide) q))).trans (hq2 i j (fun q => h (mem_sub (by decide) q)))))))⟩ hP hS dX4_readMark_174
              · skip
                refine lv_aload_n hE.1 hE.2.1 dX4_readMark_118 rfl (lv_at hl 2 rfl) ?_
                refine x_get (x := .ref (ad 15)) hE hK hP 13 (Nat.lt_of_lt_of_le (by decide) hNN) (xG_1 rfl) rfl hin1 12 (by decide) mw_223 rfl dX4_readMark_119 ?_
                refine lv_iload_n hE.1 hE.2.1 dX4_readMark_122 rfl (lv_at hl 3 rfl) ?_
                refine x_iald (j := iI (z_1)) hE hK hP 15 (Nat.lt_of_lt_of_le (by decide) hNN) (xG_10 rfl) (iI_in (n := 9) (by omega)) dX4_readMark_123 ?_
                obtain ⟨z144, hz144, ez144⟩ := iI_of (ar140 15 (iI (z_1)).toNatClampNeg)
                refine x_top ez144 ?_
                refine lv_iconst (v := iI (-1)) hE.1 hE.2.1 dX4_readMark_124 (by decide) ?_
                refine s_icmp_ne (a := z144) (b := -1) (tgt := 169) hE.1 hE.2.1 (by omega) (by omega) dX4_readMark_125 (by decide) (fun c145 => ?_) (fun c145 => ?_)
                · skip
                  refine lv_aload_n hE.1 hE.2.1 dX4_readMark_169 rfl (lv_at hl 1 rfl) ?_
                  refine lv_iconst (v := iI (1)) hE.1 hE.2.1 dX4_readMark_170 (by decide) ?_
                  refine x_vv (nn := 1) (As := [.int (iI (1))]) (rest := []) hE hK hN hP hS (s_X4_fail_1 l D K ad mm N hNN v140 ar140 al140 hI  (1) (by omega)) (x_recv hK hP 1 (Nat.lt_of_lt_of_le (by decide) hNN) (xG_4 rfl) rfl) rfl mw_614 mw_616 mw_6 mw_115 mw_617 (by decide +kernel) ⟨by decide, by decide⟩ hl.1 rfl (Nat.le_of_ble_eq_true rfl) ⟨Nat.zero_le _, Nat.zero_le _⟩ dX4_readMark_171 (fun v146 ar146 al146 H locs hq146 hP hS => ?_)
                  obtain ⟨hI, hq146⟩ := hq146
                  have hI : XI v146 := hI
                  exact kr v146 ar146 al146 _ _ _ _ ⟨hI, fun i j h => ((hq146 i j (fun q => h (mem_sub (by decide) q))).trans ((hq140 i j (fun q => h (mem_sub (by decide) q))).trans ((hq122 i j (fun q => h (mem_sub (by decide) q))).trans ((hq83 i j (fun q => h (mem_sub (by decide) q))).trans (hq2 i j (fun q => h (mem_sub (by decide) q)))))))⟩ hP hS dX4_readMark_174
                · skip
                  refine lv_aload_n hE.1 hE.2.1 dX4_readMark_128 rfl (lv_at hl 1 rfl) ?_
                  refine x_vv (nn := 0) (As := []) (rest := []) hE hK hN hP hS (s_X4_step_1 l D K ad mm N hNN v140 ar140 al140 hI  ) (x_recv hK hP 1 (Nat.lt_of_lt_of_le (by decide) hNN) (xG_4 rfl) rfl) rfl mw_538 mw_540 mw_0 mw_115 mw_541 (by decide +kernel) ⟨by decide, by decide⟩ hl.1 rfl (Nat.le_of_ble_eq_true rfl) ⟨Nat.zero_le _, Nat.zero_le _⟩ dX4_readMark_129 (fun v147 ar147 al147 H locs hq147 hP hS => ?_)
                  obtain ⟨hI, hq147⟩ := hq147
                  have hI : XI v147 := hI
                  refine lv_aload_n hE.1 hE.2.1 dX4_readMark_132 rfl (lv_at hl 2 rfl) ?_
                  refine x_get (x := .ref (ad 15)) hE hK hP 13 (Nat.lt_of_lt_of_le (by decide) hNN) (xG_1 rfl) rfl hin1 12 (by decide) mw_223 rfl dX4_readMark_133 ?_
                  refine lv_iload_n hE.1 hE.2.1 dX4_readMark_136 rfl (lv_at hl 3 rfl) ?_
                  refine lv_aload_n hE.1 hE.2.1 dX4_readMark_137 rfl (lv_at hl 1 rfl) ?_
                  refine lv_iconst (v := iI (0)) hE.1 hE.2.1 dX4_readMark_138 (by decide) ?_
                  refine lv_bipush (v := iI (8)) hE.1 hE.2.1 dX4_readMark_139 (by decide) ?_
                  refine lv_iload_n hE.1 hE.2.1 dX4_readMark_141 rfl (lv_at hl 0 rfl) ?_
                  refine x_vi (nn := 3) (As := [.int (iI (0)), .int (iI (8)), .int (iI (z1))]) (rest := [.int (iI (z_1)), .ref (ad 15)]) hE hK hN hP hS (s_X4_takeNumber_1 l D K ad mm N hNN v147 ar147 al147 hI  (0) (by omega) (8) (by omega) (z1) (by omega)) (x_recv hK hP 1 (Nat.lt_of_lt_of_le (by decide) hNN) (xG_4 rfl) rfl) rfl mw_619 mw_621 mw_7 mw_115 mw_622 (by decide +kernel) ⟨by decide, by decide⟩ hl.1 rfl (Nat.le_of_ble_eq_true rfl) ⟨Nat.zero_le _, Nat.zero_le _⟩ dX4_readMark_142 (fun r148 v148 ar148 al148 H locs hq148 hP hS => ?_)
                  obtain ⟨⟨z148, hz148, rfl⟩, hI, hq148⟩ := hq148
                  have hI : XI v148 := hI
                  refine x_iast (j := iI (z_1)) hE hK hN hP hS 15 (Nat.lt_of_lt_of_le (by decide) hNN) (fun _ => xG_10 rfl) (iI_in (n := 9) (by omega)) dX4_readMark_145 (fun ar149 H locs ha149 hP hS => ?_)
                  refine lv_aload_n hE.1 hE.2.1 dX4_readMark_146 rfl (lv_at hl 1 rfl) ?_
                  refine va_ldcS (index := 137) (q := tk 9) hE.1 hE.2.1 hE.2.2.2.1 (show vk_R "TaleCourt$Reader" 137 "within" (tk 9) s from hTR 9 (by decide)) dX4_readMark_147 ?_
                  refine x_vvB (nn := 1) (As := [.ref (tk 9)]) (rest := []) hE hK hN hP hS (s_X4_takeWord_1_1009 l D K ad mm N hNN v148 ar149 al148 hI tk tv  ) tw_blind (tw_now hK hN hP hT hTR hS) (x_recv hK hP 1 (Nat.lt_of_lt_of_le (by decide) hNN) (xG_4 rfl) rfl) rfl mw_558 mw_560 mw_4 mw_115 mw_561 (by decide +kernel) ⟨by decide, by decide⟩ hl.1 rfl (Nat.le_of_ble_eq_true rfl) ⟨Nat.zero_le _, Nat.zero_le _⟩ dX4_readMark_149 (fun v150 ar150 al150 H locs hq150 hP hS => ?_)
                  obtain ⟨hI, hq150⟩ := hq150
                  have hI : XI v150 := hI
                  refine lv_aload_n hE.1 hE.2.1 dX4_readMark_152 rfl (lv_at hl 2 rfl) ?_
                  refine x_get (x := .ref (ad 16)) hE hK hP 13 (Nat.lt_of_lt_of_le (by decide) hNN) (xG_1 rfl) rfl hin1 13 (by decide) mw_227 rfl dX4_readMark_153 ?_
                  refine lv_iload_n hE.1 hE.2.1 dX4_readMark_156 rfl (lv_at hl 3 rfl) ?_
                  refine lv_aload_n hE.1 hE.2.1 dX4_readMark_157 rfl (lv_at hl 1 rfl) ?_
                  refine lv_iconst (v := iI (1)) hE.1 hE.2.1 dX4_readMark_158 (by decide) ?_
                  refine lv_bipush (v := iI (9)) hE.1 hE.2.1 dX4_readMark_159 (by decide) ?_
                  refine lv_iconst (v := iI (0)) hE.1 hE.2.1 dX4_readMark_161 (by decide) ?_
                  refine x_vi (nn := 3) (As := [.int (iI (1)), .int (iI (9)), .int (iI (0))]) (rest := [.int (iI (z_1)), .ref (ad 16)]) hE hK hN hP hS (s_X4_takeNumber_1 l D K ad mm N hNN v150 ar150 al150 hI  (1) (by omega) (9) (by omega) (0) (by omega)) (x_recv hK hP 1 (Nat.lt_of_lt_of_le (by decide) hNN) (xG_4 rfl) rfl) rfl mw_619 mw_621 mw_7 mw_115 mw_622 (by decide +kernel) ⟨by decide, by decide⟩ hl.1 rfl (Nat.le_of_ble_eq_true rfl) ⟨Nat.zero_le _, Nat.zero_le _⟩ dX4_readMark_162 (fun r151 v151 ar151 al151 H locs hq151 hP hS => ?_)
                  obtain ⟨⟨z151, hz151, rfl⟩, hI, hq151⟩ := hq151
                  have hI : XI v151 := hI
                  refine x_iast (j := iI (z_1)) hE hK hN hP hS 16 (Nat.lt_of_lt_of_le (by decide) hNN) (fun _ => xG_10 rfl) (iI_in (n := 9) (by omega)) dX4_readMark_165 (fun ar152 H locs ha152 hP hS => ?_)
                  refine lv_goto (tgt := 174) hE.1 hE.2.1 dX4_readMark_166 (by decide) ?_
                  exact kr v151 ar152 al151 _ _ _ _ ⟨hI, fun i j h => ((hq151 i j (fun q => h (mem_sub (by decide) q))).trans ((hq150 i j (fun q => h (mem_sub (by decide) q))).trans ((hq148 i j (fun q => h (mem_sub (by decide) q))).trans ((hq147 i j (fun q => h (mem_sub (by decide) q))).trans ((hq140 i j (fun q => h (mem_sub (by decide) q))).trans ((hq122 i j (fun q => h (mem_sub (by decide) q))).trans ((hq83 i j (fun q => h (mem_sub (by decide) q))).trans (hq2 i j (fun q => h (mem_sub (by decide) q))))))))))⟩ hP hS dX4_readMark_174
            · skip
              refine lv_aload_n hE.1 hE.2.1 dX4_readMark_92 rfl (lv_at hl 2 rfl) ?_
              refine lv_dup hE.1 hE.2.1 dX4_readMark_93 rfl ?_
              refine x_get (x := .int (v122 13 9)) hE hK hP 13 (Nat.lt_of_lt_of_le (by decide) hNN) (xG_1 rfl) rfl hin1 9 (by decide) mw_213 rfl dX4_readMark_94 ?_
              refine x_top (y := iI (z137)) ez137 ?_
              refine lv_iload_n hE.1 hE.2.1 dX4_readMark_97 rfl (lv_at hl 0 rfl) ?_
              refine lv_ior hE.1 hE.2.1 dX4_readMark_98 ?_
              obtain ⟨z153, hz153, ez153⟩ := iI_of (iI (z137) ||| iI (z1))
              refine x_top ez153 ?_
              refine x_put (x := iI (z153)) hE hK hN hP hS 13 (Nat.lt_of_lt_of_le (by decide) hNN) (xG_1 rfl) rfl hin1 tyX1 tyX1_ok nmX1 9 (by decide) mw_213 rfl rfl rfl (Nat.le_of_ble_eq_true rfl) (xG_1 rfl) dX4_readMark_99 (fun v154 H locs hv154 hP hS => ?_)
              have hI := XI_putN hI hv154 (by decide)
              refine lv_aload_n hE.1 hE.2.1 dX4_readMark_102 rfl (lv_at hl 1 rfl) ?_
              refine x_vv (nn := 0) (As := []) (rest := []) hE hK hN hP hS (s_X4_step_1 l D K ad mm N hNN v154 ar122 al122 hI  ) (x_recv hK hP 1 (Nat.lt_of_lt_of_le (by decide) hNN) (xG_4 rfl) rfl) rfl mw_538 mw_540 mw_0 mw_115 mw_541 (by decide +kernel) ⟨by decide, by decide⟩ hl.1 rfl (Nat.le_of_ble_eq_true rfl) ⟨Nat.zero_le _, Nat.zero_le _⟩ dX4_readMark_103 (fun v155 ar155 al155 H locs hq155 hP hS => ?_)
              obtain ⟨hI, hq155⟩ := hq155
              have hI : XI v155 := hI
              refine lv_goto (tgt := 174) hE.1 hE.2.1 dX4_readMark_106 (by decide) ?_
              exact kr v155 ar155 al155 _ _ _ _ ⟨hI, fun i j h => ((hq155 i j (fun q => h (mem_sub (by decide) q))).trans ((up_oth hv154 (fun q => h (by rcases q with ⟨rfl, rfl⟩; decide))).trans ((hq122 i j (fun q => h (mem_sub (by decide) q))).trans ((hq83 i j (fun q => h (mem_sub (by decide) q))).trans (hq2 i j (fun q => h (mem_sub (by decide) q)))))))⟩ hP hS dX4_readMark_174
        · skip
          refine lv_aload_n hE.1 hE.2.1 dX4_readMark_57 rfl (lv_at hl 2 rfl) ?_
          refine lv_dup hE.1 hE.2.1 dX4_readMark_58 rfl ?_
          refine x_get (x := .int (v83 13 8)) hE hK hP 13 (Nat.lt_of_lt_of_le (by decide) hNN) (xG_1 rfl) rfl hin1 8 (by decide) mw_209 rfl dX4_readMark_59 ?_
          refine x_top (y := iI (z119)) ez119 ?_
          refine lv_iload_n hE.1 hE.2.1 dX4_readMark_62 rfl (lv_at hl 0 rfl) ?_
          refine lv_ior hE.1 hE.2.1 dX4_readMark_63 ?_
          obtain ⟨z156, hz156, ez156⟩ := iI_of (iI (z119) ||| iI (z1))
          refine x_top ez156 ?_
          refine x_put (x := iI (z156)) hE hK hN hP hS 13 (Nat.lt_of_lt_of_le (by decide) hNN) (xG_1 rfl) rfl hin1 tyX1 tyX1_ok nmX1 8 (by decide) mw_209 rfl rfl rfl (Nat.le_of_ble_eq_true rfl) (xG_1 rfl) dX4_readMark_64 (fun v157 H locs hv157 hP hS => ?_)
          have hI := XI_putN hI hv157 (by decide)
          refine lv_aload_n hE.1 hE.2.1 dX4_readMark_67 rfl (lv_at hl 1 rfl) ?_
          refine x_vv (nn := 0) (As := []) (rest := []) hE hK hN hP hS (s_X4_step_1 l D K ad mm N hNN v157 ar83 al83 hI  ) (x_recv hK hP 1 (Nat.lt_of_lt_of_le (by decide) hNN) (xG_4 rfl) rfl) rfl mw_538 mw_540 mw_0 mw_115 mw_541 (by decide +kernel) ⟨by decide, by decide⟩ hl.1 rfl (Nat.le_of_ble_eq_true rfl) ⟨Nat.zero_le _, Nat.zero_le _⟩ dX4_readMark_68 (fun v158 ar158 al158 H locs hq158 hP hS => ?_)
          obtain ⟨hI, hq158⟩ := hq158
          have hI : XI v158 := hI
          refine lv_goto (tgt := 174) hE.1 hE.2.1 dX4_readMark_71 (by decide) ?_
          exact kr v158 ar158 al158 _ _ _ _ ⟨hI, fun i j h => ((hq158 i j (fun q => h (mem_sub (by decide) q))).trans ((up_oth hv157 (fun q => h (by rcases q with ⟨rfl, rfl⟩; decide))).trans ((hq83 i j (fun q => h (mem_sub (by decide) q))).trans (hq2 i j (fun q => h (mem_sub (by decide) q))))))⟩ hP hS dX4_readMark_174
    · skip
      refine lv_aload_n hE.1 hE.2.1 dX4_readMark_22 rfl (lv_at hl 2 rfl) ?_
      refine lv_dup hE.1 hE.2.1 dX4_readMark_23 rfl ?_
      refine x_get (x := .int (v2 13 7)) hE hK hP 13 (Nat.lt_of_lt_of_le (by decide) hNN) (xG_1 rfl) rfl hin1 7 (by decide) mw_205 rfl dX4_readMark_24 ?_
      refine x_top (y := iI (z80)) ez80 ?_
      refine lv_iload_n hE.1 hE.2.1 dX4_readMark_27 rfl (lv_at hl 0 rfl) ?_
      refine lv_ior hE.1 hE.2.1 dX4_readMark_28 ?_
      obtain ⟨z159, hz159, ez159⟩ := iI_of (iI (z80) ||| iI (z1))
      refine x_top ez159 ?_
      refine x_put (x := iI (z159)) hE hK hN hP hS 13 (Nat.lt_of_lt_of_le (by decide) hNN) (xG_1 rfl) rfl hin1 tyX1 tyX1_ok nmX1 7 (by decide) mw_205 rfl rfl rfl (Nat.le_of_ble_eq_true rfl) (xG_1 rfl) dX4_readMark_29 (fun v160 H locs hv160 hP hS => ?_)
      have hI := XI_putN hI hv160 (by decide)
      refine lv_aload_n hE.1 hE.2.1 dX4_readMark_32 rfl (lv_at hl 1 rfl) ?_
      refine x_vv (nn := 0) (As := []) (rest := []) hE hK hN hP hS (s_X4_step_1 l D K ad mm N hNN v160 ar2 al2 hI  ) (x_recv hK hP 1 (Nat.lt_of_lt_of_le (by decide) hNN) (xG_4 rfl) rfl) rfl mw_538 mw_540 mw_0 mw_115 mw_541 (by decide +kernel) ⟨by decide, by decide⟩ hl.1 rfl (Nat.le_of_ble_eq_true rfl) ⟨Nat.zero_le _, Nat.zero_le _⟩ dX4_readMark_33 (fun v161 ar161 al161 H locs hq161 hP hS => ?_)
      obtain ⟨hI, hq161⟩ := hq161
      have hI : XI v161 := hI
      refine lv_goto (tgt := 174) hE.1 hE.2.1 dX4_readMark_36 (by decide) ?_
      exact kr v161 ar161 al161 _ _ _ _ ⟨hI, fun i j h => ((hq161 i j (fun q => h (mem_sub (by decide) q))).trans ((up_oth hv160 (fun q => h (by rcases q with ⟨rfl, rfl⟩; decide))).trans (hq2 i j (fun q => h (mem_sub (by decide) q)))))⟩ hP hS dX4_readMark_174

theorem dX4_readMotif_0 : decode cX4_readMotif 0 = .ok (.aload_n 1, 1) := by decide +kernel
theorem dX4_readMotif_1 : decode cX4_readMotif 1 = .ok (.getfield 78, 3) := by decide +kernel
theorem dX4_readMotif_4 : decode cX4_readMotif 4 = .ok (.istore_n 2, 1) := by decide +kernel
theorem dX4_readMotif_5 : decode cX4_readMotif 5 = .ok (.iload_n 2, 1) := by decide +kernel
theorem dX4_readMotif_6 : decode cX4_readMotif 6 = .ok (.bipush 9, 2) := by decide +kernel
theorem dX4_readMotif_8 : decode cX4_readMotif 8 = .ok (.if_icmp .lt 9, 3) := by decide +kernel
theorem dX4_readMotif_11 : decode cX4_readMotif 11 = .ok (.aload_n 0, 1) := by decide +kernel
theorem dX4_readMotif_12 : decode cX4_readMotif 12 = .ok (.iconst 3, 1) := by decide +kernel
theorem dX4_readMotif_13 : decode cX4_readMotif 13 = .ok (.invokevirtual 90, 3) := by decide +kernel
theorem dX4_readMotif_16 : decode cX4_readMotif 16 = .ok (.return_, 1) := by decide +kernel
theorem dX4_readMotif_17 : decode cX4_readMotif 17 = .ok (.aload_n 0, 1) := by decide +kernel
theorem dX4_readMotif_18 : decode cX4_readMotif 18 = .ok (.invokevirtual 33, 3) := by decide +kernel
theorem dX4_readMotif_21 : decode cX4_readMotif 21 = .ok (.aload_n 0, 1) := by decide +kernel
theorem dX4_readMotif_22 : decode cX4_readMotif 22 = .ok (.ldc 109, 2) := by decide +kernel
theorem dX4_readMotif_24 : decode cX4_readMotif 24 = .ok (.invokevirtual 96, 3) := by decide +kernel
theorem dX4_readMotif_27 : decode cX4_readMotif 27 = .ok (.aload_n 1, 1) := by decide +kernel
theorem dX4_readMotif_28 : decode cX4_readMotif 28 = .ok (.getfield 111, 3) := by decide +kernel
theorem dX4_readMotif_31 : decode cX4_readMotif 31 = .ok (.iload_n 2, 1) := by decide +kernel
theorem dX4_readMotif_32 : decode cX4_readMotif 32 = .ok (.aload_n 0, 1) := by decide +kernel
theorem dX4_readMotif_33 : decode cX4_readMotif 33 = .ok (.iconst 0, 1) := by decide +kernel
theorem dX4_readMotif_34 : decode cX4_readMotif 34 = .ok (.bipush 9, 2) := by decide +kernel
theorem dX4_readMotif_36 : decode cX4_readMotif 36 = .ok (.iconst 0, 1) := by decide +kernel
theorem dX4_readMotif_37 : decode cX4_readMotif 37 = .ok (.invokevirtual 81, 3) := by decide +kernel
theorem dX4_readMotif_40 : decode cX4_readMotif 40 = .ok (.iastore, 1) := by decide +kernel
theorem dX4_readMotif_41 : decode cX4_readMotif 41 = .ok (.iconst 0, 1) := by decide +kernel
theorem dX4_readMotif_42 : decode cX4_readMotif 42 = .ok (.istore_n 3, 1) := by decide +kernel
theorem dX4_readMotif_43 : decode cX4_readMotif 43 = .ok (.iload_n 3, 1) := by decide +kernel
theorem dX4_readMotif_44 : decode cX4_readMotif 44 = .ok (.iconst 4, 1) := by decide +kernel
theorem dX4_readMotif_45 : decode cX4_readMotif 45 = .ok (.if_icmp .gt 30, 3) := by decide +kernel
theorem dX4_readMotif_48 : decode cX4_readMotif 48 = .ok (.aload_n 0, 1) := by decide +kernel
theorem dX4_readMotif_49 : decode cX4_readMotif 49 = .ok (.getfield 27, 3) := by decide +kernel
theorem dX4_readMotif_52 : decode cX4_readMotif 52 = .ok (.ifCond .ne 23, 3) := by decide +kernel
theorem dX4_readMotif_55 : decode cX4_readMotif 55 = .ok (.aload_n 0, 1) := by decide +kernel
theorem dX4_readMotif_56 : decode cX4_readMotif 56 = .ok (.getfield 36, 3) := by decide +kernel
theorem dX4_readMotif_59 : decode cX4_readMotif 59 = .ok (.iconst 4, 1) := by decide +kernel
theorem dX4_readMotif_60 : decode cX4_readMotif 60 = .ok (.if_icmp .eq 15, 3) := by decide +kernel
theorem dX4_readMotif_63 : decode cX4_readMotif 63 = .ok (.aload_n 0, 1) := by decide +kernel
theorem dX4_readMotif_64 : decode cX4_readMotif 64 = .ok (.aload_n 1, 1) := by decide +kernel
theorem dX4_readMotif_65 : decode cX4_readMotif 65 = .ok (.iload_n 2, 1) := by decide +kernel
theorem dX4_readMotif_66 : decode cX4_readMotif 66 = .ok (.invokevirtual 114, 3) := by decide +kernel
theorem dX4_readMotif_69 : decode cX4_readMotif 69 = .ok (.iinc 3 1, 3) := by decide +kernel
theorem dX4_readMotif_72 : decode cX4_readMotif 72 = .ok (.goto (-29), 3) := by decide +kernel
theorem dX4_readMotif_75 : decode cX4_readMotif 75 = .ok (.aload_n 1, 1) := by decide +kernel
theorem dX4_readMotif_76 : decode cX4_readMotif 76 = .ok (.dup, 1) := by decide +kernel
theorem dX4_readMotif_77 : decode cX4_readMotif 77 = .ok (.getfield 78, 3) := by decide +kernel
theorem dX4_readMotif_80 : decode cX4_readMotif 80 = .ok (.iconst 1, 1) := by decide +kernel
theorem dX4_readMotif_81 : decode cX4_readMotif 81 = .ok (.iadd, 1) := by decide +kernel
theorem dX4_readMotif_82 : decode cX4_readMotif 82 = .ok (.putfield 78, 3) := by decide +kernel
theorem dX4_readMotif_85 : decode cX4_readMotif 85 = .ok (.return_, 1) := by decide +kernel
set_option maxHeartbeats 4000000 in
set_option maxRecDepth 100000 in
theorem s_X4_readMotif_1_13 (l : Launch) (D : va_G) (K : Nat → ClassId) (ad : Nat → Nat) (mm : Option Nat) (N : Nat) (hNN : 132 ≤ N) (v ar : sI) (al : sL) (hI : XI v) (tk tv : Nat → Nat) : Met l yX4_readMotif (wM yX4_readMotif cX4_readMotif 4 none) (rmD 7) (va_Pc [.ref (ad 1), .ref (ad 13)] (twPre D K ad (xG ad K mm) N v ar al tk tv)) (va_Qv (fun u : sT => XI u.1 ∧ (∀ i j : Nat, (i, j) ∉ ([(1, 1), (1, 2), (1, 4), (1, 5), (1, 6), (13, 2), (13, 7), (13, 8), (13, 9)] : List (Nat × Nat)) → u.1 i j = v i j)) (wB D ad (xG ad K mm) N) (inW ad N)) 0 0 (inW ad N) := by
  refine s_metV (by decide) (Nat.le_of_ble_eq_true rfl) ?_
  intro p e s m below meth c ls args Q hE hB hl kr
  have hE : CallFix p m c cX4_readMotif 4 s args tbG "TaleCourt$Reader" := hE
  obtain ⟨⟨hP, hK, hN⟩, hT, hTR⟩ := hB
  have hS : va_S (inW ad N) s.heap s.heap [] := va_S.rf
  have hl : lv_has ls 4 [(0, .ref (ad 1)), (1, .ref (ad 13))] := hl
  refine lv_aload_n hE.1 hE.2.1 dX4_readMotif_0 rfl (lv_at hl 1 rfl) ?_
  obtain ⟨z1, hz1, ez1⟩ := XI_get hI 13 2 0 9 (by decide)
  refine x_get (x := .int (v 13 2)) hE hK hP 13 (Nat.lt_of_lt_of_le (by decide) hNN) (xG_1 rfl) rfl hin1 2 (by decide) mw_188 rfl dX4_readMotif_1 ?_
  refine x_top (y := iI (z1)) ez1 ?_
  refine lv_istore_n (lv' := [(2, .int (iI (z1))), (0, .ref (ad 1)), (1, .ref (ad 13))]) hE.1 hE.2.1 dX4_readMotif_4 rfl hl (by decide) rfl (fun ls hl => ?_)
  refine lv_iload_n hE.1 hE.2.1 dX4_readMotif_5 rfl (lv_at hl 0 rfl) ?_
  refine lv_bipush (v := iI (9)) hE.1 hE.2.1 dX4_readMotif_6 (by decide) ?_
  refine s_icmp_lt (a := z1) (b := 9) (tgt := 17) hE.1 hE.2.1 (by omega) (by omega) dX4_readMotif_8 (by decide) (fun c2 => ?_) (fun c2 => ?_)
  · skip
    refine lv_aload_n hE.1 hE.2.1 dX4_readMotif_17 rfl (lv_at hl 1 rfl) ?_
    refine x_vv (nn := 0) (As := []) (rest := []) hE hK hN hP hS (s_X4_step_1 l D K ad mm N hNN v ar al hI  ) (x_recv hK hP 1 (Nat.lt_of_lt_of_le (by decide) hNN) (xG_4 rfl) rfl) rfl mw_538 mw_540 mw_0 mw_115 mw_541 (by decide +kernel) ⟨by decide, by decide⟩ hl.1 rfl (Nat.le_of_ble_eq_true rfl) ⟨Nat.zero_le _, Nat.zero_le _⟩ dX4_readMotif_18 (fun v3 ar3 al3 H locs hq3 hP hS => ?_)
    obtain ⟨hI, hq3⟩ := hq3
    have hI : XI v3 := hI
    refine lv_aload_n hE.1 hE.2.1 dX4_readMotif_21 rfl (lv_at hl 1 rfl) ?_
    refine va_ldcS (index := 109) (q := tk 4) hE.1 hE.2.1 hE.2.2.2.1 (show vk_R "TaleCourt$Reader" 109 "worth" (tk 4) s from hTR 4 (by decide)) dX4_readMotif_22 ?_
    refine x_vvB (nn := 1) (As := [.ref (tk 4)]) (rest := []) hE hK hN hP hS (s_X4_takeWord_1_1004 l D K ad mm N hNN v3 ar3 al3 hI tk tv  ) tw_blind (tw_now hK hN hP hT hTR hS) (x_recv hK hP 1 (Nat.lt_of_lt_of_le (by decide) hNN) (xG_4 rfl) rfl) rfl mw_558 mw_560 mw_4 mw_115 mw_561 (by decide +kernel) ⟨by decide, by decide⟩ hl.1 rfl (Nat.le_of_ble_eq_true rfl) ⟨Nat.zero_le _, Nat.zero_le _⟩ dX4_readMotif_24 (fun v4 ar4 al4 H locs hq4 hP hS => ?_)
    obtain ⟨hI, hq4⟩ := hq4
    have hI : XI v4 := hI
    refine lv_aload_n hE.1 hE.2.1 dX4_readMotif_27 rfl (lv_at hl 2 rfl) ?_
    refine x_get (x := .ref (ad 14)) hE hK hP 13 (Nat.lt_of_lt_of_le (by decide) hNN) (xG_1 rfl) rfl hin1 11 (by decide) mw_219 rfl dX4_readMotif_28 ?_
    refine lv_iload_n hE.1 hE.2.1 dX4_readMotif_31 rfl (lv_at hl 0 rfl) ?_
    refine lv_aload_n hE.1 hE.2.1 dX4_readMotif_32 rfl (lv_at hl 1 rfl) ?_
    refine lv_iconst (v := iI (0)) hE.1 hE.2.1 dX4_readMotif_33 (by decide) ?_
    refine lv_bipush (v := iI (9)) hE.1 hE.2.1 dX4_readMotif_34 (by decide) ?_
    refine lv_iconst (v := iI (0)) hE.1 hE.2.1 dX4_readMotif_36 (by decide) ?_
    refine x_vi (nn := 3) (As := [.int (iI (0)), .int (iI (9)), .int (iI (0))]) (rest := [.int (iI (z1)), .ref (ad 14)]) hE hK hN hP hS (s_X4_takeNumber_1 l D K ad mm N hNN v4 ar4 al4 hI  (0) (by omega) (9) (by omega) (0) (by omega)) (x_recv hK hP 1 (Nat.lt_of_lt_of_le (by decide) hNN) (xG_4 rfl) rfl) rfl mw_619 mw_621 mw_7 mw_115 mw_622 (by decide +kernel) ⟨by decide, by decide⟩ hl.1 rfl (Nat.le_of_ble_eq_true rfl) ⟨Nat.zero_le _, Nat.zero_le _⟩ dX4_readMotif_37 (fun r5 v5 ar5 al5 H locs hq5 hP hS => ?_)
    obtain ⟨⟨z5, hz5, rfl⟩, hI, hq5⟩ := hq5
    have hI : XI v5 := hI
    refine x_iast (j := iI (z1)) hE hK hN hP hS 14 (Nat.lt_of_lt_of_le (by decide) hNN) (fun _ => xG_10 rfl) (iI_in (n := 9) (by omega)) dX4_readMotif_40 (fun ar6 H locs ha6 hP hS => ?_)
    refine lv_iconst (v := iI (0)) hE.1 hE.2.1 dX4_readMotif_41 (by decide) ?_
    refine lv_istore_n (lv' := [(3, .int (iI (0))), (2, .int (iI (z1))), (0, .ref (ad 1)), (1, .ref (ad 13))]) hE.1 hE.2.1 dX4_readMotif_42 rfl hl (by decide) rfl (fun ls hl => ?_)
    have loop7 : ∀ (k7 : Nat) (y7_3 : Int) (vl7 arl7 : sI) (all7 : sL) (H : Heap) (locs : List Loc) (ls : Array Slot), (5 - y7_3).toNat = k7 → (0 ≤ y7_3 ∧ y7_3 ≤ 5) → XI vl7 → (∀ i j : Nat, (i, j) ∉ ([(1, 1), (1, 2), (1, 4), (1, 5), (1, 6), (13, 7), (13, 8), (13, 9)] : List (Nat × Nat)) → vl7 i j = v5 i j) → va_P D xcl (wW ad (xG ad K mm) N vl7 arl7 all7) H → va_S (inW ad N) s.heap H locs → lv_has ls 4 [(3, .int (iI (y7_3))), (2, .int (iI (z1))), (0, .ref (ad 1)), (1, .ref (ad 13))] → W p l e (rmD 7) s m args below meth c H locs 0 0 Q (F0 m 43 ls []) := by
      intro k7
      induction k7 using Nat.strongRecOn with
      | _ k7 ih7 =>
        intro y7_3 vl7 arl7 all7 H locs ls hk7 hb_y7_3 hI hfr7 hP hS hl
        refine lv_iload_n hE.1 hE.2.1 dX4_readMotif_43 rfl (lv_at hl 0 rfl) ?_
        refine lv_iconst (v := iI (4)) hE.1 hE.2.1 dX4_readMotif_44 (by decide) ?_
        refine s_icmp_gt (a := y7_3) (b := 4) (tgt := 75) hE.1 hE.2.1 (by omega) (by omega) dX4_readMotif_45 (by decide) (fun c8 => ?_) (fun c8 => ?_)
        · skip
          refine lv_aload_n hE.1 hE.2.1 dX4_readMotif_75 rfl (lv_at hl 3 rfl) ?_
          refine lv_dup hE.1 hE.2.1 dX4_readMotif_76 rfl ?_
          refine x_get (x := .int (vl7 13 2)) hE hK hP 13 (Nat.lt_of_lt_of_le (by decide) hNN) (xG_1 rfl) rfl hin1 2 (by decide) mw_188 rfl dX4_readMotif_77 ?_
          refine x_top (y := iI (z1)) ((hfr7 13 2 (by decide)).trans ((hq5 13 2 (by decide)).trans ((hq4 13 2 (by decide)).trans ((hq3 13 2 (by decide)).trans ez1)))) ?_
          refine lv_iconst (v := iI (1)) hE.1 hE.2.1 dX4_readMotif_80 (by decide) ?_
          refine lv_iadd hE.1 hE.2.1 dX4_readMotif_81 ?_
          refine x_top (y := iI (z1 + 1)) ((iI_add (z1) (1)).trans (congrArg iI (by omega))) ?_
          refine x_put (x := iI (z1 + 1)) hE hK hN hP hS 13 (Nat.lt_of_lt_of_le (by decide) hNN) (xG_1 rfl) rfl hin1 tyX1 tyX1_ok nmX1 2 (by decide) mw_188 rfl rfl rfl (Nat.le_of_ble_eq_true rfl) (xG_1 rfl) dX4_readMotif_82 (fun v9 H locs hv9 hP hS => ?_)
          have hI := XI_putB (z := z1 + 1) hI hv9 0 9 (by omega) (by decide) (by omega)
          exact kr v9 arl7 all7 _ _ _ _ ⟨hI, fun i j h => ((up_oth hv9 (fun q => h (by rcases q with ⟨rfl, rfl⟩; decide))).trans ((hfr7 i j (fun q => h (mem_sub (by decide) q))).trans ((hq5 i j (fun q => h (mem_sub (by decide) q))).trans ((hq4 i j (fun q => h (mem_sub (by decide) q))).trans (hq3 i j (fun q => h (mem_sub (by decide) q)))))))⟩ hP hS dX4_readMotif_85
        · skip
          refine lv_aload_n hE.1 hE.2.1 dX4_readMotif_48 rfl (lv_at hl 2 rfl) ?_
          obtain ⟨z10, hz10, ez10⟩ := iI_of (vl7 1 1)
          refine x_get (x := .int (vl7 1 1)) hE hK hP 1 (Nat.lt_of_lt_of_le (by decide) hNN) (xG_4 rfl) rfl hin4 1 (by decide) mw_148 rfl dX4_readMotif_49 ?_
          refine x_top (y := iI (z10)) ez10 ?_
          refine s_if_ne (a := z10) (tgt := 75) hE.1 hE.2.1 (by omega) dX4_readMotif_52 (by decide) (fun c11 => ?_) (fun c11 => ?_)
          · skip
            refine lv_aload_n hE.1 hE.2.1 dX4_readMotif_75 rfl (lv_at hl 3 rfl) ?_
            refine lv_dup hE.1 hE.2.1 dX4_readMotif_76 rfl ?_
            refine x_get (x := .int (vl7 13 2)) hE hK hP 13 (Nat.lt_of_lt_of_le (by decide) hNN) (xG_1 rfl) rfl hin1 2 (by decide) mw_188 rfl dX4_readMotif_77 ?_
            refine x_top (y := iI (z1)) ((hfr7 13 2 (by decide)).trans ((hq5 13 2 (by decide)).trans ((hq4 13 2 (by decide)).trans ((hq3 13 2 (by decide)).trans ez1)))) ?_
            refine lv_iconst (v := iI (1)) hE.1 hE.2.1 dX4_readMotif_80 (by decide) ?_
            refine lv_iadd hE.1 hE.2.1 dX4_readMotif_81 ?_
            refine x_top (y := iI (z1 + 1)) ((iI_add (z1) (1)).trans (congrArg iI (by omega))) ?_
            refine x_put (x := iI (z1 + 1)) hE hK hN hP hS 13 (Nat.lt_of_lt_of_le (by decide) hNN) (xG_1 rfl) rfl hin1 tyX1 tyX1_ok nmX1 2 (by decide) mw_188 rfl rfl rfl (Nat.le_of_ble_eq_true rfl) (xG_1 rfl) dX4_readMotif_82 (fun v12 H locs hv12 hP hS => ?_)
            have hI := XI_putB (z := z1 + 1) hI hv12 0 9 (by omega) (by decide) (by omega)
            exact kr v12 arl7 all7 _ _ _ _ ⟨hI, fun i j h => ((up_oth hv12 (fun q => h (by rcases q with ⟨rfl, rfl⟩; decide))).trans ((hfr7 i j (fun q => h (mem_sub (by decide) q))).trans ((hq5 i j (fun q => h (mem_sub (by decide) q))).trans ((hq4 i j (fun q => h (mem_sub (by decide) q))).trans (hq3 i j (fun q => h (mem_sub (by decide) q)))))))⟩ hP hS dX4_readMotif_85
          · skip
            refine lv_aload_n hE.1 hE.2.1 dX4_readMotif_55 rfl (lv_at hl 2 rfl) ?_
            obtain ⟨z13, hz13, ez13⟩ := iI_of (vl7 1 6)
            refine x_get (x := .int (vl7 1 6)) hE hK hP 1 (Nat.lt_of_lt_of_le (by decide) hNN) (xG_4 rfl) rfl hin4 6 (by decide) mw_155 rfl dX4_readMotif_56 ?_
            refine x_top (y := iI (z13)) ez13 ?_
            refine lv_iconst (v := iI (4)) hE.1 hE.2.1 dX4_readMotif_59 (by decide) ?_
            refine s_icmp_eq (a := z13) (b := 4) (tgt := 75) hE.1 hE.2.1 (by omega) (by omega) dX4_readMotif_60 (by decide) (fun c14 => ?_) (fun c14 => ?_)
            · skip
              refine lv_aload_n hE.1 hE.2.1 dX4_readMotif_75 rfl (lv_at hl 3 rfl) ?_
              refine lv_dup hE.1 hE.2.1 dX4_readMotif_76 rfl ?_
              refine x_get (x := .int (vl7 13 2)) hE hK hP 13 (Nat.lt_of_lt_of_le (by decide) hNN) (xG_1 rfl) rfl hin1 2 (by decide) mw_188 rfl dX4_readMotif_77 ?_
              refine x_top (y := iI (z1)) ((hfr7 13 2 (by decide)).trans ((hq5 13 2 (by decide)).trans ((hq4 13 2 (by decide)).trans ((hq3 13 2 (by decide)).trans ez1)))) ?_
              refine lv_iconst (v := iI (1)) hE.1 hE.2.1 dX4_readMotif_80 (by decide) ?_
              refine lv_iadd hE.1 hE.2.1 dX4_readMotif_81 ?_
              refine x_top (y := iI (z1 + 1)) ((iI_add (z1) (1)).trans (congrArg iI (by omega))) ?_
              refine x_put (x := iI (z1 + 1)) hE hK hN hP hS 13 (Nat.lt_of_lt_of_le (by decide) hNN) (xG_1 rfl) rfl hin1 tyX1 tyX1_ok nmX1 2 (by decide) mw_188 rfl rfl rfl (Nat.le_of_ble_eq_true rfl) (xG_1 rfl) dX4_readMotif_82 (fun v15 H locs hv15 hP hS => ?_)
              have hI := XI_putB (z := z1 + 1) hI hv15 0 9 (by omega) (by decide) (by omega)
              exact kr v15 arl7 all7 _ _ _ _ ⟨hI, fun i j h => ((up_oth hv15 (fun q => h (by rcases q with ⟨rfl, rfl⟩; decide))).trans ((hfr7 i j (fun q => h (mem_sub (by decide) q))).trans ((hq5 i j (fun q => h (mem_sub (by decide) q))).trans ((hq4 i j (fun q => h (mem_sub (by decide) q))).trans (hq3 i j (fun q => h (mem_sub (by decide) q)))))))⟩ hP hS dX4_readMotif_85
            · skip
              refine lv_aload_n hE.1 hE.2.1 dX4_readMotif_63 rfl (lv_at hl 2 rfl) ?_
              refine lv_aload_n hE.1 hE.2.1 dX4_readMotif_64 rfl (lv_at hl 3 rfl) ?_
              refine lv_iload_n hE.1 hE.2.1 dX4_readMotif_65 rfl (lv_at hl 1 rfl) ?_
              refine x_vvB (nn := 2) (As := [.ref (ad 13), .int (iI (z1))]) (rest := []) hE hK hN hP hS (s_X4_readMark_1_13 l D K ad mm N hNN vl7 arl7 all7 hI tk tv  (z1) (by omega)) tw_blind (tw_now hK hN hP hT hTR hS) (x_recv hK hP 1 (Nat.lt_of_lt_of_le (by decide) hNN) (xG_4 rfl) rfl) rfl mw_637 mw_639 mw_10 mw_115 mw_640 (by decide +kernel) ⟨by decide, by decide⟩ hl.1 rfl (Nat.le_of_ble_eq_true rfl) ⟨Nat.zero_le _, Nat.zero_le _⟩ dX4_readMotif_66 (fun v16 ar16 al16 H locs hq16 hP hS => ?_)
              obtain ⟨hI, hq16⟩ := hq16
              have hI : XI v16 := hI
              refine lv_iinc (v := iI (y7_3 + 1)) (lv' := [(3, .int (iI (y7_3 + 1))), (2, .int (iI (z1))), (0, .ref (ad 1)), (1, .ref (ad 13))]) hE.1 hE.2.1 dX4_readMotif_69 hl (k := 0) rfl ((iI_add (y7_3) (1)).trans (congrArg iI (by omega))) (by decide) rfl (fun ls hl => ?_)
              refine lv_goto (tgt := 43) hE.1 hE.2.1 dX4_readMotif_72 (by decide) ?_
              exact ih7 _ (by omega) (y7_3 + 1) v16 ar16 al16 _ _ _ rfl (by omega) hI (fun i j h => ((hq16 i j (fun q => h (mem_sub (by decide) q))).trans (hfr7 i j h))) hP hS (lv_sub hl [0, 1, 2, 3] rfl)
    exact loop7 _ (0) v5 ar6 al5 _ _ _ rfl (by omega) hI (fun _ _ _ => rfl) hP hS hl
  · skip
    refine lv_aload_n hE.1 hE.2.1 dX4_readMotif_11 rfl (lv_at hl 1 rfl) ?_
    refine lv_iconst (v := iI (3)) hE.1 hE.2.1 dX4_readMotif_12 (by decide) ?_
    refine x_vv (nn := 1) (As := [.int (iI (3))]) (rest := []) hE hK hN hP hS (s_X4_fail_1 l D K ad mm N hNN v ar al hI  (3) (by omega)) (x_recv hK hP 1 (Nat.lt_of_lt_of_le (by decide) hNN) (xG_4 rfl) rfl) rfl mw_614 mw_616 mw_6 mw_115 mw_617 (by decide +kernel) ⟨by decide, by decide⟩ hl.1 rfl (Nat.le_of_ble_eq_true rfl) ⟨Nat.zero_le _, Nat.zero_le _⟩ dX4_readMotif_13 (fun v17 ar17 al17 H locs hq17 hP hS => ?_)
    obtain ⟨hI, hq17⟩ := hq17
    have hI : XI v17 := hI
    exact kr v17 ar17 al17 _ _ _ _ ⟨hI, fun i j h => (hq17 i j (fun q => h (mem_sub (by decide) q)))⟩ hP hS dX4_readMotif_16

set_option maxHeartbeats 4000000 in
set_option maxRecDepth 100000 in
theorem s_X4_isWord_1_1000 (l : Launch) (D : va_G) (K : Nat → ClassId) (ad : Nat → Nat) (mm : Option Nat) (N : Nat) (hNN : 132 ≤ N) (v ar : sI) (al : sL) (hI : XI v) (tk tv : Nat → Nat) : Met l yX4_isWord (wM yX4_isWord cX4_isWord 3 (some .boolean)) (rmD 4) (va_Pc [.ref (ad 1), .ref (tk 0)] (twPre D K ad (xG ad K mm) N v ar al tk tv)) (va_Qi (fun (r : Int32) (u : sT) => (∃ z : Int, (0 ≤ z ∧ z ≤ 1) ∧ r = iI z) ∧ XI u.1 ∧ (∀ i j : Nat, (i, j) ∉ ([] : List (Nat × Nat)) → u.1 i j = v i j)) (wB D ad (xG ad K mm) N) (inW ad N)) 0 0 (inW ad N) := by
  refine s_metI (by decide) (Nat.le_of_ble_eq_true rfl) ?_
  intro p e s m below meth c ls args Q hE hB hl kr
  have hE : CallFix p m c cX4_isWord 3 s args tbG "TaleCourt$Reader" := hE
  obtain ⟨⟨hP, hK, hN⟩, hT, hTR⟩ := hB
  have hS : va_S (inW ad N) s.heap s.heap [] := va_S.rf
  have hl : lv_has ls 3 [(0, .ref (ad 1)), (1, .ref (tk 0))] := hl
  refine lv_aload_n hE.1 hE.2.1 dX4_isWord_0 rfl (lv_at hl 0 rfl) ?_
  obtain ⟨z1, hz1, ez1⟩ := iI_of (v 1 6)
  refine x_get (x := .int (v 1 6)) hE hK hP 1 (Nat.lt_of_lt_of_le (by decide) hNN) (xG_4 rfl) rfl hin4 6 (by decide) mw_155 rfl dX4_isWord_1 ?_
  refine x_top (y := iI (z1)) ez1 ?_
  refine lv_iconst (v := iI (2)) hE.1 hE.2.1 dX4_isWord_4 (by decide) ?_
  refine s_icmp_ne (a := z1) (b := 2) (tgt := 24) hE.1 hE.2.1 (by omega) (by omega) dX4_isWord_5 (by decide) (fun c2 => ?_) (fun c2 => ?_)
  · skip
    refine lv_iconst (v := iI (0)) hE.1 hE.2.1 dX4_isWord_24 (by decide) ?_
    exact kr _ v ar al _ _ _ _ (nar01 (by omega)) ⟨⟨0, by omega, rfl⟩, hI, fun i j h => rfl⟩ hP hS dX4_isWord_25
  · skip
    refine lv_aload_n hE.1 hE.2.1 dX4_isWord_8 rfl (lv_at hl 0 rfl) ?_
    obtain ⟨z3, hz3, ez3⟩ := iI_of (v 1 5)
    refine x_get (x := .int (v 1 5)) hE hK hP 1 (Nat.lt_of_lt_of_le (by decide) hNN) (xG_4 rfl) rfl hin4 5 (by decide) mw_154 rfl dX4_isWord_9 ?_
    refine x_top (y := iI (z3)) ez3 ?_
    refine lv_aload_n hE.1 hE.2.1 dX4_isWord_12 rfl (lv_at hl 0 rfl) ?_
    obtain ⟨z4, hz4, ez4⟩ := iI_of (v 1 4)
    refine x_get (x := .int (v 1 4)) hE hK hP 1 (Nat.lt_of_lt_of_le (by decide) hNN) (xG_4 rfl) rfl hin4 4 (by decide) mw_153 rfl dX4_isWord_13 ?_
    refine x_top (y := iI (z4)) ez4 ?_
    refine lv_isub hE.1 hE.2.1 dX4_isWord_16 ?_
    obtain ⟨z5, hz5, ez5⟩ := iI_of (iI (z3) - iI (z4))
    refine x_top ez5 ?_
    refine lv_aload_n hE.1 hE.2.1 dX4_isWord_17 rfl (lv_at hl 1 rfl) ?_
    refine x_vp (nn := 0) (As := []) (rest := [.int (iI (z5))]) hE (t_length l tk tv (inW ad N) 0 (by decide) 5 rfl) tP_blind (tP_now hT hS) (vk_recv hT.1 (by decide) hS) rfl mw_566 mw_567 mw_568 mw_125 mw_569 (by decide +kernel) ⟨by decide, by decide⟩ hl.1 rfl (Nat.le_of_ble_eq_true rfl) ⟨Nat.zero_le _, Nat.zero_le _⟩ dX4_isWord_18 (fun r6 hr6 => ?_)
    subst hr6
    refine s_icmp_eq (a := z5) (b := 5) (tgt := 26) hE.1 hE.2.1 (by omega) (by omega) dX4_isWord_21 (by decide) (fun c7 => ?_) (fun c7 => ?_)
    · skip
      refine lv_iconst (v := iI (0)) hE.1 hE.2.1 dX4_isWord_26 (by decide) ?_
      refine lv_istore_n (lv' := [(2, .int (iI (0))), (0, .ref (ad 1)), (1, .ref (tk 0))]) hE.1 hE.2.1 dX4_isWord_27 rfl hl (by decide) rfl (fun ls hl => ?_)
      have loop8 : ∀ (k8 : Nat) (y8_2 : Int) (vl8 arl8 : sI) (all8 : sL) (H : Heap) (locs : List Loc) (ls : Array Slot), (8 - y8_2).toNat = k8 → (0 ≤ y8_2 ∧ y8_2 ≤ 8) → XI vl8 → (∀ i j : Nat, (i, j) ∉ ([] : List (Nat × Nat)) → vl8 i j = v i j) → va_P D xcl (wW ad (xG ad K mm) N vl8 arl8 all8) H → va_S (inW ad N) s.heap H locs → lv_has ls 3 [(2, .int (iI (y8_2))), (0, .ref (ad 1)), (1, .ref (tk 0))] → W p l e (rmD 4) s m args below meth c H locs 0 0 Q (F0 m 28 ls []) := by
        intro k8
        induction k8 using Nat.strongRecOn with
        | _ k8 ih8 =>
          intro y8_2 vl8 arl8 all8 H locs ls hk8 hb_y8_2 hI hfr8 hP hS hl
          refine lv_iload_n hE.1 hE.2.1 dX4_isWord_28 rfl (lv_at hl 0 rfl) ?_
          refine lv_aload_n hE.1 hE.2.1 dX4_isWord_29 rfl (lv_at hl 2 rfl) ?_
          refine x_vp (nn := 0) (As := []) (rest := [.int (iI (y8_2))]) hE (t_length l tk tv (inW ad N) 0 (by decide) 5 rfl) tP_blind (tP_now hT hS) (vk_recv hT.1 (by decide) hS) rfl mw_566 mw_567 mw_568 mw_125 mw_569 (by decide +kernel) ⟨by decide, by decide⟩ hl.1 rfl (Nat.le_of_ble_eq_true rfl) ⟨Nat.zero_le _, Nat.zero_le _⟩ dX4_isWord_30 (fun r9 hr9 => ?_)
          subst hr9
          refine s_icmp_ge (a := y8_2) (b := 5) (tgt := 62) hE.1 hE.2.1 (by omega) (by omega) dX4_isWord_33 (by decide) (fun c10 => ?_) (fun c10 => ?_)
          · skip
            refine lv_iconst (v := iI (1)) hE.1 hE.2.1 dX4_isWord_62 (by decide) ?_
            exact kr _ vl8 arl8 all8 _ _ _ _ (nar01 (by omega)) ⟨⟨1, by omega, rfl⟩, hI, fun i j h => (hfr8 i j (fun q => h (mem_sub (by decide) q)))⟩ hP hS dX4_isWord_63
          · skip
            refine lv_aload_n hE.1 hE.2.1 dX4_isWord_36 rfl (lv_at hl 1 rfl) ?_
            refine lv_aload_n hE.1 hE.2.1 dX4_isWord_37 rfl (lv_at hl 1 rfl) ?_
            refine x_get (x := .int (vl8 1 4)) hE hK hP 1 (Nat.lt_of_lt_of_le (by decide) hNN) (xG_4 rfl) rfl hin4 4 (by decide) mw_153 rfl dX4_isWord_38 ?_
            refine x_top (y := iI (z4)) ((hfr8 1 4 (by decide)).trans ez4) ?_
            refine lv_iload_n hE.1 hE.2.1 dX4_isWord_41 rfl (lv_at hl 0 rfl) ?_
            refine lv_iadd hE.1 hE.2.1 dX4_isWord_42 ?_
            obtain ⟨z11, hz11, ez11⟩ := iI_of (iI (z4) + iI (y8_2))
            refine x_top ez11 ?_
            refine x_vp (nn := 1) (As := [.int (iI (z11))]) (rest := []) hE (s_X4_byteAt_1 l D K ad mm N hNN vl8 arl8 all8 hI  (z11) (by omega)) wPre_blind (wPre_now hK hN hP) (x_recv hK hP 1 (Nat.lt_of_lt_of_le (by decide) hNN) (xG_4 rfl) rfl) rfl mw_542 mw_544 mw_1 mw_115 mw_545 (by decide +kernel) ⟨by decide, by decide⟩ hl.1 rfl (Nat.le_of_ble_eq_true rfl) ⟨Nat.zero_le _, Nat.zero_le _⟩ dX4_isWord_43 (fun r12 hr12 => ?_)
            obtain ⟨z12, hz12, rfl⟩ := hr12
            refine lv_aload_n hE.1 hE.2.1 dX4_isWord_46 rfl (lv_at hl 2 rfl) ?_
            refine lv_iload_n hE.1 hE.2.1 dX4_isWord_47 rfl (lv_at hl 0 rfl) ?_
            refine x_vp (nn := 1) (As := [.int (iI (y8_2))]) (rest := [.int (iI (z12))]) hE (t_charAt l tk tv (inW ad N) 0 (by decide) (y8_2) (show 0 ≤ y8_2 ∧ y8_2 < ((5 : Nat) : Int) by omega)) tP_blind (tP_now hT hS) (vk_recv hT.1 (by decide) hS) rfl mw_576 mw_577 mw_578 mw_125 mw_579 (by decide +kernel) ⟨by decide, by decide⟩ hl.1 rfl (Nat.le_of_ble_eq_true rfl) ⟨Nat.zero_le _, Nat.zero_le _⟩ dX4_isWord_48 (fun r13 _ => ?_)
            obtain ⟨z13, hz13, rfl⟩ := iI_of r13
            refine s_icmp_eq (a := z12) (b := z13) (tgt := 56) hE.1 hE.2.1 (by omega) (by omega) dX4_isWord_51 (by decide) (fun c14 => ?_) (fun c14 => ?_)
            · skip
              refine lv_iinc (v := iI (y8_2 + 1)) (lv' := [(2, .int (iI (y8_2 + 1))), (0, .ref (ad 1)), (1, .ref (tk 0))]) hE.1 hE.2.1 dX4_isWord_56 hl (k := 0) rfl ((iI_add (y8_2) (1)).trans (congrArg iI (by omega))) (by decide) rfl (fun ls hl => ?_)
              refine lv_goto (tgt := 28) hE.1 hE.2.1 dX4_isWord_59 (by decide) ?_
              exact ih8 _ (by omega) (y8_2 + 1) vl8 arl8 all8 _ _ _ rfl (by omega) hI (fun i j h => (hfr8 i j h)) hP hS (lv_sub hl [0, 1, 2] rfl)
            · skip
              refine lv_iconst (v := iI (0)) hE.1 hE.2.1 dX4_isWord_54 (by decide) ?_
              exact kr _ vl8 arl8 all8 _ _ _ _ (nar01 (by omega)) ⟨⟨0, by omega, rfl⟩, hI, fun i j h => (hfr8 i j (fun q => h (mem_sub (by decide) q)))⟩ hP hS dX4_isWord_55
      exact loop8 _ (0) v ar al _ _ _ rfl (by omega) hI (fun _ _ _ => rfl) hP hS hl
    · skip
      refine lv_iconst (v := iI (0)) hE.1 hE.2.1 dX4_isWord_24 (by decide) ?_
      exact kr _ v ar al _ _ _ _ (nar01 (by omega)) ⟨⟨0, by omega, rfl⟩, hI, fun i j h => rfl⟩ hP hS dX4_isWord_25

set_option maxHeartbeats 4000000 in
set_option maxRecDepth 100000 in
theorem s_X4_takeWord_1_1000 (l : Launch) (D : va_G) (K : Nat → ClassId) (ad : Nat → Nat) (mm : Option Nat) (N : Nat) (hNN : 132 ≤ N) (v ar : sI) (al : sL) (hI : XI v) (tk tv : Nat → Nat) : Met l yX4_takeWord (wM yX4_takeWord cX4_takeWord 2 none) (rmD 5) (va_Pc [.ref (ad 1), .ref (tk 0)] (twPre D K ad (xG ad K mm) N v ar al tk tv)) (va_Qv (fun u : sT => XI u.1 ∧ (∀ i j : Nat, (i, j) ∉ ([(1, 1), (1, 2), (1, 4), (1, 5), (1, 6)] : List (Nat × Nat)) → u.1 i j = v i j)) (wB D ad (xG ad K mm) N) (inW ad N)) 0 0 (inW ad N) := by
  refine s_metV (by decide) (Nat.le_of_ble_eq_true rfl) ?_
  intro p e s m below meth c ls args Q hE hB hl kr
  have hE : CallFix p m c cX4_takeWord 2 s args tbG "TaleCourt$Reader" := hE
  obtain ⟨⟨hP, hK, hN⟩, hT, hTR⟩ := hB
  have hS : va_S (inW ad N) s.heap s.heap [] := va_S.rf
  have hl : lv_has ls 2 [(0, .ref (ad 1)), (1, .ref (tk 0))] := hl
  refine lv_aload_n hE.1 hE.2.1 dX4_takeWord_0 rfl (lv_at hl 0 rfl) ?_
  refine lv_aload_n hE.1 hE.2.1 dX4_takeWord_1 rfl (lv_at hl 1 rfl) ?_
  refine x_viB (nn := 1) (As := [.ref (tk 0)]) (rest := []) hE hK hN hP hS (s_X4_isWord_1_1000 l D K ad mm N hNN v ar al hI tk tv  ) tw_blind (tw_now hK hN hP hT hTR hS) (x_recv hK hP 1 (Nat.lt_of_lt_of_le (by decide) hNN) (xG_4 rfl) rfl) rfl mw_562 mw_564 mw_5 mw_115 mw_565 (by decide +kernel) ⟨by decide, by decide⟩ hl.1 rfl (Nat.le_of_ble_eq_true rfl) ⟨Nat.zero_le _, Nat.zero_le _⟩ dX4_takeWord_2 (fun r1 v1 ar1 al1 H locs hq1 hP hS => ?_)
  obtain ⟨⟨z1, hz1, rfl⟩, hI, hq1⟩ := hq1
  have hI : XI v1 := hI
  refine s_if_eq (a := z1) (tgt := 15) hE.1 hE.2.1 (by omega) dX4_takeWord_5 (by decide) (fun c2 => ?_) (fun c2 => ?_)
  · skip
    refine lv_aload_n hE.1 hE.2.1 dX4_takeWord_15 rfl (lv_at hl 0 rfl) ?_
    refine lv_iconst (v := iI (1)) hE.1 hE.2.1 dX4_takeWord_16 (by decide) ?_
    refine x_vv (nn := 1) (As := [.int (iI (1))]) (rest := []) hE hK hN hP hS (s_X4_fail_1 l D K ad mm N hNN v1 ar1 al1 hI  (1) (by omega)) (x_recv hK hP 1 (Nat.lt_of_lt_of_le (by decide) hNN) (xG_4 rfl) rfl) rfl mw_614 mw_616 mw_6 mw_115 mw_617 (by decide +kernel) ⟨by decide, by decide⟩ hl.1 rfl (Nat.le_of_ble_eq_true rfl) ⟨Nat.zero_le _, Nat.zero_le _⟩ dX4_takeWord_17 (fun v3 ar3 al3 H locs hq3 hP hS => ?_)
    obtain ⟨hI, hq3⟩ := hq3
    have hI : XI v3 := hI
    exact kr v3 ar3 al3 _ _ _ _ ⟨hI, fun i j h => ((hq3 i j (fun q => h (mem_sub (by decide) q))).trans (hq1 i j (fun q => h (mem_sub (by decide) q))))⟩ hP hS dX4_takeWord_20
  · skip
    refine lv_aload_n hE.1 hE.2.1 dX4_takeWord_8 rfl (lv_at hl 0 rfl) ?_
    refine x_vv (nn := 0) (As := []) (rest := []) hE hK hN hP hS (s_X4_step_1 l D K ad mm N hNN v1 ar1 al1 hI  ) (x_recv hK hP 1 (Nat.lt_of_lt_of_le (by decide) hNN) (xG_4 rfl) rfl) rfl mw_538 mw_540 mw_0 mw_115 mw_541 (by decide +kernel) ⟨by decide, by decide⟩ hl.1 rfl (Nat.le_of_ble_eq_true rfl) ⟨Nat.zero_le _, Nat.zero_le _⟩ dX4_takeWord_9 (fun v4 ar4 al4 H locs hq4 hP hS => ?_)
    obtain ⟨hI, hq4⟩ := hq4
    have hI : XI v4 := hI
    refine lv_goto (tgt := 20) hE.1 hE.2.1 dX4_takeWord_12 (by decide) ?_
    exact kr v4 ar4 al4 _ _ _ _ ⟨hI, fun i j h => ((hq4 i j (fun q => h (mem_sub (by decide) q))).trans (hq1 i j (fun q => h (mem_sub (by decide) q))))⟩ hP hS dX4_takeWord_20

set_option maxHeartbeats 4000000 in
set_option maxRecDepth 100000 in
theorem s_X4_isWord_1_1001 (l : Launch) (D : va_G) (K : Nat → ClassId) (ad : Nat → Nat) (mm : Option Nat) (N : Nat) (hNN : 132 ≤ N) (v ar : sI) (al : sL) (hI : XI v) (tk tv : Nat → Nat) : Met l yX4_isWord (wM yX4_isWord cX4_isWord 3 (some .boolean)) (rmD 4) (va_Pc [.ref (ad 1), .ref (tk 1)] (twPre D K ad (xG ad K mm) N v ar al tk tv)) (va_Qi (fun (r : Int32) (u : sT) => (∃ z : Int, (0 ≤ z ∧ z ≤ 1) ∧ r = iI z) ∧ XI u.1 ∧ (∀ i j : Nat, (i, j) ∉ ([] : List (Nat × Nat)) → u.1 i j = v i j)) (wB D ad (xG ad K mm) N) (inW ad N)) 0 0 (inW ad N) := by
  refine s_metI (by decide) (Nat.le_of_ble_eq_true rfl) ?_
  intro p e s m below meth c ls args Q hE hB hl kr
  have hE : CallFix p m c cX4_isWord 3 s args tbG "TaleCourt$Reader" := hE
  obtain ⟨⟨hP, hK, hN⟩, hT, hTR⟩ := hB
  have hS : va_S (inW ad N) s.heap s.heap [] := va_S.rf
  have hl : lv_has ls 3 [(0, .ref (ad 1)), (1, .ref (tk 1))] := hl
  refine lv_aload_n hE.1 hE.2.1 dX4_isWord_0 rfl (lv_at hl 0 rfl) ?_
  obtain ⟨z1, hz1, ez1⟩ := iI_of (v 1 6)
  refine x_get (x := .int (v 1 6)) hE hK hP 1 (Nat.lt_of_lt_of_le (by decide) hNN) (xG_4 rfl) rfl hin4 6 (by decide) mw_155 rfl dX4_isWord_1 ?_
  refine x_top (y := iI (z1)) ez1 ?_
  refine lv_iconst (v := iI (2)) hE.1 hE.2.1 dX4_isWord_4 (by decide) ?_
  refine s_icmp_ne (a := z1) (b := 2) (tgt := 24) hE.1 hE.2.1 (by omega) (by omega) dX4_isWord_5 (by decide) (fun c2 => ?_) (fun c2 => ?_)
  · skip
    refine lv_iconst (v := iI (0)) hE.1 hE.2.1 dX4_isWord_24 (by decide) ?_
    exact kr _ v ar al _ _ _ _ (nar01 (by omega)) ⟨⟨0, by omega, rfl⟩, hI, fun i j h => rfl⟩ hP hS dX4_isWord_25
  · skip
    refine lv_aload_n hE.1 hE.2.1 dX4_isWord_8 rfl (lv_at hl 0 rfl) ?_
    obtain ⟨z3, hz3, ez3⟩ := iI_of (v 1 5)
    refine x_get (x := .int (v 1 5)) hE hK hP 1 (Nat.lt_of_lt_of_le (by decide) hNN) (xG_4 rfl) rfl hin4 5 (by decide) mw_154 rfl dX4_isWord_9 ?_
    refine x_top (y := iI (z3)) ez3 ?_
    refine lv_aload_n hE.1 hE.2.1 dX4_isWord_12 rfl (lv_at hl 0 rfl) ?_
    obtain ⟨z4, hz4, ez4⟩ := iI_of (v 1 4)
    refine x_get (x := .int (v 1 4)) hE hK hP 1 (Nat.lt_of_lt_of_le (by decide) hNN) (xG_4 rfl) rfl hin4 4 (by decide) mw_153 rfl dX4_isWord_13 ?_
    refine x_top (y := iI (z4)) ez4 ?_
    refine lv_isub hE.1 hE.2.1 dX4_isWord_16 ?_
    obtain ⟨z5, hz5, ez5⟩ := iI_of (iI (z3) - iI (z4))
    refine x_top ez5 ?_
    refine lv_aload_n hE.1 hE.2.1 dX4_isWord_17 rfl (lv_at hl 1 rfl) ?_
    refine x_vp (nn := 0) (As := []) (rest := [.int (iI (z5))]) hE (t_length l tk tv (inW ad N) 1 (by decide) 7 rfl) tP_blind (tP_now hT hS) (vk_recv hT.1 (by decide) hS) rfl mw_566 mw_567 mw_568 mw_125 mw_569 (by decide +kernel) ⟨by decide, by decide⟩ hl.1 rfl (Nat.le_of_ble_eq_true rfl) ⟨Nat.zero_le _, Nat.zero_le _⟩ dX4_isWord_18 (fun r6 hr6 => ?_)
    subst hr6
    refine s_icmp_eq (a := z5) (b := 7) (tgt := 26) hE.1 hE.2.1 (by omega) (by omega) dX4_isWord_21 (by decide) (fun c7 => ?_) (fun c7 => ?_)
    · skip
      refine lv_iconst (v := iI (0)) hE.1 hE.2.1 dX4_isWord_26 (by decide) ?_
      refine lv_istore_n (lv' := [(2, .int (iI (0))), (0, .ref (ad 1)), (1, .ref (tk 1))]) hE.1 hE.2.1 dX4_isWord_27 rfl hl (by decide) rfl (fun ls hl => ?_)
      have loop8 : ∀ (k8 : Nat) (y8_2 : Int) (vl8 arl8 : sI) (all8 : sL) (H : Heap) (locs : List Loc) (ls : Array Slot), (8 - y8_2).toNat = k8 → (0 ≤ y8_2 ∧ y8_2 ≤ 8) → XI vl8 → (∀ i j : Nat, (i, j) ∉ ([] : List (Nat × Nat)) → vl8 i j = v i j) → va_P D xcl (wW ad (xG ad K mm) N vl8 arl8 all8) H → va_S (inW ad N) s.heap H locs → lv_has ls 3 [(2, .int (iI (y8_2))), (0, .ref (ad 1)), (1, .ref (tk 1))] → W p l e (rmD 4) s m args below meth c H locs 0 0 Q (F0 m 28 ls []) := by
        intro k8
        induction k8 using Nat.strongRecOn with
        | _ k8 ih8 =>
          intro y8_2 vl8 arl8 all8 H locs ls hk8 hb_y8_2 hI hfr8 hP hS hl
          refine lv_iload_n hE.1 hE.2.1 dX4_isWord_28 rfl (lv_at hl 0 rfl) ?_
          refine lv_aload_n hE.1 hE.2.1 dX4_isWord_29 rfl (lv_at hl 2 rfl) ?_
          refine x_vp (nn := 0) (As := []) (rest := [.int (iI (y8_2))]) hE (t_length l tk tv (inW ad N) 1 (by decide) 7 rfl) tP_blind (tP_now hT hS) (vk_recv hT.1 (by decide) hS) rfl mw_566 mw_567 mw_568 mw_125 mw_569 (by decide +kernel) ⟨by decide, by decide⟩ hl.1 rfl (Nat.le_of_ble_eq_true rfl) ⟨Nat.zero_le _, Nat.zero_le _⟩ dX4_isWord_30 (fun r9 hr9 => ?_)
          subst hr9
          refine s_icmp_ge (a := y8_2) (b := 7) (tgt := 62) hE.1 hE.2.1 (by omega) (by omega) dX4_isWord_33 (by decide) (fun c10 => ?_) (fun c10 => ?_)
          · skip
            refine lv_iconst (v := iI (1)) hE.1 hE.2.1 dX4_isWord_62 (by decide) ?_
            exact kr _ vl8 arl8 all8 _ _ _ _ (nar01 (by omega)) ⟨⟨1, by omega, rfl⟩, hI, fun i j h => (hfr8 i j (fun q => h (mem_sub (by decide) q)))⟩ hP hS dX4_isWord_63
          · skip
            refine lv_aload_n hE.1 hE.2.1 dX4_isWord_36 rfl (lv_at hl 1 rfl) ?_
            refine lv_aload_n hE.1 hE.2.1 dX4_isWord_37 rfl (lv_at hl 1 rfl) ?_
            refine x_get (x := .int (vl8 1 4)) hE hK hP 1 (Nat.lt_of_lt_of_le (by decide) hNN) (xG_4 rfl) rfl hin4 4 (by decide) mw_153 rfl dX4_isWord_38 ?_
            refine x_top (y := iI (z4)) ((hfr8 1 4 (by decide)).trans ez4) ?_
            refine lv_iload_n hE.1 hE.2.1 dX4_isWord_41 rfl (lv_at hl 0 rfl) ?_
            refine lv_iadd hE.1 hE.2.1 dX4_isWord_42 ?_
            obtain ⟨z11, hz11, ez11⟩ := iI_of (iI (z4) + iI (y8_2))
            refine x_top ez11 ?_
            refine x_vp (nn := 1) (As := [.int (iI (z11))]) (rest := []) hE (s_X4_byteAt_1 l D K ad mm N hNN vl8 arl8 all8 hI  (z11) (by omega)) wPre_blind (wPre_now hK hN hP) (x_recv hK hP 1 (Nat.lt_of_lt_of_le (by decide) hNN) (xG_4 rfl) rfl) rfl mw_542 mw_544 mw_1 mw_115 mw_545 (by decide +kernel) ⟨by decide, by decide⟩ hl.1 rfl (Nat.le_of_ble_eq_true rfl) ⟨Nat.zero_le _, Nat.zero_le _⟩ dX4_isWord_43 (fun r12 hr12 => ?_)
            obtain ⟨z12, hz12, rfl⟩ := hr12
            refine lv_aload_n hE.1 hE.2.1 dX4_isWord_46 rfl (lv_at hl 2 rfl) ?_
            refine lv_iload_n hE.1 hE.2.1 dX4_isWord_47 rfl (lv_at hl 0 rfl) ?_
            refine x_vp (nn := 1) (As := [.int (iI (y8_2))]) (rest := [.int (iI (z12))]) hE (t_charAt l tk tv (inW ad N) 1 (by decide) (y8_2) (show 0 ≤ y8_2 ∧ y8_2 < ((7 : Nat) : Int) by omega)) tP_blind (tP_now hT hS) (vk_recv hT.1 (by decide) hS) rfl mw_576 mw_577 mw_578 mw_125 mw_579 (by decide +kernel) ⟨by decide, by decide⟩ hl.1 rfl (Nat.le_of_ble_eq_true rfl) ⟨Nat.zero_le _, Nat.zero_le _⟩ dX4_isWord_48 (fun r13 _ => ?_)
            obtain ⟨z13, hz13, rfl⟩ := iI_of r13
            refine s_icmp_eq (a := z12) (b := z13) (tgt := 56) hE.1 hE.2.1 (by omega) (by omega) dX4_isWord_51 (by decide) (fun c14 => ?_) (fun c14 => ?_)
            · skip
              refine lv_iinc (v := iI (y8_2 + 1)) (lv' := [(2, .int (iI (y8_2 + 1))), (0, .ref (ad 1)), (1, .ref (tk 1))]) hE.1 hE.2.1 dX4_isWord_56 hl (k := 0) rfl ((iI_add (y8_2) (1)).trans (congrArg iI (by omega))) (by decide) rfl (fun ls hl => ?_)
              refine lv_goto (tgt := 28) hE.1 hE.2.1 dX4_isWord_59 (by decide) ?_
              exact ih8 _ (by omega) (y8_2 + 1) vl8 arl8 all8 _ _ _ rfl (by omega) hI (fun i j h => (hfr8 i j h)) hP hS (lv_sub hl [0, 1, 2] rfl)
            · skip
              refine lv_iconst (v := iI (0)) hE.1 hE.2.1 dX4_isWord_54 (by decide) ?_
              exact kr _ vl8 arl8 all8 _ _ _ _ (nar01 (by omega)) ⟨⟨0, by omega, rfl⟩, hI, fun i j h => (hfr8 i j (fun q => h (mem_sub (by decide) q)))⟩ hP hS dX4_isWord_55
      exact loop8 _ (0) v ar al _ _ _ rfl (by omega) hI (fun _ _ _ => rfl) hP hS hl
    · skip
      refine lv_iconst (v := iI (0)) hE.1 hE.2.1 dX4_isWord_24 (by decide) ?_
      exact kr _ v ar al _ _ _ _ (nar01 (by omega)) ⟨⟨0, by omega, rfl⟩, hI, fun i j h => rfl⟩ hP hS dX4_isWord_25

set_option maxHeartbeats 4000000 in
set_option maxRecDepth 100000 in
theorem s_X4_takeWord_1_1001 (l : Launch) (D : va_G) (K : Nat → ClassId) (ad : Nat → Nat) (mm : Option Nat) (N : Nat) (hNN : 132 ≤ N) (v ar : sI) (al : sL) (hI : XI v) (tk tv : Nat → Nat) : Met l yX4_takeWord (wM yX4_takeWord cX4_takeWord 2 none) (rmD 5) (va_Pc [.ref (ad 1), .ref (tk 1)] (twPre D K ad (xG ad K mm) N v ar al tk tv)) (va_Qv (fun u : sT => XI u.1 ∧ (∀ i j : Nat, (i, j) ∉ ([(1, 1), (1, 2), (1, 4), (1, 5), (1, 6)] : List (Nat × Nat)) → u.1 i j = v i j)) (wB D ad (xG ad K mm) N) (inW ad N)) 0 0 (inW ad N) := by
  refine s_metV (by decide) (Nat.le_of_ble_eq_true rfl) ?_
  intro p e s m below meth c ls args Q hE hB hl kr
  have hE : CallFix p m c cX4_takeWord 2 s args tbG "TaleCourt$Reader" := hE
  obtain ⟨⟨hP, hK, hN⟩, hT, hTR⟩ := hB
  have hS : va_S (inW ad N) s.heap s.heap [] := va_S.rf
  have hl : lv_has ls 2 [(0, .ref (ad 1)), (1, .ref (tk 1))] := hl
  refine lv_aload_n hE.1 hE.2.1 dX4_takeWord_0 rfl (lv_at hl 0 rfl) ?_
  refine lv_aload_n hE.1 hE.2.1 dX4_takeWord_1 rfl (lv_at hl 1 rfl) ?_
  refine x_viB (nn := 1) (As := [.ref (tk 1)]) (rest := []) hE hK hN hP hS (s_X4_isWord_1_1001 l D K ad mm N hNN v ar al hI tk tv  ) tw_blind (tw_now hK hN hP hT hTR hS) (x_recv hK hP 1 (Nat.lt_of_lt_of_le (by decide) hNN) (xG_4 rfl) rfl) rfl mw_562 mw_564 mw_5 mw_115 mw_565 (by decide +kernel) ⟨by decide, by decide⟩ hl.1 rfl (Nat.le_of_ble_eq_true rfl) ⟨Nat.zero_le _, Nat.zero_le _⟩ dX4_takeWord_2 (fun r1 v1 ar1 al1 H locs hq1 hP hS => ?_)
  obtain ⟨⟨z1, hz1, rfl⟩, hI, hq1⟩ := hq1
  have hI : XI v1 := hI
  refine s_if_eq (a := z1) (tgt := 15) hE.1 hE.2.1 (by omega) dX4_takeWord_5 (by decide) (fun c2 => ?_) (fun c2 => ?_)
  · skip
    refine lv_aload_n hE.1 hE.2.1 dX4_takeWord_15 rfl (lv_at hl 0 rfl) ?_
    refine lv_iconst (v := iI (1)) hE.1 hE.2.1 dX4_takeWord_16 (by decide) ?_
    refine x_vv (nn := 1) (As := [.int (iI (1))]) (rest := []) hE hK hN hP hS (s_X4_fail_1 l D K ad mm N hNN v1 ar1 al1 hI  (1) (by omega)) (x_recv hK hP 1 (Nat.lt_of_lt_of_le (by decide) hNN) (xG_4 rfl) rfl) rfl mw_614 mw_616 mw_6 mw_115 mw_617 (by decide +kernel) ⟨by decide, by decide⟩ hl.1 rfl (Nat.le_of_ble_eq_true rfl) ⟨Nat.zero_le _, Nat.zero_le _⟩ dX4_takeWord_17 (fun v3 ar3 al3 H locs hq3 hP hS => ?_)
    obtain ⟨hI, hq3⟩ := hq3
    have hI : XI v3 := hI
    exact kr v3 ar3 al3 _ _ _ _ ⟨hI, fun i j h => ((hq3 i j (fun q => h (mem_sub (by decide) q))).trans (hq1 i j (fun q => h (mem_sub (by decide) q))))⟩ hP hS dX4_takeWord_20
  · skip
    refine lv_aload_n hE.1 hE.2.1 dX4_takeWord_8 rfl (lv_at hl 0 rfl) ?_
    refine x_vv (nn := 0) (As := []) (rest := []) hE hK hN hP hS (s_X4_step_1 l D K ad mm N hNN v1 ar1 al1 hI  ) (x_recv hK hP 1 (Nat.lt_of_lt_of_le (by decide) hNN) (xG_4 rfl) rfl) rfl mw_538 mw_540 mw_0 mw_115 mw_541 (by decide +kernel) ⟨by decide, by decide⟩ hl.1 rfl (Nat.le_of_ble_eq_true rfl) ⟨Nat.zero_le _, Nat.zero_le _⟩ dX4_takeWord_9 (fun v4 ar4 al4 H locs hq4 hP hS => ?_)
    obtain ⟨hI, hq4⟩ := hq4
    have hI : XI v4 := hI
    refine lv_goto (tgt := 20) hE.1 hE.2.1 dX4_takeWord_12 (by decide) ?_
    exact kr v4 ar4 al4 _ _ _ _ ⟨hI, fun i j h => ((hq4 i j (fun q => h (mem_sub (by decide) q))).trans (hq1 i j (fun q => h (mem_sub (by decide) q))))⟩ hP hS dX4_takeWord_20

set_option maxHeartbeats 4000000 in
set_option maxRecDepth 100000 in
theorem s_X4_isWord_1_1002 (l : Launch) (D : va_G) (K : Nat → ClassId) (ad : Nat → Nat) (mm : Option Nat) (N : Nat) (hNN : 132 ≤ N) (v ar : sI) (al : sL) (hI : XI v) (tk tv : Nat → Nat) : Met l yX4_isWord (wM yX4_isWord cX4_isWord 3 (some .boolean)) (rmD 4) (va_Pc [.ref (ad 1), .ref (tk 2)] (twPre D K ad (xG ad K mm) N v ar al tk tv)) (va_Qi (fun (r : Int32) (u : sT) => (∃ z : Int, (0 ≤ z ∧ z ≤ 1) ∧ r = iI z) ∧ XI u.1 ∧ (∀ i j : Nat, (i, j) ∉ ([] : List (Nat × Nat)) → u.1 i j = v i j)) (wB D ad (xG ad K mm) N) (inW ad N)) 0 0 (inW ad N) := by
  refine s_metI (by decide) (Nat.le_of_ble_eq_true rfl) ?_
  intro p e s m below meth c ls args Q hE hB hl kr
  have hE : CallFix p m c cX4_isWord 3 s args tbG "TaleCourt$Reader" := hE
  obtain ⟨⟨hP, hK, hN⟩, hT, hTR⟩ := hB
  have hS : va_S (inW ad N) s.heap s.heap [] := va_S.rf
  have hl : lv_has ls 3 [(0, .ref (ad 1)), (1, .ref (tk 2))] := hl
  refine lv_aload_n hE.1 hE.2.1 dX4_isWord_0 rfl (lv_at hl 0 rfl) ?_
  obtain ⟨z1, hz1, ez1⟩ := iI_of (v 1 6)
  refine x_get (x := .int (v 1 6)) hE hK hP 1 (Nat.lt_of_lt_of_le (by decide) hNN) (xG_4 rfl) rfl hin4 6 (by decide) mw_155 rfl dX4_isWord_1 ?_
  refine x_top (y := iI (z1)) ez1 ?_
  refine lv_iconst (v := iI (2)) hE.1 hE.2.1 dX4_isWord_4 (by decide) ?_
  refine s_icmp_ne (a := z1) (b := 2) (tgt := 24) hE.1 hE.2.1 (by omega) (by omega) dX4_isWord_5 (by decide) (fun c2 => ?_) (fun c2 => ?_)
  · skip
    refine lv_iconst (v := iI (0)) hE.1 hE.2.1 dX4_isWord_24 (by decide) ?_
    exact kr _ v ar al _ _ _ _ (nar01 (by omega)) ⟨⟨0, by omega, rfl⟩, hI, fun i j h => rfl⟩ hP hS dX4_isWord_25
  · skip
    refine lv_aload_n hE.1 hE.2.1 dX4_isWord_8 rfl (lv_at hl 0 rfl) ?_
    obtain ⟨z3, hz3, ez3⟩ := iI_of (v 1 5)
    refine x_get (x := .int (v 1 5)) hE hK hP 1 (Nat.lt_of_lt_of_le (by decide) hNN) (xG_4 rfl) rfl hin4 5 (by decide) mw_154 rfl dX4_isWord_9 ?_
    refine x_top (y := iI (z3)) ez3 ?_
    refine lv_aload_n hE.1 hE.2.1 dX4_isWord_12 rfl (lv_at hl 0 rfl) ?_
    obtain ⟨z4, hz4, ez4⟩ := iI_of (v 1 4)
    refine x_get (x := .int (v 1 4)) hE hK hP 1 (Nat.lt_of_lt_of_le (by decide) hNN) (xG_4 rfl) rfl hin4 4 (by decide) mw_153 rfl dX4_isWord_13 ?_
    refine x_top (y := iI (z4)) ez4 ?_
    refine lv_isub hE.1 hE.2.1 dX4_isWord_16 ?_
    obtain ⟨z5, hz5, ez5⟩ := iI_of (iI (z3) - iI (z4))
    refine x_top ez5 ?_
    refine lv_aload_n hE.1 hE.2.1 dX4_isWord_17 rfl (lv_at hl 1 rfl) ?_
    refine x_vp (nn := 0) (As := []) (rest := [.int (iI (z5))]) hE (t_length l tk tv (inW ad N) 2 (by decide) 6 rfl) tP_blind (tP_now hT hS) (vk_recv hT.1 (by decide) hS) rfl mw_566 mw_567 mw_568 mw_125 mw_569 (by decide +kernel) ⟨by decide, by decide⟩ hl.1 rfl (Nat.le_of_ble_eq_true rfl) ⟨Nat.zero_le _, Nat.zero_le _⟩ dX4_isWord_18 (fun r6 hr6 => ?_)
    subst hr6
    refine s_icmp_eq (a := z5) (b := 6) (tgt := 26) hE.1 hE.2.1 (by omega) (by omega) dX4_isWord_21 (by decide) (fun c7 => ?_) (fun c7 => ?_)
    · skip
      refine lv_iconst (v := iI (0)) hE.1 hE.2.1 dX4_isWord_26 (by decide) ?_
      refine lv_istore_n (lv' := [(2, .int (iI (0))), (0, .ref (ad 1)), (1, .ref (tk 2))]) hE.1 hE.2.1 dX4_isWord_27 rfl hl (by decide) rfl (fun ls hl => ?_)
      have loop8 : ∀ (k8 : Nat) (y8_2 : Int) (vl8 arl8 : sI) (all8 : sL) (H : Heap) (locs : List Loc) (ls : Array Slot), (8 - y8_2).toNat = k8 → (0 ≤ y8_2 ∧ y8_2 ≤ 8) → XI vl8 → (∀ i j : Nat, (i, j) ∉ ([] : List (Nat × Nat)) → vl8 i j = v i j) → va_P D xcl (wW ad (xG ad K mm) N vl8 arl8 all8) H → va_S (inW ad N) s.heap H locs → lv_has ls 3 [(2, .int (iI (y8_2))), (0, .ref (ad 1)), (1, .ref (tk 2))] → W p l e (rmD 4) s m args below meth c H locs 0 0 Q (F0 m 28 ls []) := by
        intro k8
        induction k8 using Nat.strongRecOn with
        | _ k8 ih8 =>
          intro y8_2 vl8 arl8 all8 H locs ls hk8 hb_y8_2 hI hfr8 hP hS hl
          refine lv_iload_n hE.1 hE.2.1 dX4_isWord_28 rfl (lv_at hl 0 rfl) ?_
          refine lv_aload_n hE.1 hE.2.1 dX4_isWord_29 rfl (lv_at hl 2 rfl) ?_
          refine x_vp (nn := 0) (As := []) (rest := [.int (iI (y8_2))]) hE (t_length l tk tv (inW ad N) 2 (by decide) 6 rfl) tP_blind (tP_now hT hS) (vk_recv hT.1 (by decide) hS) rfl mw_566 mw_567 mw_568 mw_125 mw_569 (by decide +kernel) ⟨by decide, by decide⟩ hl.1 rfl (Nat.le_of_ble_eq_true rfl) ⟨Nat.zero_le _, Nat.zero_le _⟩ dX4_isWord_30 (fun r9 hr9 => ?_)
          subst hr9
          refine s_icmp_ge (a := y8_2) (b := 6) (tgt := 62) hE.1 hE.2.1 (by omega) (by omega) dX4_isWord_33 (by decide) (fun c10 => ?_) (fun c10 => ?_)
          · skip
            refine lv_iconst (v := iI (1)) hE.1 hE.2.1 dX4_isWord_62 (by decide) ?_
            exact kr _ vl8 arl8 all8 _ _ _ _ (nar01 (by omega)) ⟨⟨1, by omega, rfl⟩, hI, fun i j h => (hfr8 i j (fun q => h (mem_sub (by decide) q)))⟩ hP hS dX4_isWord_63
          · skip
            refine lv_aload_n hE.1 hE.2.1 dX4_isWord_36 rfl (lv_at hl 1 rfl) ?_
            refine lv_aload_n hE.1 hE.2.1 dX4_isWord_37 rfl (lv_at hl 1 rfl) ?_
            refine x_get (x := .int (vl8 1 4)) hE hK hP 1 (Nat.lt_of_lt_of_le (by decide) hNN) (xG_4 rfl) rfl hin4 4 (by decide) mw_153 rfl dX4_isWord_38 ?_
            refine x_top (y := iI (z4)) ((hfr8 1 4 (by decide)).trans ez4) ?_
            refine lv_iload_n hE.1 hE.2.1 dX4_isWord_41 rfl (lv_at hl 0 rfl) ?_
            refine lv_iadd hE.1 hE.2.1 dX4_isWord_42 ?_
            obtain ⟨z11, hz11, ez11⟩ := iI_of (iI (z4) + iI (y8_2))
            refine x_top ez11 ?_
            refine x_vp (nn := 1) (As := [.int (iI (z11))]) (rest := []) hE (s_X4_byteAt_1 l D K ad mm N hNN vl8 arl8 all8 hI  (z11) (by omega)) wPre_blind (wPre_now hK hN hP) (x_recv hK hP 1 (Nat.lt_of_lt_of_le (by decide) hNN) (xG_4 rfl) rfl) rfl mw_542 mw_544 mw_1 mw_115 mw_545 (by decide +kernel) ⟨by decide, by decide⟩ hl.1 rfl (Nat.le_of_ble_eq_true rfl) ⟨Nat.zero_le _, Nat.zero_le _⟩ dX4_isWord_43 (fun r12 hr12 => ?_)
            obtain ⟨z12, hz12, rfl⟩ := hr12
            refine lv_aload_n hE.1 hE.2.1 dX4_isWord_46 rfl (lv_at hl 2 rfl) ?_
            refine lv_iload_n hE.1 hE.2.1 dX4_isWord_47 rfl (lv_at hl 0 rfl) ?_
            refine x_vp (nn := 1) (As := [.int (iI (y8_2))]) (rest := [.int (iI (z12))]) hE (t_charAt l tk tv (inW ad N) 2 (by decide) (y8_2) (show 0 ≤ y8_2 ∧ y8_2 < ((6 : Nat) : Int) by omega)) tP_blind (tP_now hT hS) (vk_recv hT.1 (by decide) hS) rfl mw_576 mw_577 mw_578 mw_125 mw_579 (by decide +kernel) ⟨by decide, by decide⟩ hl.1 rfl (Nat.le_of_ble_eq_true rfl) ⟨Nat.zero_le _, Nat.zero_le _⟩ dX4_isWord_48 (fun r13 _ => ?_)
            obtain ⟨z13, hz13, rfl⟩ := iI_of r13
            refine s_icmp_eq (a := z12) (b := z13) (tgt := 56) hE.1 hE.2.1 (by omega) (by omega) dX4_isWord_51 (by decide) (fun c14 => ?_) (fun c14 => ?_)
            · skip
              refine lv_iinc (v := iI (y8_2 + 1)) (lv' := [(2, .int (iI (y8_2 + 1))), (0, .ref (ad 1)), (1, .ref (tk 2))]) hE.1 hE.2.1 dX4_isWord_56 hl (k := 0) rfl ((iI_add (y8_2) (1)).trans (congrArg iI (by omega))) (by decide) rfl (fun ls hl => ?_)
              refine lv_goto (tgt := 28) hE.1 hE.2.1 dX4_isWord_59 (by decide) ?_
              exact ih8 _ (by omega) (y8_2 + 1) vl8 arl8 all8 _ _ _ rfl (by omega) hI (fun i j h => (hfr8 i j h)) hP hS (lv_sub hl [0, 1, 2] rfl)
            · skip
              refine lv_iconst (v := iI (0)) hE.1 hE.2.1 dX4_isWord_54 (by decide) ?_
              exact kr _ vl8 arl8 all8 _ _ _ _ (nar01 (by omega)) ⟨⟨0, by omega, rfl⟩, hI, fun i j h => (hfr8 i j (fun q => h (mem_sub (by decide) q)))⟩ hP hS dX4_isWord_55
      exact loop8 _ (0) v ar al _ _ _ rfl (by omega) hI (fun _ _ _ => rfl) hP hS hl
    · skip
      refine lv_iconst (v := iI (0)) hE.1 hE.2.1 dX4_isWord_24 (by decide) ?_
      exact kr _ v ar al _ _ _ _ (nar01 (by omega)) ⟨⟨0, by omega, rfl⟩, hI, fun i j h => rfl⟩ hP hS dX4_isWord_25

set_option maxHeartbeats 4000000 in
set_option maxRecDepth 100000 in
theorem s_X4_takeWord_1_1002 (l : Launch) (D : va_G) (K : Nat → ClassId) (ad : Nat → Nat) (mm : Option Nat) (N : Nat) (hNN : 132 ≤ N) (v ar : sI) (al : sL) (hI : XI v) (tk tv : Nat → Nat) : Met l yX4_takeWord (wM yX4_takeWord cX4_takeWord 2 none) (rmD 5) (va_Pc [.ref (ad 1), .ref (tk 2)] (twPre D K ad (xG ad K mm) N v ar al tk tv)) (va_Qv (fun u : sT => XI u.1 ∧ (∀ i j : Nat, (i, j) ∉ ([(1, 1), (1, 2), (1, 4), (1, 5), (1, 6)] : List (Nat × Nat)) → u.1 i j = v i j)) (wB D ad (xG ad K mm) N) (inW ad N)) 0 0 (inW ad N) := by
  refine s_metV (by decide) (Nat.le_of_ble_eq_true rfl) ?_
  intro p e s m below meth c ls args Q hE hB hl kr
  have hE : CallFix p m c cX4_takeWord 2 s args tbG "TaleCourt$Reader" := hE
  obtain ⟨⟨hP, hK, hN⟩, hT, hTR⟩ := hB
  have hS : va_S (inW ad N) s.heap s.heap [] := va_S.rf
  have hl : lv_has ls 2 [(0, .ref (ad 1)), (1, .ref (tk 2))] := hl
  refine lv_aload_n hE.1 hE.2.1 dX4_takeWord_0 rfl (lv_at hl 0 rfl) ?_
  refine lv_aload_n hE.1 hE.2.1 dX4_takeWord_1 rfl (lv_at hl 1 rfl) ?_
  refine x_viB (nn := 1) (As := [.ref (tk 2)]) (rest := []) hE hK hN hP hS (s_X4_isWord_1_1002 l D K ad mm N hNN v ar al hI tk tv  ) tw_blind (tw_now hK hN hP hT hTR hS) (x_recv hK hP 1 (Nat.lt_of_lt_of_le (by decide) hNN) (xG_4 rfl) rfl) rfl mw_562 mw_564 mw_5 mw_115 mw_565 (by decide +kernel) ⟨by decide, by decide⟩ hl.1 rfl (Nat.le_of_ble_eq_true rfl) ⟨Nat.zero_le _, Nat.zero_le _⟩ dX4_takeWord_2 (fun r1 v1 ar1 al1 H locs hq1 hP hS => ?_)
  obtain ⟨⟨z1, hz1, rfl⟩, hI, hq1⟩ := hq1
  have hI : XI v1 := hI
  refine s_if_eq (a := z1) (tgt := 15) hE.1 hE.2.1 (by omega) dX4_takeWord_5 (by decide) (fun c2 => ?_) (fun c2 => ?_)
  · skip
    refine lv_aload_n hE.1 hE.2.1 dX4_takeWord_15 rfl (lv_at hl 0 rfl) ?_
    refine lv_iconst (v := iI (1)) hE.1 hE.2.1 dX4_takeWord_16 (by decide) ?_
    refine x_vv (nn := 1) (As := [.int (iI (1))]) (rest := []) hE hK hN hP hS (s_X4_fail_1 l D K ad mm N hNN v1 ar1 al1 hI  (1) (by omega)) (x_recv hK hP 1 (Nat.lt_of_lt_of_le (by decide) hNN) (xG_4 rfl) rfl) rfl mw_614 mw_616 mw_6 mw_115 mw_617 (by decide +kernel) ⟨by decide, by decide⟩ hl.1 rfl (Nat.le_of_ble_eq_true rfl) ⟨Nat.zero_le _, Nat.zero_le _⟩ dX4_takeWord_17 (fun v3 ar3 al3 H locs hq3 hP hS => ?_)
    obtain ⟨hI, hq3⟩ := hq3
    have hI : XI v3 := hI
    exact kr v3 ar3 al3 _ _ _ _ ⟨hI, fun i j h => ((hq3 i j (fun q => h (mem_sub (by decide) q))).trans (hq1 i j (fun q => h (mem_sub (by decide) q))))⟩ hP hS dX4_takeWord_20
  · skip
    refine lv_aload_n hE.1 hE.2.1 dX4_takeWord_8 rfl (lv_at hl 0 rfl) ?_
    refine x_vv (nn := 0) (As := []) (rest := []) hE hK hN hP hS (s_X4_step_1 l D K ad mm N hNN v1 ar1 al1 hI  ) (x_recv hK hP 1 (Nat.lt_of_lt_of_le (by decide) hNN) (xG_4 rfl) rfl) rfl mw_538 mw_540 mw_0 mw_115 mw_541 (by decide +kernel) ⟨by decide, by decide⟩ hl.1 rfl (Nat.le_of_ble_eq_true rfl) ⟨Nat.zero_le _, Nat.zero_le _⟩ dX4_takeWord_9 (fun v4 ar4 al4 H locs hq4 hP hS => ?_)
    obtain ⟨hI, hq4⟩ := hq4
    have hI : XI v4 := hI
    refine lv_goto (tgt := 20) hE.1 hE.2.1 dX4_takeWord_12 (by decide) ?_
    exact kr v4 ar4 al4 _ _ _ _ ⟨hI, fun i j h => ((hq4 i j (fun q => h (mem_sub (by decide) q))).trans (hq1 i j (fun q => h (mem_sub (by decide) q))))⟩ hP hS dX4_takeWord_20

theorem dX4_readHead_0 : decode cX4_readHead 0 = .ok (.aload_n 0, 1) := by decide +kernel
theorem dX4_readHead_1 : decode cX4_readHead 1 = .ok (.ldc 94, 2) := by decide +kernel
theorem dX4_readHead_3 : decode cX4_readHead 3 = .ok (.invokevirtual 96, 3) := by decide +kernel
theorem dX4_readHead_6 : decode cX4_readHead 6 = .ok (.aload_n 0, 1) := by decide +kernel
theorem dX4_readHead_7 : decode cX4_readHead 7 = .ok (.ldc 100, 2) := by decide +kernel
theorem dX4_readHead_9 : decode cX4_readHead 9 = .ok (.invokevirtual 96, 3) := by decide +kernel
theorem dX4_readHead_12 : decode cX4_readHead 12 = .ok (.aload_n 1, 1) := by decide +kernel
theorem dX4_readHead_13 : decode cX4_readHead 13 = .ok (.aload_n 0, 1) := by decide +kernel
theorem dX4_readHead_14 : decode cX4_readHead 14 = .ok (.iconst 1, 1) := by decide +kernel
theorem dX4_readHead_15 : decode cX4_readHead 15 = .ok (.iconst 3, 1) := by decide +kernel
theorem dX4_readHead_16 : decode cX4_readHead 16 = .ok (.iconst 0, 1) := by decide +kernel
theorem dX4_readHead_17 : decode cX4_readHead 17 = .ok (.invokevirtual 81, 3) := by decide +kernel
theorem dX4_readHead_20 : decode cX4_readHead 20 = .ok (.putfield 102, 3) := by decide +kernel
theorem dX4_readHead_23 : decode cX4_readHead 23 = .ok (.aload_n 0, 1) := by decide +kernel
theorem dX4_readHead_24 : decode cX4_readHead 24 = .ok (.ldc 104, 2) := by decide +kernel
theorem dX4_readHead_26 : decode cX4_readHead 26 = .ok (.invokevirtual 96, 3) := by decide +kernel
theorem dX4_readHead_29 : decode cX4_readHead 29 = .ok (.aload_n 1, 1) := by decide +kernel
theorem dX4_readHead_30 : decode cX4_readHead 30 = .ok (.aload_n 0, 1) := by decide +kernel
theorem dX4_readHead_31 : decode cX4_readHead 31 = .ok (.iconst 0, 1) := by decide +kernel
theorem dX4_readHead_32 : decode cX4_readHead 32 = .ok (.iconst 3, 1) := by decide +kernel
theorem dX4_readHead_33 : decode cX4_readHead 33 = .ok (.iconst 0, 1) := by decide +kernel
theorem dX4_readHead_34 : decode cX4_readHead 34 = .ok (.invokevirtual 81, 3) := by decide +kernel
theorem dX4_readHead_37 : decode cX4_readHead 37 = .ok (.putfield 106, 3) := by decide +kernel
theorem dX4_readHead_40 : decode cX4_readHead 40 = .ok (.return_, 1) := by decide +kernel
set_option maxHeartbeats 4000000 in
set_option maxRecDepth 100000 in
theorem s_X4_readHead_1_13 (l : Launch) (D : va_G) (K : Nat → ClassId) (ad : Nat → Nat) (mm : Option Nat) (N : Nat) (hNN : 132 ≤ N) (v ar : sI) (al : sL) (hI : XI v) (tk tv : Nat → Nat) : Met l yX4_readHead (wM yX4_readHead cX4_readHead 2 none) (rmD 6) (va_Pc [.ref (ad 1), .ref (ad 13)] (twPre D K ad (xG ad K mm) N v ar al tk tv)) (va_Qv (fun u : sT => XI u.1 ∧ (∀ i j : Nat, (i, j) ∉ ([(1, 1), (1, 2), (1, 4), (1, 5), (1, 6), (13, 0), (13, 1)] : List (Nat × Nat)) → u.1 i j = v i j)) (wB D ad (xG ad K mm) N) (inW ad N)) 0 0 (inW ad N) := by
  refine s_metV (by decide) (Nat.le_of_ble_eq_true rfl) ?_
  intro p e s m below meth c ls args Q hE hB hl kr
  have hE : CallFix p m c cX4_readHead 2 s args tbG "TaleCourt$Reader" := hE
  obtain ⟨⟨hP, hK, hN⟩, hT, hTR⟩ := hB
  have hS : va_S (inW ad N) s.heap s.heap [] := va_S.rf
  have hl : lv_has ls 2 [(0, .ref (ad 1)), (1, .ref (ad 13))] := hl
  refine lv_aload_n hE.1 hE.2.1 dX4_readHead_0 rfl (lv_at hl 0 rfl) ?_
  refine va_ldcS (index := 94) (q := tk 0) hE.1 hE.2.1 hE.2.2.2.1 (show vk_R "TaleCourt$Reader" 94 "court" (tk 0) s from hTR 0 (by decide)) dX4_readHead_1 ?_
  refine x_vvB (nn := 1) (As := [.ref (tk 0)]) (rest := []) hE hK hN hP hS (s_X4_takeWord_1_1000 l D K ad mm N hNN v ar al hI tk tv  ) tw_blind (tw_now hK hN hP hT hTR hS) (x_recv hK hP 1 (Nat.lt_of_lt_of_le (by decide) hNN) (xG_4 rfl) rfl) rfl mw_558 mw_560 mw_4 mw_115 mw_561 (by decide +kernel) ⟨by decide, by decide⟩ hl.1 rfl (Nat.le_of_ble_eq_true rfl) ⟨Nat.zero_le _, Nat.zero_le _⟩ dX4_readHead_3 (fun v1 ar1 al1 H locs hq1 hP hS => ?_)
  obtain ⟨hI, hq1⟩ := hq1
  have hI : XI v1 := hI
  refine lv_aload_n hE.1 hE.2.1 dX4_readHead_6 rfl (lv_at hl 0 rfl) ?_
  refine va_ldcS (index := 100) (q := tk 1) hE.1 hE.2.1 hE.2.2.2.1 (show vk_R "TaleCourt$Reader" 100 "tellers" (tk 1) s from hTR 1 (by decide)) dX4_readHead_7 ?_
  refine x_vvB (nn := 1) (As := [.ref (tk 1)]) (rest := []) hE hK hN hP hS (s_X4_takeWord_1_1001 l D K ad mm N hNN v1 ar1 al1 hI tk tv  ) tw_blind (tw_now hK hN hP hT hTR hS) (x_recv hK hP 1 (Nat.lt_of_lt_of_le (by decide) hNN) (xG_4 rfl) rfl) rfl mw_558 mw_560 mw_4 mw_115 mw_561 (by decide +kernel) ⟨by decide, by decide⟩ hl.1 rfl (Nat.le_of_ble_eq_true rfl) ⟨Nat.zero_le _, Nat.zero_le _⟩ dX4_readHead_9 (fun v2 ar2 al2 H locs hq2 hP hS => ?_)
  obtain ⟨hI, hq2⟩ := hq2
  have hI : XI v2 := hI
  refine lv_aload_n hE.1 hE.2.1 dX4_readHead_12 rfl (lv_at hl 1 rfl) ?_
  refine lv_aload_n hE.1 hE.2.1 dX4_readHead_13 rfl (lv_at hl 0 rfl) ?_
  refine lv_iconst (v := iI (1)) hE.1 hE.2.1 dX4_readHead_14 (by decide) ?_
  refine lv_iconst (v := iI (3)) hE.1 hE.2.1 dX4_readHead_15 (by decide) ?_
  refine lv_iconst (v := iI (0)) hE.1 hE.2.1 dX4_readHead_16 (by decide) ?_
  refine x_vi (nn := 3) (As := [.int (iI (1)), .int (iI (3)), .int (iI (0))]) (rest := [.ref (ad 13)]) hE hK hN hP hS (s_X4_takeNumber_1 l D K ad mm N hNN v2 ar2 al2 hI  (1) (by omega) (3) (by omega) (0) (by omega)) (x_recv hK hP 1 (Nat.lt_of_lt_of_le (by decide) hNN) (xG_4 rfl) rfl) rfl mw_619 mw_621 mw_7 mw_115 mw_622 (by decide +kernel) ⟨by decide, by decide⟩ hl.1 rfl (Nat.le_of_ble_eq_true rfl) ⟨Nat.zero_le _, Nat.zero_le _⟩ dX4_readHead_17 (fun r3 v3 ar3 al3 H locs hq3 hP hS => ?_)
  obtain ⟨⟨z3, hz3, rfl⟩, hI, hq3⟩ := hq3
  have hI : XI v3 := hI
  refine x_put (x := iI (z3)) hE hK hN hP hS 13 (Nat.lt_of_lt_of_le (by decide) hNN) (xG_1 rfl) rfl hin1 tyX1 tyX1_ok nmX1 0 (by decide) mw_180 rfl rfl rfl (Nat.le_of_ble_eq_true rfl) (xG_1 rfl) dX4_readHead_20 (fun v4 H locs hv4 hP hS => ?_)
  have hI := XI_putB (z := z3) hI hv4 0 3 (by omega) (by decide) (by omega)
  refine lv_aload_n hE.1 hE.2.1 dX4_readHead_23 rfl (lv_at hl 0 rfl) ?_
  refine va_ldcS (index := 104) (q := tk 2) hE.1 hE.2.1 hE.2.2.2.1 (show vk_R "TaleCourt$Reader" 104 "silent" (tk 2) s from hTR 2 (by decide)) dX4_readHead_24 ?_
  refine x_vvB (nn := 1) (As := [.ref (tk 2)]) (rest := []) hE hK hN hP hS (s_X4_takeWord_1_1002 l D K ad mm N hNN v4 ar3 al3 hI tk tv  ) tw_blind (tw_now hK hN hP hT hTR hS) (x_recv hK hP 1 (Nat.lt_of_lt_of_le (by decide) hNN) (xG_4 rfl) rfl) rfl mw_558 mw_560 mw_4 mw_115 mw_561 (by decide +kernel) ⟨by decide, by decide⟩ hl.1 rfl (Nat.le_of_ble_eq_true rfl) ⟨Nat.zero_le _, Nat.zero_le _⟩ dX4_readHead_26 (fun v5 ar5 al5 H locs hq5 hP hS => ?_)
  obtain ⟨hI, hq5⟩ := hq5
  have hI : XI v5 := hI
  refine lv_aload_n hE.1 hE.2.1 dX4_readHead_29 rfl (lv_at hl 1 rfl) ?_
  refine lv_aload_n hE.1 hE.2.1 dX4_readHead_30 rfl (lv_at hl 0 rfl) ?_
  refine lv_iconst (v := iI (0)) hE.1 hE.2.1 dX4_readHead_31 (by decide) ?_
  refine lv_iconst (v := iI (3)) hE.1 hE.2.1 dX4_readHead_32 (by decide) ?_
  refine lv_iconst (v := iI (0)) hE.1 hE.2.1 dX4_readHead_33 (by decide) ?_
  refine x_vi (nn := 3) (As := [.int (iI (0)), .int (iI (3)), .int (iI (0))]) (rest := [.ref (ad 13)]) hE hK hN hP hS (s_X4_takeNumber_1 l D K ad mm N hNN v5 ar5 al5 hI  (0) (by omega) (3) (by omega) (0) (by omega)) (x_recv hK hP 1 (Nat.lt_of_lt_of_le (by decide) hNN) (xG_4 rfl) rfl) rfl mw_619 mw_621 mw_7 mw_115 mw_622 (by decide +kernel) ⟨by decide, by decide⟩ hl.1 rfl (Nat.le_of_ble_eq_true rfl) ⟨Nat.zero_le _, Nat.zero_le _⟩ dX4_readHead_34 (fun r6 v6 ar6 al6 H locs hq6 hP hS => ?_)
  obtain ⟨⟨z6, hz6, rfl⟩, hI, hq6⟩ := hq6
  have hI : XI v6 := hI
  refine x_put (x := iI (z6)) hE hK hN hP hS 13 (Nat.lt_of_lt_of_le (by decide) hNN) (xG_1 rfl) rfl hin1 tyX1 tyX1_ok nmX1 1 (by decide) mw_184 rfl rfl rfl (Nat.le_of_ble_eq_true rfl) (xG_1 rfl) dX4_readHead_37 (fun v7 H locs hv7 hP hS => ?_)
  have hI := XI_putN hI hv7 (by decide)
  exact kr v7 ar6 al6 _ _ _ _ ⟨hI, fun i j h => ((up_oth hv7 (fun q => h (by rcases q with ⟨rfl, rfl⟩; decide))).trans ((hq6 i j (fun q => h (mem_sub (by decide) q))).trans ((hq5 i j (fun q => h (mem_sub (by decide) q))).trans ((up_oth hv4 (fun q => h (by rcases q with ⟨rfl, rfl⟩; decide))).trans ((hq3 i j (fun q => h (mem_sub (by decide) q))).trans ((hq2 i j (fun q => h (mem_sub (by decide) q))).trans (hq1 i j (fun q => h (mem_sub (by decide) q)))))))))⟩ hP hS dX4_readHead_40

theorem dX4_readLine_0 : decode cX4_readLine 0 = .ok (.aload_n 1, 1) := by decide +kernel
theorem dX4_readLine_1 : decode cX4_readLine 1 = .ok (.getfield 43, 3) := by decide +kernel
theorem dX4_readLine_4 : decode cX4_readLine 4 = .ok (.ifCond .ne 11, 3) := by decide +kernel
theorem dX4_readLine_7 : decode cX4_readLine 7 = .ok (.aload_n 0, 1) := by decide +kernel
theorem dX4_readLine_8 : decode cX4_readLine 8 = .ok (.aload_n 1, 1) := by decide +kernel
theorem dX4_readLine_9 : decode cX4_readLine 9 = .ok (.invokevirtual 46, 3) := by decide +kernel
theorem dX4_readLine_12 : decode cX4_readLine 12 = .ok (.goto 132, 3) := by decide +kernel
theorem dX4_readLine_15 : decode cX4_readLine 15 = .ok (.aload_n 0, 1) := by decide +kernel
theorem dX4_readLine_16 : decode cX4_readLine 16 = .ok (.ldc 49, 2) := by decide +kernel
theorem dX4_readLine_18 : decode cX4_readLine 18 = .ok (.invokevirtual 51, 3) := by decide +kernel
theorem dX4_readLine_21 : decode cX4_readLine 21 = .ok (.ifCond .eq 11, 3) := by decide +kernel
theorem dX4_readLine_24 : decode cX4_readLine 24 = .ok (.aload_n 0, 1) := by decide +kernel
theorem dX4_readLine_25 : decode cX4_readLine 25 = .ok (.aload_n 1, 1) := by decide +kernel
theorem dX4_readLine_26 : decode cX4_readLine 26 = .ok (.invokevirtual 55, 3) := by decide +kernel
theorem dX4_readLine_29 : decode cX4_readLine 29 = .ok (.goto 115, 3) := by decide +kernel
theorem dX4_readLine_32 : decode cX4_readLine 32 = .ok (.aload_n 0, 1) := by decide +kernel
theorem dX4_readLine_33 : decode cX4_readLine 33 = .ok (.ldc 58, 2) := by decide +kernel
theorem dX4_readLine_35 : decode cX4_readLine 35 = .ok (.invokevirtual 51, 3) := by decide +kernel
theorem dX4_readLine_38 : decode cX4_readLine 38 = .ok (.ifCond .eq 11, 3) := by decide +kernel
theorem dX4_readLine_41 : decode cX4_readLine 41 = .ok (.aload_n 0, 1) := by decide +kernel
theorem dX4_readLine_42 : decode cX4_readLine 42 = .ok (.aload_n 1, 1) := by decide +kernel
theorem dX4_readLine_43 : decode cX4_readLine 43 = .ok (.invokevirtual 60, 3) := by decide +kernel
theorem dX4_readLine_46 : decode cX4_readLine 46 = .ok (.goto 98, 3) := by decide +kernel
theorem dX4_readLine_49 : decode cX4_readLine 49 = .ok (.aload_n 0, 1) := by decide +kernel
theorem dX4_readLine_50 : decode cX4_readLine 50 = .ok (.ldc 63, 2) := by decide +kernel
theorem dX4_readLine_52 : decode cX4_readLine 52 = .ok (.invokevirtual 51, 3) := by decide +kernel
theorem dX4_readLine_55 : decode cX4_readLine 55 = .ok (.ifCond .eq 11, 3) := by decide +kernel
theorem dX4_readLine_58 : decode cX4_readLine 58 = .ok (.aload_n 0, 1) := by decide +kernel
theorem dX4_readLine_59 : decode cX4_readLine 59 = .ok (.aload_n 1, 1) := by decide +kernel
theorem dX4_readLine_60 : decode cX4_readLine 60 = .ok (.invokevirtual 65, 3) := by decide +kernel
theorem dX4_readLine_63 : decode cX4_readLine 63 = .ok (.goto 81, 3) := by decide +kernel
theorem dX4_readLine_66 : decode cX4_readLine 66 = .ok (.aload_n 0, 1) := by decide +kernel
theorem dX4_readLine_67 : decode cX4_readLine 67 = .ok (.ldc 68, 2) := by decide +kernel
theorem dX4_readLine_69 : decode cX4_readLine 69 = .ok (.invokevirtual 51, 3) := by decide +kernel
theorem dX4_readLine_72 : decode cX4_readLine 72 = .ok (.ifCond .eq 11, 3) := by decide +kernel
theorem dX4_readLine_75 : decode cX4_readLine 75 = .ok (.aload_n 0, 1) := by decide +kernel
theorem dX4_readLine_76 : decode cX4_readLine 76 = .ok (.aload_n 1, 1) := by decide +kernel
theorem dX4_readLine_77 : decode cX4_readLine 77 = .ok (.invokevirtual 70, 3) := by decide +kernel
theorem dX4_readLine_80 : decode cX4_readLine 80 = .ok (.goto 64, 3) := by decide +kernel
theorem dX4_readLine_83 : decode cX4_readLine 83 = .ok (.aload_n 0, 1) := by decide +kernel
theorem dX4_readLine_84 : decode cX4_readLine 84 = .ok (.ldc 73, 2) := by decide +kernel
theorem dX4_readLine_86 : decode cX4_readLine 86 = .ok (.invokevirtual 51, 3) := by decide +kernel
theorem dX4_readLine_89 : decode cX4_readLine 89 = .ok (.ifCond .eq 33, 3) := by decide +kernel
theorem dX4_readLine_92 : decode cX4_readLine 92 = .ok (.aload_n 0, 1) := by decide +kernel
theorem dX4_readLine_93 : decode cX4_readLine 93 = .ok (.invokevirtual 33, 3) := by decide +kernel
theorem dX4_readLine_96 : decode cX4_readLine 96 = .ok (.aload_n 1, 1) := by decide +kernel
theorem dX4_readLine_97 : decode cX4_readLine 97 = .ok (.dup, 1) := by decide +kernel
theorem dX4_readLine_98 : decode cX4_readLine 98 = .ok (.getfield 75, 3) := by decide +kernel
theorem dX4_readLine_101 : decode cX4_readLine 101 = .ok (.iconst 1, 1) := by decide +kernel
theorem dX4_readLine_102 : decode cX4_readLine 102 = .ok (.aload_n 0, 1) := by decide +kernel
theorem dX4_readLine_103 : decode cX4_readLine 103 = .ok (.iconst 0, 1) := by decide +kernel
theorem dX4_readLine_104 : decode cX4_readLine 104 = .ok (.aload_n 1, 1) := by decide +kernel
theorem dX4_readLine_105 : decode cX4_readLine 105 = .ok (.getfield 78, 3) := by decide +kernel
theorem dX4_readLine_108 : decode cX4_readLine 108 = .ok (.iconst 1, 1) := by decide +kernel
theorem dX4_readLine_109 : decode cX4_readLine 109 = .ok (.isub, 1) := by decide +kernel
theorem dX4_readLine_110 : decode cX4_readLine 110 = .ok (.iconst 0, 1) := by decide +kernel
theorem dX4_readLine_111 : decode cX4_readLine 111 = .ok (.invokevirtual 81, 3) := by decide +kernel
theorem dX4_readLine_114 : decode cX4_readLine 114 = .ok (.ishl, 1) := by decide +kernel
theorem dX4_readLine_115 : decode cX4_readLine 115 = .ok (.ior, 1) := by decide +kernel
theorem dX4_readLine_116 : decode cX4_readLine 116 = .ok (.putfield 75, 3) := by decide +kernel
theorem dX4_readLine_119 : decode cX4_readLine 119 = .ok (.goto 25, 3) := by decide +kernel
theorem dX4_readLine_122 : decode cX4_readLine 122 = .ok (.aload_n 0, 1) := by decide +kernel
theorem dX4_readLine_123 : decode cX4_readLine 123 = .ok (.ldc 85, 2) := by decide +kernel
theorem dX4_readLine_125 : decode cX4_readLine 125 = .ok (.invokevirtual 51, 3) := by decide +kernel
theorem dX4_readLine_128 : decode cX4_readLine 128 = .ok (.ifCond .eq 11, 3) := by decide +kernel
theorem dX4_readLine_131 : decode cX4_readLine 131 = .ok (.aload_n 0, 1) := by decide +kernel
theorem dX4_readLine_132 : decode cX4_readLine 132 = .ok (.aload_n 1, 1) := by decide +kernel
theorem dX4_readLine_133 : decode cX4_readLine 133 = .ok (.invokevirtual 87, 3) := by decide +kernel
theorem dX4_readLine_136 : decode cX4_readLine 136 = .ok (.goto 8, 3) := by decide +kernel
theorem dX4_readLine_139 : decode cX4_readLine 139 = .ok (.aload_n 0, 1) := by decide +kernel
theorem dX4_readLine_140 : decode cX4_readLine 140 = .ok (.iconst 1, 1) := by decide +kernel
theorem dX4_readLine_141 : decode cX4_readLine 141 = .ok (.invokevirtual 90, 3) := by decide +kernel
theorem dX4_readLine_144 : decode cX4_readLine 144 = .ok (.aload_n 0, 1) := by decide +kernel
theorem dX4_readLine_145 : decode cX4_readLine 145 = .ok (.getfield 27, 3) := by decide +kernel
theorem dX4_readLine_148 : decode cX4_readLine 148 = .ok (.ifCond .ne 16, 3) := by decide +kernel
theorem dX4_readLine_151 : decode cX4_readLine 151 = .ok (.aload_n 0, 1) := by decide +kernel
theorem dX4_readLine_152 : decode cX4_readLine 152 = .ok (.getfield 36, 3) := by decide +kernel
theorem dX4_readLine_155 : decode cX4_readLine 155 = .ok (.iconst 4, 1) := by decide +kernel
theorem dX4_readLine_156 : decode cX4_readLine 156 = .ok (.if_icmp .eq 8, 3) := by decide +kernel
theorem dX4_readLine_159 : decode cX4_readLine 159 = .ok (.aload_n 0, 1) := by decide +kernel
theorem dX4_readLine_160 : decode cX4_readLine 160 = .ok (.iconst 1, 1) := by decide +kernel
theorem dX4_readLine_161 : decode cX4_readLine 161 = .ok (.invokevirtual 90, 3) := by decide +kernel
theorem dX4_readLine_164 : decode cX4_readLine 164 = .ok (.aload_n 0, 1) := by decide +kernel
theorem dX4_readLine_165 : decode cX4_readLine 165 = .ok (.invokevirtual 33, 3) := by decide +kernel
theorem dX4_readLine_168 : decode cX4_readLine 168 = .ok (.aload_n 1, 1) := by decide +kernel
theorem dX4_readLine_169 : decode cX4_readLine 169 = .ok (.dup, 1) := by decide +kernel
theorem dX4_readLine_170 : decode cX4_readLine 170 = .ok (.getfield 43, 3) := by decide +kernel
theorem dX4_readLine_173 : decode cX4_readLine 173 = .ok (.iconst 1, 1) := by decide +kernel
theorem dX4_readLine_174 : decode cX4_readLine 174 = .ok (.iadd, 1) := by decide +kernel
theorem dX4_readLine_175 : decode cX4_readLine 175 = .ok (.putfield 43, 3) := by decide +kernel
theorem dX4_readLine_178 : decode cX4_readLine 178 = .ok (.return_, 1) := by decide +kernel
set_option maxHeartbeats 4000000 in
set_option maxRecDepth 100000 in
theorem s_X4_readLine_1_13 (l : Launch) (D : va_G) (K : Nat → ClassId) (ad : Nat → Nat) (mm : Option Nat) (N : Nat) (hNN : 132 ≤ N) (v ar : sI) (al : sL) (hI : XI v) (tk tv : Nat → Nat) : Met l yX4_readLine (wM yX4_readLine cX4_readLine 2 none) (rmD 8) (va_Pc [.ref (ad 1), .ref (ad 13)] (twPre D K ad (xG ad K mm) N v ar al tk tv)) (va_Qv (fun u : sT => XI u.1 ∧ (∀ i j : Nat, (i, j) ∉ ([(1, 1), (1, 2), (1, 4), (1, 5), (1, 6), (13, 0), (13, 1), (13, 2), (13, 3), (13, 4), (13, 5), (13, 6), (13, 7), (13, 8), (13, 9), (13, 10)] : List (Nat × Nat)) → u.1 i j = v i j)) (wB D ad (xG ad K mm) N) (inW ad N)) 0 0 (inW ad N) := by
  refine s_metV (by decide) (Nat.le_of_ble_eq_true rfl) ?_
  intro p e s m below meth c ls args Q hE hB hl kr
  have hE : CallFix p m c cX4_readLine 2 s args tbG "TaleCourt$Reader" := hE
  obtain ⟨⟨hP, hK, hN⟩, hT, hTR⟩ := hB
  have hS : va_S (inW ad N) s.heap s.heap [] := va_S.rf
  have hl : lv_has ls 2 [(0, .ref (ad 1)), (1, .ref (ad 13))] := hl
  refine lv_aload_n hE.1 hE.2.1 dX4_readLine_0 rfl (lv_at hl 1 rfl) ?_
  obtain ⟨z1, hz1, ez1⟩ := iI_of (v 13 4)
  refine x_get (x := .int (v 13 4)) hE hK hP 13 (Nat.lt_of_lt_of_le (by decide) hNN) (xG_1 rfl) rfl hin1 4 (by decide) mw_195 rfl dX4_readLine_1 ?_
  refine x_top (y := iI (z1)) ez1 ?_
  refine s_if_ne (a := z1) (tgt := 15) hE.1 hE.2.1 (by omega) dX4_readLine_4 (by decide) (fun c2 => ?_) (fun c2 => ?_)
  · skip
    refine lv_aload_n hE.1 hE.2.1 dX4_readLine_15 rfl (lv_at hl 0 rfl) ?_
    refine va_ldcS (index := 49) (q := tk 3) hE.1 hE.2.1 hE.2.2.2.1 (show vk_R "TaleCourt$Reader" 49 "motif" (tk 3) s from hTR 3 (by decide)) dX4_readLine_16 ?_
    refine x_viB (nn := 1) (As := [.ref (tk 3)]) (rest := []) hE hK hN hP hS (s_X4_isWord_1_1003 l D K ad mm N hNN v ar al hI tk tv  ) tw_blind (tw_now hK hN hP hT hTR hS) (x_recv hK hP 1 (Nat.lt_of_lt_of_le (by decide) hNN) (xG_4 rfl) rfl) rfl mw_562 mw_564 mw_5 mw_115 mw_565 (by decide +kernel) ⟨by decide, by decide⟩ hl.1 rfl (Nat.le_of_ble_eq_true rfl) ⟨Nat.zero_le _, Nat.zero_le _⟩ dX4_readLine_18 (fun r3 v3 ar3 al3 H locs hq3 hP hS => ?_)
    obtain ⟨⟨z3, hz3, rfl⟩, hI, hq3⟩ := hq3
    have hI : XI v3 := hI
    refine s_if_eq (a := z3) (tgt := 32) hE.1 hE.2.1 (by omega) dX4_readLine_21 (by decide) (fun c4 => ?_) (fun c4 => ?_)
    · skip
      refine lv_aload_n hE.1 hE.2.1 dX4_readLine_32 rfl (lv_at hl 0 rfl) ?_
      refine va_ldcS (index := 58) (q := tk 10) hE.1 hE.2.1 hE.2.2.2.1 (show vk_R "TaleCourt$Reader" 58 "join" (tk 10) s from hTR 10 (by decide)) dX4_readLine_33 ?_
      refine x_viB (nn := 1) (As := [.ref (tk 10)]) (rest := []) hE hK hN hP hS (s_X4_isWord_1_1010 l D K ad mm N hNN v3 ar3 al3 hI tk tv  ) tw_blind (tw_now hK hN hP hT hTR hS) (x_recv hK hP 1 (Nat.lt_of_lt_of_le (by decide) hNN) (xG_4 rfl) rfl) rfl mw_562 mw_564 mw_5 mw_115 mw_565 (by decide +kernel) ⟨by decide, by decide⟩ hl.1 rfl (Nat.le_of_ble_eq_true rfl) ⟨Nat.zero_le _, Nat.zero_le _⟩ dX4_readLine_35 (fun r5 v5 ar5 al5 H locs hq5 hP hS => ?_)
      obtain ⟨⟨z5, hz5, rfl⟩, hI, hq5⟩ := hq5
      have hI : XI v5 := hI
      refine s_if_eq (a := z5) (tgt := 49) hE.1 hE.2.1 (by omega) dX4_readLine_38 (by decide) (fun c6 => ?_) (fun c6 => ?_)
      · skip
        refine lv_aload_n hE.1 hE.2.1 dX4_readLine_49 rfl (lv_at hl 0 rfl) ?_
        refine va_ldcS (index := 63) (q := tk 12) hE.1 hE.2.1 hE.2.2.2.1 (show vk_R "TaleCourt$Reader" 63 "clash" (tk 12) s from hTR 12 (by decide)) dX4_readLine_50 ?_
        refine x_viB (nn := 1) (As := [.ref (tk 12)]) (rest := []) hE hK hN hP hS (s_X4_isWord_1_1012 l D K ad mm N hNN v5 ar5 al5 hI tk tv  ) tw_blind (tw_now hK hN hP hT hTR hS) (x_recv hK hP 1 (Nat.lt_of_lt_of_le (by decide) hNN) (xG_4 rfl) rfl) rfl mw_562 mw_564 mw_5 mw_115 mw_565 (by decide +kernel) ⟨by decide, by decide⟩ hl.1 rfl (Nat.le_of_ble_eq_true rfl) ⟨Nat.zero_le _, Nat.zero_le _⟩ dX4_readLine_52 (fun r7 v7 ar7 al7 H locs hq7 hP hS => ?_)
        obtain ⟨⟨z7, hz7, rfl⟩, hI, hq7⟩ := hq7
        have hI : XI v7 := hI
        refine s_if_eq (a := z7) (tgt := 66) hE.1 hE.2.1 (by omega) dX4_readLine_55 (by decide) (fun c8 => ?_) (fun c8 => ?_)
        · skip
          refine lv_aload_n hE.1 hE.2.1 dX4_readLine_66 rfl (lv_at hl 0 rfl) ?_
          refine va_ldcS (index := 68) (q := tk 14) hE.1 hE.2.1 hE.2.2.2.1 (show vk_R "TaleCourt$Reader" 68 "keeps" (tk 14) s from hTR 14 (by decide)) dX4_readLine_67 ?_
          refine x_viB (nn := 1) (As := [.ref (tk 14)]) (rest := []) hE hK hN hP hS (s_X4_isWord_1_1014 l D K ad mm N hNN v7 ar7 al7 hI tk tv  ) tw_blind (tw_now hK hN hP hT hTR hS) (x_recv hK hP 1 (Nat.lt_of_lt_of_le (by decide) hNN) (xG_4 rfl) rfl) rfl mw_562 mw_564 mw_5 mw_115 mw_565 (by decide +kernel) ⟨by decide, by decide⟩ hl.1 rfl (Nat.le_of_ble_eq_true rfl) ⟨Nat.zero_le _, Nat.zero_le _⟩ dX4_readLine_69 (fun r9 v9 ar9 al9 H locs hq9 hP hS => ?_)
          obtain ⟨⟨z9, hz9, rfl⟩, hI, hq9⟩ := hq9
          have hI : XI v9 := hI
          refine s_if_eq (a := z9) (tgt := 83) hE.1 hE.2.1 (by omega) dX4_readLine_72 (by decide) (fun c10 => ?_) (fun c10 => ?_)
          · skip
            refine lv_aload_n hE.1 hE.2.1 dX4_readLine_83 rfl (lv_at hl 0 rfl) ?_
            refine va_ldcS (index := 73) (q := tk 15) hE.1 hE.2.1 hE.2.2.2.1 (show vk_R "TaleCourt$Reader" 73 "forbid" (tk 15) s from hTR 15 (by decide)) dX4_readLine_84 ?_
            refine x_viB (nn := 1) (As := [.ref (tk 15)]) (rest := []) hE hK hN hP hS (s_X4_isWord_1_1015 l D K ad mm N hNN v9 ar9 al9 hI tk tv  ) tw_blind (tw_now hK hN hP hT hTR hS) (x_recv hK hP 1 (Nat.lt_of_lt_of_le (by decide) hNN) (xG_4 rfl) rfl) rfl mw_562 mw_564 mw_5 mw_115 mw_565 (by decide +kernel) ⟨by decide, by decide⟩ hl.1 rfl (Nat.le_of_ble_eq_true rfl) ⟨Nat.zero_le _, Nat.zero_le _⟩ dX4_readLine_86 (fun r11 v11 ar11 al11 H locs hq11 hP hS => ?_)
            obtain ⟨⟨z11, hz11, rfl⟩, hI, hq11⟩ := hq11
            have hI : XI v11 := hI
            refine s_if_eq (a := z11) (tgt := 122) hE.1 hE.2.1 (by omega) dX4_readLine_89 (by decide) (fun c12 => ?_) (fun c12 => ?_)
            · skip
              refine lv_aload_n hE.1 hE.2.1 dX4_readLine_122 rfl (lv_at hl 0 rfl) ?_
              refine va_ldcS (index := 85) (q := tk 16) hE.1 hE.2.1 hE.2.2.2.1 (show vk_R "TaleCourt$Reader" 85 "listener" (tk 16) s from hTR 16 (by decide)) dX4_readLine_123 ?_
              refine x_viB (nn := 1) (As := [.ref (tk 16)]) (rest := []) hE hK hN hP hS (s_X4_isWord_1_1016 l D K ad mm N hNN v11 ar11 al11 hI tk tv  ) tw_blind (tw_now hK hN hP hT hTR hS) (x_recv hK hP 1 (Nat.lt_of_lt_of_le (by decide) hNN) (xG_4 rfl) rfl) rfl mw_562 mw_564 mw_5 mw_115 mw_565 (by decide +kernel) ⟨by decide, by decide⟩ hl.1 rfl (Nat.le_of_ble_eq_true rfl) ⟨Nat.zero_le _, Nat.zero_le _⟩ dX4_readLine_125 (fun r13 v13 ar13 al13 H locs hq13 hP hS => ?_)
              obtain ⟨⟨z13, hz13, rfl⟩, hI, hq13⟩ := hq13
              have hI : XI v13 := hI
              refine s_if_eq (a := z13) (tgt := 139) hE.1 hE.2.1 (by omega) dX4_readLine_128 (by decide) (fun c14 => ?_) (fun c14 => ?_)
              · skip
                refine lv_aload_n hE.1 hE.2.1 dX4_readLine_139 rfl (lv_at hl 0 rfl) ?_
                refine lv_iconst (v := iI (1)) hE.1 hE.2.1 dX4_readLine_140 (by decide) ?_
                refine x_vv (nn := 1) (As := [.int (iI (1))]) (rest := []) hE hK hN hP hS (s_X4_fail_1 l D K ad mm N hNN v13 ar13 al13 hI  (1) (by omega)) (x_recv hK hP 1 (Nat.lt_of_lt_of_le (by decide) hNN) (xG_4 rfl) rfl) rfl mw_614 mw_616 mw_6 mw_115 mw_617 (by decide +kernel) ⟨by decide, by decide⟩ hl.1 rfl (Nat.le_of_ble_eq_true rfl) ⟨Nat.zero_le _, Nat.zero_le _⟩ dX4_readLine_141 (fun v15 ar15 al15 H locs hq15 hP hS => ?_)
                obtain ⟨hI, hq15⟩ := hq15
                have hI : XI v15 := hI
                refine lv_aload_n hE.1 hE.2.1 dX4_readLine_144 rfl (lv_at hl 0 rfl) ?_
                obtain ⟨z16, hz16, ez16⟩ := iI_of (v15 1 1)
                refine x_get (x := .int (v15 1 1)) hE hK hP 1 (Nat.lt_of_lt_of_le (by decide) hNN) (xG_4 rfl) rfl hin4 1 (by decide) mw_148 rfl dX4_readLine_145 ?_
                refine x_top (y := iI (z16)) ez16 ?_
                refine s_if_ne (a := z16) (tgt := 164) hE.1 hE.2.1 (by omega) dX4_readLine_148 (by decide) (fun c17 => ?_) (fun c17 => ?_)
                · skip
                  refine lv_aload_n hE.1 hE.2.1 dX4_readLine_164 rfl (lv_at hl 0 rfl) ?_
                  refine x_vv (nn := 0) (As := []) (rest := []) hE hK hN hP hS (s_X4_step_1 l D K ad mm N hNN v15 ar15 al15 hI  ) (x_recv hK hP 1 (Nat.lt_of_lt_of_le (by decide) hNN) (xG_4 rfl) rfl) rfl mw_538 mw_540 mw_0 mw_115 mw_541 (by decide +kernel) ⟨by decide, by decide⟩ hl.1 rfl (Nat.le_of_ble_eq_true rfl) ⟨Nat.zero_le _, Nat.zero_le _⟩ dX4_readLine_165 (fun v18 ar18 al18 H locs hq18 hP hS => ?_)
                  obtain ⟨hI, hq18⟩ := hq18
                  have hI : XI v18 := hI
                  refine lv_aload_n hE.1 hE.2.1 dX4_readLine_168 rfl (lv_at hl 1 rfl) ?_
                  refine lv_dup hE.1 hE.2.1 dX4_readLine_169 rfl ?_
                  refine x_get (x := .int (v18 13 4)) hE hK hP 13 (Nat.lt_of_lt_of_le (by decide) hNN) (xG_1 rfl) rfl hin1 4 (by decide) mw_195 rfl dX4_readLine_170 ?_
                  refine x_top (y := iI (z1)) ((hq18 13 4 (by decide)).trans ((hq15 13 4 (by decide)).trans ((hq13 13 4 (by decide)).trans ((hq11 13 4 (by decide)).trans ((hq9 13 4 (by decide)).trans ((hq7 13 4 (by decide)).trans ((hq5 13 4 (by decide)).trans ((hq3 13 4 (by decide)).trans ez1)))))))) ?_
                  refine lv_iconst (v := iI (1)) hE.1 hE.2.1 dX4_readLine_173 (by decide) ?_
                  refine lv_iadd hE.1 hE.2.1 dX4_readLine_174 ?_
                  obtain ⟨z19, hz19, ez19⟩ := iI_of (iI (z1) + iI (1))
                  refine x_top ez19 ?_
                  refine x_put (x := iI (z19)) hE hK hN hP hS 13 (Nat.lt_of_lt_of_le (by decide) hNN) (xG_1 rfl) rfl hin1 tyX1 tyX1_ok nmX1 4 (by decide) mw_195 rfl rfl rfl (Nat.le_of_ble_eq_true rfl) (xG_1 rfl) dX4_readLine_175 (fun v20 H locs hv20 hP hS => ?_)
                  have hI := XI_putN hI hv20 (by decide)
                  exact kr v20 ar18 al18 _ _ _ _ ⟨hI, fun i j h => ((up_oth hv20 (fun q => h (by rcases q with ⟨rfl, rfl⟩; decide))).trans ((hq18 i j (fun q => h (mem_sub (by decide) q))).trans ((hq15 i j (fun q => h (mem_sub (by decide) q))).trans ((hq13 i j (fun q => h (mem_sub (by decide) q))).trans ((hq11 i j (fun q => h (mem_sub (by decide) q))).trans ((hq9 i j (fun q => h (mem_sub (by decide) q))).trans ((hq7 i j (fun q => h (mem_sub (by decide) q))).trans ((hq5 i j (fun q => h (mem_sub (by decide) q))).trans (hq3 i j (fun q => h (mem_sub (by decide) q)))))))))))⟩ hP hS dX4_readLine_178
                · skip
                  refine lv_aload_n hE.1 hE.2.1 dX4_readLine_151 rfl (lv_at hl 0 rfl) ?_
                  obtain ⟨z21, hz21, ez21⟩ := iI_of (v15 1 6)
                  refine x_get (x := .int (v15 1 6)) hE hK hP 1 (Nat.lt_of_lt_of_le (by decide) hNN) (xG_4 rfl) rfl hin4 6 (by decide) mw_155 rfl dX4_readLine_152 ?_
                  refine x_top (y := iI (z21)) ez21 ?_
                  refine lv_iconst (v := iI (4)) hE.1 hE.2.1 dX4_readLine_155 (by decide) ?_
                  refine s_icmp_eq (a := z21) (b := 4) (tgt := 164) hE.1 hE.2.1 (by omega) (by omega) dX4_readLine_156 (by decide) (fun c22 => ?_) (fun c22 => ?_)
                  · skip
                    refine lv_aload_n hE.1 hE.2.1 dX4_readLine_164 rfl (lv_at hl 0 rfl) ?_
                    refine x_vv (nn := 0) (As := []) (rest := []) hE hK hN hP hS (s_X4_step_1 l D K ad mm N hNN v15 ar15 al15 hI  ) (x_recv hK hP 1 (Nat.lt_of_lt_of_le (by decide) hNN) (xG_4 rfl) rfl) rfl mw_538 mw_540 mw_0 mw_115 mw_541 (by decide +kernel) ⟨by decide, by decide⟩ hl.1 rfl (Nat.le_of_ble_eq_true rfl) ⟨Nat.zero_le _, Nat.zero_le _⟩ dX4_readLine_165 (fun v23 ar23 al23 H locs hq23 hP hS => ?_)
                    obtain ⟨hI, hq23⟩ := hq23
                    have hI : XI v23 := hI
                    refine lv_aload_n hE.1 hE.2.1 dX4_readLine_168 rfl (lv_at hl 1 rfl) ?_
                    refine lv_dup hE.1 hE.2.1 dX4_readLine_169 rfl ?_
                    refine x_get (x := .int (v23 13 4)) hE hK hP 13 (Nat.lt_of_lt_of_le (by decide) hNN) (xG_1 rfl) rfl hin1 4 (by decide) mw_195 rfl dX4_readLine_170 ?_
                    refine x_top (y := iI (z1)) ((hq23 13 4 (by decide)).trans ((hq15 13 4 (by decide)).trans ((hq13 13 4 (by decide)).trans ((hq11 13 4 (by decide)).trans ((hq9 13 4 (by decide)).trans ((hq7 13 4 (by decide)).trans ((hq5 13 4 (by decide)).trans ((hq3 13 4 (by decide)).trans ez1)))))))) ?_
                    refine lv_iconst (v := iI (1)) hE.1 hE.2.1 dX4_readLine_173 (by decide) ?_
                    refine lv_iadd hE.1 hE.2.1 dX4_readLine_174 ?_
                    obtain ⟨z24, hz24, ez24⟩ := iI_of (iI (z1) + iI (1))
                    refine x_top ez24 ?_
                    refine x_put (x := iI (z24)) hE hK hN hP hS 13 (Nat.lt_of_lt_of_le (by decide) hNN) (xG_1 rfl) rfl hin1 tyX1 tyX1_ok nmX1 4 (by decide) mw_195 rfl rfl rfl (Nat.le_of_ble_eq_true rfl) (xG_1 rfl) dX4_readLine_175 (fun v25 H locs hv25 hP hS => ?_)
                    have hI := XI_putN hI hv25 (by decide)
                    exact kr v25 ar23 al23 _ _ _ _ ⟨hI, fun i j h => ((up_oth hv25 (fun q => h (by rcases q with ⟨rfl, rfl⟩; decide))).trans ((hq23 i j (fun q => h (mem_sub (by decide) q))).trans ((hq15 i j (fun q => h (mem_sub (by decide) q))).trans ((hq13 i j (fun q => h (mem_sub (by decide) q))).trans ((hq11 i j (fun q => h (mem_sub (by decide) q))).trans ((hq9 i j (fun q => h (mem_sub (by decide) q))).trans ((hq7 i j (fun q => h (mem_sub (by decide) q))).trans ((hq5 i j (fun q => h (mem_sub (by decide) q))).trans (hq3 i j (fun q => h (mem_sub (by decide) q)))))))))))⟩ hP hS dX4_readLine_178
                  · skip
                    refine lv_aload_n hE.1 hE.2.1 dX4_readLine_159 rfl (lv_at hl 0 rfl) ?_
                    refine lv_iconst (v := iI (1)) hE.1 hE.2.1 dX4_readLine_160 (by decide) ?_
                    refine x_vv (nn := 1) (As := [.int (iI (1))]) (rest := []) hE hK hN hP hS (s_X4_fail_1 l D K ad mm N hNN v15 ar15 al15 hI  (1) (by omega)) (x_recv hK hP 1 (Nat.lt_of_lt_of_le (by decide) hNN) (xG_4 rfl) rfl) rfl mw_614 mw_616 mw_6 mw_115 mw_617 (by decide +kernel) ⟨by decide, by decide⟩ hl.1 rfl (Nat.le_of_ble_eq_true rfl) ⟨Nat.zero_le _, Nat.zero_le _⟩ dX4_readLine_161 (fun v26 ar26 al26 H locs hq26 hP hS => ?_)
                    obtain ⟨hI, hq26⟩ := hq26
                    have hI : XI v26 := hI
                    refine lv_aload_n hE.1 hE.2.1 dX4_readLine_164 rfl (lv_at hl 0 rfl) ?_
                    refine x_vv (nn := 0) (As := []) (rest := []) hE hK hN hP hS (s_X4_step_1 l D K ad mm N hNN v26 ar26 al26 hI  ) (x_recv hK hP 1 (Nat.lt_of_lt_of_le (by decide) hNN) (xG_4 rfl) rfl) rfl mw_538 mw_540 mw_0 mw_115 mw_541 (by decide +kernel) ⟨by decide, by decide⟩ hl.1 rfl (Nat.le_of_ble_eq_true rfl) ⟨Nat.zero_le _, Nat.zero_le _⟩ dX4_readLine_165 (fun v27 ar27 al27 H locs hq27 hP hS => ?_)
                    obtain ⟨hI, hq27⟩ := hq27
                    have hI : XI v27 := hI
                    refine lv_aload_n hE.1 hE.2.1 dX4_readLine_168 rfl (lv_at hl 1 rfl) ?_
                    refine lv_dup hE.1 hE.2.1 dX4_readLine_169 rfl ?_
                    refine x_get (x := .int (v27 13 4)) hE hK hP 13 (Nat.lt_of_lt_of_le (by decide) hNN) (xG_1 rfl) rfl hin1 4 (by decide) mw_195 rfl dX4_readLine_170 ?_
                    refine x_top (y := iI (z1)) ((hq27 13 4 (by decide)).trans ((hq26 13 4 (by decide)).trans ((hq15 13 4 (by decide)).trans ((hq13 13 4 (by decide)).trans ((hq11 13 4 (by decide)).trans ((hq9 13 4 (by decide)).trans ((hq7 13 4 (by decide)).trans ((hq5 13 4 (by decide)).trans ((hq3 13 4 (by decide)).trans ez1))))))))) ?_
                    refine lv_iconst (v := iI (1)) hE.1 hE.2.1 dX4_readLine_173 (by decide) ?_
                    refine lv_iadd hE.1 hE.2.1 dX4_readLine_174 ?_
                    obtain ⟨z28, hz28, ez28⟩ := iI_of (iI (z1) + iI (1))
                    refine x_top ez28 ?_
                    refine x_put (x := iI (z28)) hE hK hN hP hS 13 (Nat.lt_of_lt_of_le (by decide) hNN) (xG_1 rfl) rfl hin1 tyX1 tyX1_ok nmX1 4 (by decide) mw_195 rfl rfl rfl (Nat.le_of_ble_eq_true rfl) (xG_1 rfl) dX4_readLine_175 (fun v29 H locs hv29 hP hS => ?_)
                    have hI := XI_putN hI hv29 (by decide)
                    exact kr v29 ar27 al27 _ _ _ _ ⟨hI, fun i j h => ((up_oth hv29 (fun q => h (by rcases q with ⟨rfl, rfl⟩; decide))).trans ((hq27 i j (fun q => h (mem_sub (by decide) q))).trans ((hq26 i j (fun q => h (mem_sub (by decide) q))).trans ((hq15 i j (fun q => h (mem_sub (by decide) q))).trans ((hq13 i j (fun q => h (mem_sub (by decide) q))).trans ((hq11 i j (fun q => h (mem_sub (by decide) q))).trans ((hq9 i j (fun q => h (mem_sub (by decide) q))).trans ((hq7 i j (fun q => h (mem_sub (by decide) q))).trans ((hq5 i j (fun q => h (mem_sub (by decide) q))).trans (hq3 i j (fun q => h (mem_sub (by decide) q))))))))))))⟩ hP hS dX4_readLine_178
              · skip
                refine lv_aload_n hE.1 hE.2.1 dX4_readLine_131 rfl (lv_at hl 0 rfl) ?_
                refine lv_aload_n hE.1 hE.2.1 dX4_readLine_132 rfl (lv_at hl 1 rfl) ?_
                refine x_vvB (nn := 1) (As := [.ref (ad 13)]) (rest := []) hE hK hN hP hS (s_X4_readListener_1_13 l D K ad mm N hNN v13 ar13 al13 hI tk tv  ) tw_blind (tw_now hK hN hP hT hTR hS) (x_recv hK hP 1 (Nat.lt_of_lt_of_le (by decide) hNN) (xG_4 rfl) rfl) rfl mw_669 mw_671 mw_14 mw_115 mw_672 (by decide +kernel) ⟨by decide, by decide⟩ hl.1 rfl (Nat.le_of_ble_eq_true rfl) ⟨Nat.zero_le _, Nat.zero_le _⟩ dX4_readLine_133 (fun v30 ar30 al30 H locs hq30 hP hS => ?_)
                obtain ⟨hI, hq30⟩ := hq30
                have hI : XI v30 := hI
                refine lv_goto (tgt := 144) hE.1 hE.2.1 dX4_readLine_136 (by decide) ?_
                refine lv_aload_n hE.1 hE.2.1 dX4_readLine_144 rfl (lv_at hl 0 rfl) ?_
                obtain ⟨z31, hz31, ez31⟩ := iI_of (v30 1 1)
                refine x_get (x := .int (v30 1 1)) hE hK hP 1 (Nat.lt_of_lt_of_le (by decide) hNN) (xG_4 rfl) rfl hin4 1 (by decide) mw_148 rfl dX4_readLine_145 ?_
                refine x_top (y := iI (z31)) ez31 ?_
                refine s_if_ne (a := z31) (tgt := 164) hE.1 hE.2.1 (by omega) dX4_readLine_148 (by decide) (fun c32 => ?_) (fun c32 => ?_)
                · skip
                  refine lv_aload_n hE.1 hE.2.1 dX4_readLine_164 rfl (lv_at hl 0 rfl) ?_
                  refine x_vv (nn := 0) (As := []) (rest := []) hE hK hN hP hS (s_X4_step_1 l D K ad mm N hNN v30 ar30 al30 hI  ) (x_recv hK hP 1 (Nat.lt_of_lt_of_le (by decide) hNN) (xG_4 rfl) rfl) rfl mw_538 mw_540 mw_0 mw_115 mw_541 (by decide +kernel) ⟨by decide, by decide⟩ hl.1 rfl (Nat.le_of_ble_eq_true rfl) ⟨Nat.zero_le _, Nat.zero_le _⟩ dX4_readLine_165 (fun v33 ar33 al33 H locs hq33 hP hS => ?_)
                  obtain ⟨hI, hq33⟩ := hq33
                  have hI : XI v33 := hI
                  refine lv_aload_n hE.1 hE.2.1 dX4_readLine_168 rfl (lv_at hl 1 rfl) ?_
                  refine lv_dup hE.1 hE.2.1 dX4_readLine_169 rfl ?_
                  refine x_get (x := .int (v33 13 4)) hE hK hP 13 (Nat.lt_of_lt_of_le (by decide) hNN) (xG_1 rfl) rfl hin1 4 (by decide) mw_195 rfl dX4_readLine_170 ?_
                  refine x_top (y := iI (z1)) ((hq33 13 4 (by decide)).trans ((hq30 13 4 (by decide)).trans ((hq13 13 4 (by decide)).trans ((hq11 13 4 (by decide)).trans ((hq9 13 4 (by decide)).trans ((hq7 13 4 (by decide)).trans ((hq5 13 4 (by decide)).trans ((hq3 13 4 (by decide)).trans ez1)))))))) ?_
                  refine lv_iconst (v := iI (1)) hE.1 hE.2.1 dX4_readLine_173 (by decide) ?_
                  refine lv_iadd hE.1 hE.2.1 dX4_readLine_174 ?_
                  obtain ⟨z34, hz34, ez34⟩ := iI_of (iI (z1) + iI (1))
                  refine x_top ez34 ?_
                  refine x_put (x := iI (z34)) hE hK hN hP hS 13 (Nat.lt_of_lt_of_le (by decide) hNN) (xG_1 rfl) rfl hin1 tyX1 tyX1_ok nmX1 4 (by decide) mw_195 rfl rfl rfl (Nat.le_of_ble_eq_true rfl) (xG_1 rfl) dX4_readLine_175 (fun v35 H locs hv35 hP hS => ?_)
                  have hI := XI_putN hI hv35 (by decide)
                  exact kr v35 ar33 al33 _ _ _ _ ⟨hI, fun i j h => ((up_oth hv35 (fun q => h (by rcases q with ⟨rfl, rfl⟩; decide))).trans ((hq33 i j (fun q => h (mem_sub (by decide) q))).trans ((hq30 i j (fun q => h (mem_sub (by decide) q))).trans ((hq13 i j (fun q => h (mem_sub (by decide) q))).trans ((hq11 i j (fun q => h (mem_sub (by decide) q))).trans ((hq9 i j (fun q => h (mem_sub (by decide) q))).trans ((hq7 i j (fun q => h (mem_sub (by decide) q))).trans ((hq5 i j (fun q => h (mem_sub (by decide) q))).trans (hq3 i j (fun q => h (mem_sub (by decide) q)))))))))))⟩ hP hS dX4_readLine_178
                · skip
                  refine lv_aload_n hE.1 hE.2.1 dX4_readLine_151 rfl (lv_at hl 0 rfl) ?_
                  obtain ⟨z36, hz36, ez36⟩ := iI_of (v30 1 6)
                  refine x_get (x := .int (v30 1 6)) hE hK hP 1 (Nat.lt_of_lt_of_le (by decide) hNN) (xG_4 rfl) rfl hin4 6 (by decide) mw_155 rfl dX4_readLine_152 ?_
                  refine x_top (y := iI (z36)) ez36 ?_
                  refine lv_iconst (v := iI (4)) hE.1 hE.2.1 dX4_readLine_155 (by decide) ?_
                  refine s_icmp_eq (a := z36) (b := 4) (tgt := 164) hE.1 hE.2.1 (by omega) (by omega) dX4_readLine_156 (by decide) (fun c37 => ?_) (fun c37 => ?_)
                  · skip
                    refine lv_aload_n hE.1 hE.2.1 dX4_readLine_164 rfl (lv_at hl 0 rfl) ?_
                    refine x_vv (nn := 0) (As := []) (rest := []) hE hK hN hP hS (s_X4_step_1 l D K ad mm N hNN v30 ar30 al30 hI  ) (x_recv hK hP 1 (Nat.lt_of_lt_of_le (by decide) hNN) (xG_4 rfl) rfl) rfl mw_538 mw_540 mw_0 mw_115 mw_541 (by decide +kernel) ⟨by decide, by decide⟩ hl.1 rfl (Nat.le_of_ble_eq_true rfl) ⟨Nat.zero_le _, Nat.zero_le _⟩ dX4_readLine_165 (fun v38 ar38 al38 H locs hq38 hP hS => ?_)
                    obtain ⟨hI, hq38⟩ := hq38
                    have hI : XI v38 := hI
                    refine lv_aload_n hE.1 hE.2.1 dX4_readLine_168 rfl (lv_at hl 1 rfl) ?_
                    refine lv_dup hE.1 hE.2.1 dX4_readLine_169 rfl ?_
                    refine x_get (x := .int (v38 13 4)) hE hK hP 13 (Nat.lt_of_lt_of_le (by decide) hNN) (xG_1 rfl) rfl hin1 4 (by decide) mw_195 rfl dX4_readLine_170 ?_
                    refine x_top (y := iI (z1)) ((hq38 13 4 (by decide)).trans ((hq30 13 4 (by decide)).trans ((hq13 13 4 (by decide)).trans ((hq11 13 4 (by decide)).trans ((hq9 13 4 (by decide)).trans ((hq7 13 4 (by decide)).trans ((hq5 13 4 (by decide)).trans ((hq3 13 4 (by decide)).trans ez1)))))))) ?_
                    refine lv_iconst (v := iI (1)) hE.1 hE.2.1 dX4_readLine_173 (by decide) ?_
                    refine lv_iadd hE.1 hE.2.1 dX4_readLine_174 ?_
                    obtain ⟨z39, hz39, ez39⟩ := iI_of (iI (z1) + iI (1))
                    refine x_top ez39 ?_
                    refine x_put (x := iI (z39)) hE hK hN hP hS 13 (Nat.lt_of_lt_of_le (by decide) hNN) (xG_1 rfl) rfl hin1 tyX1 tyX1_ok nmX1 4 (by decide) mw_195 rfl rfl rfl (Nat.le_of_ble_eq_true rfl) (xG_1 rfl) dX4_readLine_175 (fun v40 H locs hv40 hP hS => ?_)
                    have hI := XI_putN hI hv40 (by decide)
                    exact kr v40 ar38 al38 _ _ _ _ ⟨hI, fun i j h => ((up_oth hv40 (fun q => h (by rcases q with ⟨rfl, rfl⟩; decide))).trans ((hq38 i j (fun q => h (mem_sub (by decide) q))).trans ((hq30 i j (fun q => h (mem_sub (by decide) q))).trans ((hq13 i j (fun q => h (mem_sub (by decide) q))).trans ((hq11 i j (fun q => h (mem_sub (by decide) q))).trans ((hq9 i j (fun q => h (mem_sub (by decide) q))).trans ((hq7 i j (fun q => h (mem_sub (by decide) q))).trans ((hq5 i j (fun q => h (mem_sub (by decide) q))).trans (hq3 i j (fun q => h (mem_sub (by decide) q)))))))))))⟩ hP hS dX4_readLine_178
                  · skip
                    refine lv_aload_n hE.1 hE.2.1 dX4_readLine_159 rfl (lv_at hl 0 rfl) ?_
                    refine lv_iconst (v := iI (1)) hE.1 hE.2.1 dX4_readLine_160 (by decide) ?_
                    refine x_vv (nn := 1) (As := [.int (iI (1))]) (rest := []) hE hK hN hP hS (s_X4_fail_1 l D K ad mm N hNN v30 ar30 al30 hI  (1) (by omega)) (x_recv hK hP 1 (Nat.lt_of_lt_of_le (by decide) hNN) (xG_4 rfl) rfl) rfl mw_614 mw_616 mw_6 mw_115 mw_617 (by decide +kernel) ⟨by decide, by decide⟩ hl.1 rfl (Nat.le_of_ble_eq_true rfl) ⟨Nat.zero_le _, Nat.zero_le _⟩ dX4_readLine_161 (fun v41 ar41 al41 H locs hq41 hP hS => ?_)
                    obtain ⟨hI, hq41⟩ := hq41
                    have hI : XI v41 := hI
                    refine lv_aload_n hE.1 hE.2.1 dX4_readLine_164 rfl (lv_at hl 0 rfl) ?_
                    refine x_vv (nn := 0) (As := []) (rest := []) hE hK hN hP hS (s_X4_step_1 l D K ad mm N hNN v41 ar41 al41 hI  ) (x_recv hK hP 1 (Nat.lt_of_lt_of_le (by decide) hNN) (xG_4 rfl) rfl) rfl mw_538 mw_540 mw_0 mw_115 mw_541 (by decide +kernel) ⟨by decide, by decide⟩ hl.1 rfl (Nat.le_of_ble_eq_true rfl) ⟨Nat.zero_le _, Nat.zero_le _⟩ dX4_readLine_165 (fun v42 ar42 al42 H locs hq42 hP hS => ?_)
                    obtain ⟨hI, hq42⟩ := hq42
                    have hI : XI v42 := hI
                    refine lv_aload_n hE.1 hE.2.1 dX4_readLine_168 rfl (lv_at hl 1 rfl) ?_
                    refine lv_dup hE.1 hE.2.1 dX4_readLine_169 rfl ?_
                    refine x_get (x := .int (v42 13 4)) hE hK hP 13 (Nat.lt_of_lt_of_le (by decide) hNN) (xG_1 rfl) rfl hin1 4 (by decide) mw_195 rfl dX4_readLine_170 ?_
                    refine x_top (y := iI (z1)) ((hq42 13 4 (by decide)).trans ((hq41 13 4 (by decide)).trans ((hq30 13 4 (by decide)).trans ((hq13 13 4 (by decide)).trans ((hq11 13 4 (by decide)).trans ((hq9 13 4 (by decide)).trans ((hq7 13 4 (by decide)).trans ((hq5 13 4 (by decide)).trans ((hq3 13 4 (by decide)).trans ez1))))))))) ?_
                    refine lv_iconst (v := iI (1)) hE.1 hE.2.1 dX4_readLine_173 (by decide) ?_
                    refine lv_iadd hE.1 hE.2.1 dX4_readLine_174 ?_
                    obtain ⟨z43, hz43, ez43⟩ := iI_of (iI (z1) + iI (1))
                    refine x_top ez43 ?_
                    refine x_put (x := iI (z43)) hE hK hN hP hS 13 (Nat.lt_of_lt_of_le (by decide) hNN) (xG_1 rfl) rfl hin1 tyX1 tyX1_ok nmX1 4 (by decide) mw_195 rfl rfl rfl (Nat.le_of_ble_eq_true rfl) (xG_1 rfl) dX4_readLine_175 (fun v44 H locs hv44 hP hS => ?_)
                    have hI := XI_putN hI hv44 (by decide)
                    exact kr v44 ar42 al42 _ _ _ _ ⟨hI, fun i j h => ((up_oth hv44 (fun q => h (by rcases q with ⟨rfl, rfl⟩; decide))).trans ((hq42 i j (fun q => h (mem_sub (by decide) q))).trans ((hq41 i j (fun q => h (mem_sub (by decide) q))).trans ((hq30 i j (fun q => h (mem_sub (by decide) q))).trans ((hq13 i j (fun q => h (mem_sub (by decide) q))).trans ((hq11 i j (fun q => h (mem_sub (by decide) q))).trans ((hq9 i j (fun q => h (mem_sub (by decide) q))).trans ((hq7 i j (fun q => h (mem_sub (by decide) q))).trans ((hq5 i j (fun q => h (mem_sub (by decide) q))).trans (hq3 i j (fun q => h (mem_sub (by decide) q))))))))))))⟩ hP hS dX4_readLine_178
            · skip
              refine lv_aload_n hE.1 hE.2.1 dX4_readLine_92 rfl (lv_at hl 0 rfl) ?_
              refine x_vv (nn := 0) (As := []) (rest := []) hE hK hN hP hS (s_X4_step_1 l D K ad mm N hNN v11 ar11 al11 hI  ) (x_recv hK hP 1 (Nat.lt_of_lt_of_le (by decide) hNN) (xG_4 rfl) rfl) rfl mw_538 mw_540 mw_0 mw_115 mw_541 (by decide +kernel) ⟨by decide, by decide⟩ hl.1 rfl (Nat.le_of_ble_eq_true rfl) ⟨Nat.zero_le _, Nat.zero_le _⟩ dX4_readLine_93 (fun v45 ar45 al45 H locs hq45 hP hS => ?_)
              obtain ⟨hI, hq45⟩ := hq45
              have hI : XI v45 := hI
              refine lv_aload_n hE.1 hE.2.1 dX4_readLine_96 rfl (lv_at hl 1 rfl) ?_
              refine lv_dup hE.1 hE.2.1 dX4_readLine_97 rfl ?_
              obtain ⟨z46, hz46, ez46⟩ := iI_of (v45 13 10)
              refine x_get (x := .int (v45 13 10)) hE hK hP 13 (Nat.lt_of_lt_of_le (by decide) hNN) (xG_1 rfl) rfl hin1 10 (by decide) mw_215 rfl dX4_readLine_98 ?_
              refine x_top (y := iI (z46)) ez46 ?_
              refine lv_iconst (v := iI (1)) hE.1 hE.2.1 dX4_readLine_101 (by decide) ?_
              refine lv_aload_n hE.1 hE.2.1 dX4_readLine_102 rfl (lv_at hl 0 rfl) ?_
              refine lv_iconst (v := iI (0)) hE.1 hE.2.1 dX4_readLine_103 (by decide) ?_
              refine lv_aload_n hE.1 hE.2.1 dX4_readLine_104 rfl (lv_at hl 1 rfl) ?_
              obtain ⟨z47, hz47, ez47⟩ := XI_get hI 13 2 0 9 (by decide)
              refine x_get (x := .int (v45 13 2)) hE hK hP 13 (Nat.lt_of_lt_of_le (by decide) hNN) (xG_1 rfl) rfl hin1 2 (by decide) mw_188 rfl dX4_readLine_105 ?_
              refine x_top (y := iI (z47)) ez47 ?_
              refine lv_iconst (v := iI (1)) hE.1 hE.2.1 dX4_readLine_108 (by decide) ?_
              refine lv_isub hE.1 hE.2.1 dX4_readLine_109 ?_
              refine x_top (y := iI (z47 - 1)) ((iI_sub (z47) (1)).trans (congrArg iI (by omega))) ?_
              refine lv_iconst (v := iI (0)) hE.1 hE.2.1 dX4_readLine_110 (by decide) ?_
              refine x_vi (nn := 3) (As := [.int (iI (0)), .int (iI (z47 - 1)), .int (iI (0))]) (rest := [.int (iI (1)), .int (iI (z46)), .ref (ad 13)]) hE hK hN hP hS (s_X4_takeNumber_1 l D K ad mm N hNN v45 ar45 al45 hI  (0) (by omega) (z47 - 1) (by omega) (0) (by omega)) (x_recv hK hP 1 (Nat.lt_of_lt_of_le (by decide) hNN) (xG_4 rfl) rfl) rfl mw_619 mw_621 mw_7 mw_115 mw_622 (by decide +kernel) ⟨by decide, by decide⟩ hl.1 rfl (Nat.le_of_ble_eq_true rfl) ⟨Nat.zero_le _, Nat.zero_le _⟩ dX4_readLine_111 (fun r48 v48 ar48 al48 H locs hq48 hP hS => ?_)
              obtain ⟨⟨z48, hz48, rfl⟩, hI, hq48⟩ := hq48
              have hI : XI v48 := hI
              refine lv_ishl hE.1 hE.2.1 dX4_readLine_114 ?_
              obtain ⟨z49, hz49, ez49⟩ := iI_shl1 (a := z48) (by omega)
              refine x_top ez49 ?_
              refine lv_ior hE.1 hE.2.1 dX4_readLine_115 ?_
              obtain ⟨z50, hz50, ez50⟩ := iI_of (iI (z46) ||| iI (z49))
              refine x_top ez50 ?_
              refine x_put (x := iI (z50)) hE hK hN hP hS 13 (Nat.lt_of_lt_of_le (by decide) hNN) (xG_1 rfl) rfl hin1 tyX1 tyX1_ok nmX1 10 (by decide) mw_215 rfl rfl rfl (Nat.le_of_ble_eq_true rfl) (xG_1 rfl) dX4_readLine_116 (fun v51 H locs hv51 hP hS => ?_)
              have hI := XI_putN hI hv51 (by decide)
              refine lv_goto (tgt := 144) hE.1 hE.2.1 dX4_readLine_119 (by decide) ?_
              refine lv_aload_n hE.1 hE.2.1 dX4_readLine_144 rfl (lv_at hl 0 rfl) ?_
              obtain ⟨z52, hz52, ez52⟩ := iI_of (v51 1 1)
              refine x_get (x := .int (v51 1 1)) hE hK hP 1 (Nat.lt_of_lt_of_le (by decide) hNN) (xG_4 rfl) rfl hin4 1 (by decide) mw_148 rfl dX4_readLine_145 ?_
              refine x_top (y := iI (z52)) ez52 ?_
              refine s_if_ne (a := z52) (tgt := 164) hE.1 hE.2.1 (by omega) dX4_readLine_148 (by decide) (fun c53 => ?_) (fun c53 => ?_)
              · skip
                refine lv_aload_n hE.1 hE.2.1 dX4_readLine_164 rfl (lv_at hl 0 rfl) ?_
                refine x_vv (nn := 0) (As := []) (rest := []) hE hK hN hP hS (s_X4_step_1 l D K ad mm N hNN v51 ar48 al48 hI  ) (x_recv hK hP 1 (Nat.lt_of_lt_of_le (by decide) hNN) (xG_4 rfl) rfl) rfl mw_538 mw_540 mw_0 mw_115 mw_541 (by decide +kernel) ⟨by decide, by decide⟩ hl.1 rfl (Nat.le_of_ble_eq_true rfl) ⟨Nat.zero_le _, Nat.zero_le _⟩ dX4_readLine_165 (fun v54 ar54 al54 H locs hq54 hP hS => ?_)
                obtain ⟨hI, hq54⟩ := hq54
                have hI : XI v54 := hI
                refine lv_aload_n hE.1 hE.2.1 dX4_readLine_168 rfl (lv_at hl 1 rfl) ?_
                refine lv_dup hE.1 hE.2.1 dX4_readLine_169 rfl ?_
                refine x_get (x := .int (v54 13 4)) hE hK hP 13 (Nat.lt_of_lt_of_le (by decide) hNN) (xG_1 rfl) rfl hin1 4 (by decide) mw_195 rfl dX4_readLine_170 ?_
                refine x_top (y := iI (z1)) ((hq54 13 4 (by decide)).trans ((up_oth hv51 (by decide)).trans ((hq48 13 4 (by decide)).trans ((hq45 13 4 (by decide)).trans ((hq11 13 4 (by decide)).trans ((hq9 13 4 (by decide)).trans ((hq7 13 4 (by decide)).trans ((hq5 13 4 (by decide)).trans ((hq3 13 4 (by decide)).trans ez1))))))))) ?_
                refine lv_iconst (v := iI (1)) hE.1 hE.2.1 dX4_readLine_173 (by decide) ?_
                refine lv_iadd hE.1 hE.2.1 dX4_readLine_174 ?_
                obtain ⟨z55, hz55, ez55⟩ := iI_of (iI (z1) + iI (1))
                refine x_top ez55 ?_
                refine x_put (x := iI (z55)) hE hK hN hP hS 13 (Nat.lt_of_lt_of_le (by decide) hNN) (xG_1 rfl) rfl hin1 tyX1 tyX1_ok nmX1 4 (by decide) mw_195 rfl rfl rfl (Nat.le_of_ble_eq_true rfl) (xG_1 rfl) dX4_readLine_175 (fun v56 H locs hv56 hP hS => ?_)
                have hI := XI_putN hI hv56 (by decide)
                exact kr v56 ar54 al54 _ _ _ _ ⟨hI, fun i j h => ((up_oth hv56 (fun q => h (by rcases q with ⟨rfl, rfl⟩; decide))).trans ((hq54 i j (fun q => h (mem_sub (by decide) q))).trans ((up_oth hv51 (fun q => h (by rcases q with ⟨rfl, rfl⟩; decide))).trans ((hq48 i j (fun q => h (mem_sub (by decide) q))).trans ((hq45 i j (fun q => h (mem_sub (by decide) q))).trans ((hq11 i j (fun q => h (mem_sub (by decide) q))).trans ((hq9 i j (fun q => h (mem_sub (by decide) q))).trans ((hq7 i j (fun q => h (mem_sub (by decide) q))).trans ((hq5 i j (fun q => h (mem_sub (by decide) q))).trans (hq3 i j (fun q => h (mem_sub (by decide) q))))))))))))⟩ hP hS dX4_readLine_178
              · skip
                refine lv_aload_n hE.1 hE.2.1 dX4_readLine_151 rfl (lv_at hl 0 rfl) ?_
                obtain ⟨z57, hz57, ez57⟩ := iI_of (v51 1 6)
                refine x_get (x := .int (v51 1 6)) hE hK hP 1 (Nat.lt_of_lt_of_le (by decide) hNN) (xG_4 rfl) rfl hin4 6 (by decide) mw_155 rfl dX4_readLine_152 ?_
                refine x_top (y := iI (z57)) ez57 ?_
                refine lv_iconst (v := iI (4)) hE.1 hE.2.1 dX4_readLine_155 (by decide) ?_
                refine s_icmp_eq (a := z57) (b := 4) (tgt := 164) hE.1 hE.2.1 (by omega) (by omega) dX4_readLine_156 (by decide) (fun c58 => ?_) (fun c58 => ?_)
                · skip
                  refine lv_aload_n hE.1 hE.2.1 dX4_readLine_164 rfl (lv_at hl 0 rfl) ?_
                  refine x_vv (nn := 0) (As := []) (rest := []) hE hK hN hP hS (s_X4_step_1 l D K ad mm N hNN v51 ar48 al48 hI  ) (x_recv hK hP 1 (Nat.lt_of_lt_of_le (by decide) hNN) (xG_4 rfl) rfl) rfl mw_538 mw_540 mw_0 mw_115 mw_541 (by decide +kernel) ⟨by decide, by decide⟩ hl.1 rfl (Nat.le_of_ble_eq_true rfl) ⟨Nat.zero_le _, Nat.zero_le _⟩ dX4_readLine_165 (fun v59 ar59 al59 H locs hq59 hP hS => ?_)
                  obtain ⟨hI, hq59⟩ := hq59
                  have hI : XI v59 := hI
                  refine lv_aload_n hE.1 hE.2.1 dX4_readLine_168 rfl (lv_at hl 1 rfl) ?_
                  refine lv_dup hE.1 hE.2.1 dX4_readLine_169 rfl ?_
                  refine x_get (x := .int (v59 13 4)) hE hK hP 13 (Nat.lt_of_lt_of_le (by decide) hNN) (xG_1 rfl) rfl hin1 4 (by decide) mw_195 rfl dX4_readLine_170 ?_
                  refine x_top (y := iI (z1)) ((hq59 13 4 (by decide)).trans ((up_oth hv51 (by decide)).trans ((hq48 13 4 (by decide)).trans ((hq45 13 4 (by decide)).trans ((hq11 13 4 (by decide)).trans ((hq9 13 4 (by decide)).trans ((hq7 13 4 (by decide)).trans ((hq5 13 4 (by decide)).trans ((hq3 13 4 (by decide)).trans ez1))))))))) ?_
                  refine lv_iconst (v := iI (1)) hE.1 hE.2.1 dX4_readLine_173 (by decide) ?_
                  refine lv_iadd hE.1 hE.2.1 dX4_readLine_174 ?_
                  obtain ⟨z60, hz60, ez60⟩ := iI_of (iI (z1) + iI (1))
                  refine x_top ez60 ?_
                  refine x_put (x := iI (z60)) hE hK hN hP hS 13 (Nat.lt_of_lt_of_le (by decide) hNN) (xG_1 rfl) rfl hin1 tyX1 tyX1_ok nmX1 4 (by decide) mw_195 rfl rfl rfl (Nat.le_of_ble_eq_true rfl) (xG_1 rfl) dX4_readLine_175 (fun v61 H locs hv61 hP hS => ?_)
                  have hI := XI_putN hI hv61 (by decide)
                  exact kr v61 ar59 al59 _ _ _ _ ⟨hI, fun i j h => ((up_oth hv61 (fun q => h (by rcases q with ⟨rfl, rfl⟩; decide))).trans ((hq59 i j (fun q => h (mem_sub (by decide) q))).trans ((up_oth hv51 (fun q => h (by rcases q with ⟨rfl, rfl⟩; decide))).trans ((hq48 i j (fun q => h (mem_sub (by decide) q))).trans ((hq45 i j (fun q => h (mem_sub (by decide) q))).trans ((hq11 i j (fun q => h (mem_sub (by decide) q))).trans ((hq9 i j (fun q => h (mem_sub (by decide) q))).trans ((hq7 i j (fun q => h (mem_sub (by decide) q))).trans ((hq5 i j (fun q => h (mem_sub (by decide) q))).trans (hq3 i j (fun q => h (mem_sub (by decide) q))))))))))))⟩ hP hS dX4_readLine_178
                · skip
                  refine lv_aload_n hE.1 hE.2.1 dX4_readLine_159 rfl (lv_at hl 0 rfl) ?_
                  refine lv_iconst (v := iI (1)) hE.1 hE.2.1 dX4_readLine_160 (by decide) ?_
                  refine x_vv (nn := 1) (As := [.int (iI (1))]) (rest := []) hE hK hN hP hS (s_X4_fail_1 l D K ad mm N hNN v51 ar48 al48 hI  (1) (by omega)) (x_recv hK hP 1 (Nat.lt_of_lt_of_le (by decide) hNN) (xG_4 rfl) rfl) rfl mw_614 mw_616 mw_6 mw_115 mw_617 (by decide +kernel) ⟨by decide, by decide⟩ hl.1 rfl (Nat.le_of_ble_eq_true rfl) ⟨Nat.zero_le _, Nat.zero_le _⟩ dX4_readLine_161 (fun v62 ar62 al62 H locs hq62 hP hS => ?_)
                  obtain ⟨hI, hq62⟩ := hq62
                  have hI : XI v62 := hI
                  refine lv_aload_n hE.1 hE.2.1 dX4_readLine_164 rfl (lv_at hl 0 rfl) ?_
                  refine x_vv (nn := 0) (As := []) (rest := []) hE hK hN hP hS (s_X4_step_1 l D K ad mm N hNN v62 ar62 al62 hI  ) (x_recv hK hP 1 (Nat.lt_of_lt_of_le (by decide) hNN) (xG_4 rfl) rfl) rfl mw_538 mw_540 mw_0 mw_115 mw_541 (by decide +kernel) ⟨by decide, by decide⟩ hl.1 rfl (Nat.le_of_ble_eq_true rfl) ⟨Nat.zero_le _, Nat.zero_le _⟩ dX4_readLine_165 (fun v63 ar63 al63 H locs hq63 hP hS => ?_)
                  obtain ⟨hI, hq63⟩ := hq63
                  have hI : XI v63 := hI
                  refine lv_aload_n hE.1 hE.2.1 dX4_readLine_168 rfl (lv_at hl 1 rfl) ?_
                  refine lv_dup hE.1 hE.2.1 dX4_readLine_169 rfl ?_
                  refine x_get (x := .int (v63 13 4)) hE hK hP 13 (Nat.lt_of_lt_of_le (by decide) hNN) (xG_1 rfl) rfl hin1 4 (by decide) mw_195 rfl dX4_readLine_170 ?_
                  refine x_top (y := iI (z1)) ((hq63 13 4 (by decide)).trans ((hq62 13 4 (by decide)).trans ((up_oth hv51 (by decide)).trans ((hq48 13 4 (by decide)).trans ((hq45 13 4 (by decide)).trans ((hq11 13 4 (by decide)).trans ((hq9 13 4 (by decide)).trans ((hq7 13 4 (by decide)).trans ((hq5 13 4 (by decide)).trans ((hq3 13 4 (by decide)).trans ez1)))))))))) ?_
                  refine lv_iconst (v := iI (1)) hE.1 hE.2.1 dX4_readLine_173 (by decide) ?_
                  refine lv_iadd hE.1 hE.2.1 dX4_readLine_174 ?_
                  obtain ⟨z64, hz64, ez64⟩ := iI_of (iI (z1) + iI (1))
                  refine x_top ez64 ?_
                  refine x_put (x := iI (z64)) hE hK hN hP hS 13 (Nat.lt_of_lt_of_le (by decide) hNN) (xG_1 rfl) rfl hin1 tyX1 tyX1_ok nmX1 4 (by decide) mw_195 rfl rfl rfl (Nat.le_of_ble_eq_true rfl) (xG_1 rfl) dX4_readLine_175 (fun v65 H locs hv65 hP hS => ?_)
                  have hI := XI_putN hI hv65 (by decide)
                  exact kr v65 ar63 al63 _ _ _ _ ⟨hI, fun i j h => ((up_oth hv65 (fun q => h (by rcases q with ⟨rfl, rfl⟩; decide))).trans ((hq63 i j (fun q => h (mem_sub (by decide) q))).trans ((hq62 i j (fun q => h (mem_sub (by decide) q))).trans ((up_oth hv51 (fun q => h (by rcases q with ⟨rfl, rfl⟩; decide))).trans ((hq48 i j (fun q => h (mem_sub (by decide) q))).trans ((hq45 i j (fun q => h (mem_sub (by decide) q))).trans ((hq11 i j (fun q => h (mem_sub (by decide) q))).trans ((hq9 i j (fun q => h (mem_sub (by decide) q))).trans ((hq7 i j (fun q => h (mem_sub (by decide) q))).trans ((hq5 i j (fun q => h (mem_sub (by decide) q))).trans (hq3 i j (fun q => h (mem_sub (by decide) q)))))))))))))⟩ hP hS dX4_readLine_178
          · skip
            refine lv_aload_n hE.1 hE.2.1 dX4_readLine_75 rfl (lv_at hl 0 rfl) ?_
            refine lv_aload_n hE.1 hE.2.1 dX4_readLine_76 rfl (lv_at hl 1 rfl) ?_
            refine x_vv (nn := 1) (As := [.ref (ad 13)]) (rest := []) hE hK hN hP hS (s_X4_readKeeps_1_13 l D K ad mm N hNN v9 ar9 al9 hI  ) (x_recv hK hP 1 (Nat.lt_of_lt_of_le (by decide) hNN) (xG_4 rfl) rfl) rfl mw_659 mw_661 mw_13 mw_115 mw_662 (by decide +kernel) ⟨by decide, by decide⟩ hl.1 rfl (Nat.le_of_ble_eq_true rfl) ⟨Nat.zero_le _, Nat.zero_le _⟩ dX4_readLine_77 (fun v66 ar66 al66 H locs hq66 hP hS => ?_)
            obtain ⟨hI, hq66⟩ := hq66
            have hI : XI v66 := hI
            refine lv_goto (tgt := 144) hE.1 hE.2.1 dX4_readLine_80 (by decide) ?_
            refine lv_aload_n hE.1 hE.2.1 dX4_readLine_144 rfl (lv_at hl 0 rfl) ?_
            obtain ⟨z67, hz67, ez67⟩ := iI_of (v66 1 1)
            refine x_get (x := .int (v66 1 1)) hE hK hP 1 (Nat.lt_of_lt_of_le (by decide) hNN) (xG_4 rfl) rfl hin4 1 (by decide) mw_148 rfl dX4_readLine_145 ?_
            refine x_top (y := iI (z67)) ez67 ?_
            refine s_if_ne (a := z67) (tgt := 164) hE.1 hE.2.1 (by omega) dX4_readLine_148 (by decide) (fun c68 => ?_) (fun c68 => ?_)
            · skip
              refine lv_aload_n hE.1 hE.2.1 dX4_readLine_164 rfl (lv_at hl 0 rfl) ?_
              refine x_vv (nn := 0) (As := []) (rest := []) hE hK hN hP hS (s_X4_step_1 l D K ad mm N hNN v66 ar66 al66 hI  ) (x_recv hK hP 1 (Nat.lt_of_lt_of_le (by decide) hNN) (xG_4 rfl) rfl) rfl mw_538 mw_540 mw_0 mw_115 mw_541 (by decide +kernel) ⟨by decide, by decide⟩ hl.1 rfl (Nat.le_of_ble_eq_true rfl) ⟨Nat.zero_le _, Nat.zero_le _⟩ dX4_readLine_165 (fun v69 ar69 al69 H locs hq69 hP hS => ?_)
              obtain ⟨hI, hq69⟩ := hq69
              have hI : XI v69 := hI
              refine lv_aload_n hE.1 hE.2.1 dX4_readLine_168 rfl (lv_at hl 1 rfl) ?_
              refine lv_dup hE.1 hE.2.1 dX4_readLine_169 rfl ?_
              refine x_get (x := .int (v69 13 4)) hE hK hP 13 (Nat.lt_of_lt_of_le (by decide) hNN) (xG_1 rfl) rfl hin1 4 (by decide) mw_195 rfl dX4_readLine_170 ?_
              refine x_top (y := iI (z1)) ((hq69 13 4 (by decide)).trans ((hq66 13 4 (by decide)).trans ((hq9 13 4 (by decide)).trans ((hq7 13 4 (by decide)).trans ((hq5 13 4 (by decide)).trans ((hq3 13 4 (by decide)).trans ez1)))))) ?_
              refine lv_iconst (v := iI (1)) hE.1 hE.2.1 dX4_readLine_173 (by decide) ?_
              refine lv_iadd hE.1 hE.2.1 dX4_readLine_174 ?_
              obtain ⟨z70, hz70, ez70⟩ := iI_of (iI (z1) + iI (1))
              refine x_top ez70 ?_
              refine x_put (x := iI (z70)) hE hK hN hP hS 13 (Nat.lt_of_lt_of_le (by decide) hNN) (xG_1 rfl) rfl hin1 tyX1 tyX1_ok nmX1 4 (by decide) mw_195 rfl rfl rfl (Nat.le_of_ble_eq_true rfl) (xG_1 rfl) dX4_readLine_175 (fun v71 H locs hv71 hP hS => ?_)
              have hI := XI_putN hI hv71 (by decide)
              exact kr v71 ar69 al69 _ _ _ _ ⟨hI, fun i j h => ((up_oth hv71 (fun q => h (by rcases q with ⟨rfl, rfl⟩; decide))).trans ((hq69 i j (fun q => h (mem_sub (by decide) q))).trans ((hq66 i j (fun q => h (mem_sub (by decide) q))).trans ((hq9 i j (fun q => h (mem_sub (by decide) q))).trans ((hq7 i j (fun q => h (mem_sub (by decide) q))).trans ((hq5 i j (fun q => h (mem_sub (by decide) q))).trans (hq3 i j (fun q => h (mem_sub (by decide) q)))))))))⟩ hP hS dX4_readLine_178
            · skip
              refine lv_aload_n hE.1 hE.2.1 dX4_readLine_151 rfl (lv_at hl 0 rfl) ?_
              obtain ⟨z72, hz72, ez72⟩ := iI_of (v66 1 6)
              refine x_get (x := .int (v66 1 6)) hE hK hP 1 (Nat.lt_of_lt_of_le (by decide) hNN) (xG_4 rfl) rfl hin4 6 (by decide) mw_155 rfl dX4_readLine_152 ?_
              refine x_top (y := iI (z72)) ez72 ?_
              refine lv_iconst (v := iI (4)) hE.1 hE.2.1 dX4_readLine_155 (by decide) ?_
              refine s_icmp_eq (a := z72) (b := 4) (tgt := 164) hE.1 hE.2.1 (by omega) (by omega) dX4_readLine_156 (by decide) (fun c73 => ?_) (fun c73 => ?_)
              · skip
                refine lv_aload_n hE.1 hE.2.1 dX4_readLine_164 rfl (lv_at hl 0 rfl) ?_
                refine x_vv (nn := 0) (As := []) (rest := []) hE hK hN hP hS (s_X4_step_1 l D K ad mm N hNN v66 ar66 al66 hI  ) (x_recv hK hP 1 (Nat.lt_of_lt_of_le (by decide) hNN) (xG_4 rfl) rfl) rfl mw_538 mw_540 mw_0 mw_115 mw_541 (by decide +kernel) ⟨by decide, by decide⟩ hl.1 rfl (Nat.le_of_ble_eq_true rfl) ⟨Nat.zero_le _, Nat.zero_le _⟩ dX4_readLine_165 (fun v74 ar74 al74 H locs hq74 hP hS => ?_)
                obtain ⟨hI, hq74⟩ := hq74
                have hI : XI v74 := hI
                refine lv_aload_n hE.1 hE.2.1 dX4_readLine_168 rfl (lv_at hl 1 rfl) ?_
                refine lv_dup hE.1 hE.2.1 dX4_readLine_169 rfl ?_
                refine x_get (x := .int (v74 13 4)) hE hK hP 13 (Nat.lt_of_lt_of_le (by decide) hNN) (xG_1 rfl) rfl hin1 4 (by decide) mw_195 rfl dX4_readLine_170 ?_
                refine x_top (y := iI (z1)) ((hq74 13 4 (by decide)).trans ((hq66 13 4 (by decide)).trans ((hq9 13 4 (by decide)).trans ((hq7 13 4 (by decide)).trans ((hq5 13 4 (by decide)).trans ((hq3 13 4 (by decide)).trans ez1)))))) ?_
                refine lv_iconst (v := iI (1)) hE.1 hE.2.1 dX4_readLine_173 (by decide) ?_
                refine lv_iadd hE.1 hE.2.1 dX4_readLine_174 ?_
                obtain ⟨z75, hz75, ez75⟩ := iI_of (iI (z1) + iI (1))
                refine x_top ez75 ?_
                refine x_put (x := iI (z75)) hE hK hN hP hS 13 (Nat.lt_of_lt_of_le (by decide) hNN) (xG_1 rfl) rfl hin1 tyX1 tyX1_ok nmX1 4 (by decide) mw_195 rfl rfl rfl (Nat.le_of_ble_eq_true rfl) (xG_1 rfl) dX4_readLine_175 (fun v76 H locs hv76 hP hS => ?_)
                have hI := XI_putN hI hv76 (by decide)
                exact kr v76 ar74 al74 _ _ _ _ ⟨hI, fun i j h => ((up_oth hv76 (fun q => h (by rcases q with ⟨rfl, rfl⟩; decide))).trans ((hq74 i j (fun q => h (mem_sub (by decide) q))).trans ((hq66 i j (fun q => h (mem_sub (by decide) q))).trans ((hq9 i j (fun q => h (mem_sub (by decide) q))).trans ((hq7 i j (fun q => h (mem_sub (by decide) q))).trans ((hq5 i j (fun q => h (mem_sub (by decide) q))).trans (hq3 i j (fun q => h (mem_sub (by decide) q)))))))))⟩ hP hS dX4_readLine_178
              · skip
                refine lv_aload_n hE.1 hE.2.1 dX4_readLine_159 rfl (lv_at hl 0 rfl) ?_
                refine lv_iconst (v := iI (1)) hE.1 hE.2.1 dX4_readLine_160 (by decide) ?_
                refine x_vv (nn := 1) (As := [.int (iI (1))]) (rest := []) hE hK hN hP hS (s_X4_fail_1 l D K ad mm N hNN v66 ar66 al66 hI  (1) (by omega)) (x_recv hK hP 1 (Nat.lt_of_lt_of_le (by decide) hNN) (xG_4 rfl) rfl) rfl mw_614 mw_616 mw_6 mw_115 mw_617 (by decide +kernel) ⟨by decide, by decide⟩ hl.1 rfl (Nat.le_of_ble_eq_true rfl) ⟨Nat.zero_le _, Nat.zero_le _⟩ dX4_readLine_161 (fun v77 ar77 al77 H locs hq77 hP hS => ?_)
                obtain ⟨hI, hq77⟩ := hq77
                have hI : XI v77 := hI
                refine lv_aload_n hE.1 hE.2.1 dX4_readLine_164 rfl (lv_at hl 0 rfl) ?_
                refine x_vv (nn := 0) (As := []) (rest := []) hE hK hN hP hS (s_X4_step_1 l D K ad mm N hNN v77 ar77 al77 hI  ) (x_recv hK hP 1 (Nat.lt_of_lt_of_le (by decide) hNN) (xG_4 rfl) rfl) rfl mw_538 mw_540 mw_0 mw_115 mw_541 (by decide +kernel) ⟨by decide, by decide⟩ hl.1 rfl (Nat.le_of_ble_eq_true rfl) ⟨Nat.zero_le _, Nat.zero_le _⟩ dX4_readLine_165 (fun v78 ar78 al78 H locs hq78 hP hS => ?_)
                obtain ⟨hI, hq78⟩ := hq78
                have hI : XI v78 := hI
                refine lv_aload_n hE.1 hE.2.1 dX4_readLine_168 rfl (lv_at hl 1 rfl) ?_
                refine lv_dup hE.1 hE.2.1 dX4_readLine_169 rfl ?_
                refine x_get (x := .int (v78 13 4)) hE hK hP 13 (Nat.lt_of_lt_of_le (by decide) hNN) (xG_1 rfl) rfl hin1 4 (by decide) mw_195 rfl dX4_readLine_170 ?_
                refine x_top (y := iI (z1)) ((hq78 13 4 (by decide)).trans ((hq77 13 4 (by decide)).trans ((hq66 13 4 (by decide)).trans ((hq9 13 4 (by decide)).trans ((hq7 13 4 (by decide)).trans ((hq5 13 4 (by decide)).trans ((hq3 13 4 (by decide)).trans ez1))))))) ?_
                refine lv_iconst (v := iI (1)) hE.1 hE.2.1 dX4_readLine_173 (by decide) ?_
                refine lv_iadd hE.1 hE.2.1 dX4_readLine_174 ?_
                obtain ⟨z79, hz79, ez79⟩ := iI_of (iI (z1) + iI (1))
                refine x_top ez79 ?_
                refine x_put (x := iI (z79)) hE hK hN hP hS 13 (Nat.lt_of_lt_of_le (by decide) hNN) (xG_1 rfl) rfl hin1 tyX1 tyX1_ok nmX1 4 (by decide) mw_195 rfl rfl rfl (Nat.le_of_ble_eq_true rfl) (xG_1 rfl) dX4_readLine_175 (fun v80 H locs hv80 hP hS => ?_)
                have hI := XI_putN hI hv80 (by decide)
                exact kr v80 ar78 al78 _ _ _ _ ⟨hI, fun i j h => ((up_oth hv80 (fun q => h (by rcases q with ⟨rfl, rfl⟩; decide))).trans ((hq78 i j (fun q => h (mem_sub (by decide) q))).trans ((hq77 i j (fun q => h (mem_sub (by decide) q))).trans ((hq66 i j (fun q => h (mem_sub (by decide) q))).trans ((hq9 i j (fun q => h (mem_sub (by decide) q))).trans ((hq7 i j (fun q => h (mem_sub (by decide) q))).trans ((hq5 i j (fun q => h (mem_sub (by decide) q))).trans (hq3 i j (fun q => h (mem_sub (by decide) q))))))))))⟩ hP hS dX4_readLine_178
        · skip
          refine lv_aload_n hE.1 hE.2.1 dX4_readLine_58 rfl (lv_at hl 0 rfl) ?_
          refine lv_aload_n hE.1 hE.2.1 dX4_readLine_59 rfl (lv_at hl 1 rfl) ?_
          refine x_vvB (nn := 1) (As := [.ref (ad 13)]) (rest := []) hE hK hN hP hS (s_X4_readClash_1_13 l D K ad mm N hNN v7 ar7 al7 hI tk tv  ) tw_blind (tw_now hK hN hP hT hTR hS) (x_recv hK hP 1 (Nat.lt_of_lt_of_le (by decide) hNN) (xG_4 rfl) rfl) rfl mw_653 mw_655 mw_12 mw_115 mw_656 (by decide +kernel) ⟨by decide, by decide⟩ hl.1 rfl (Nat.le_of_ble_eq_true rfl) ⟨Nat.zero_le _, Nat.zero_le _⟩ dX4_readLine_60 (fun v81 ar81 al81 H locs hq81 hP hS => ?_)
          obtain ⟨hI, hq81⟩ := hq81
          have hI : XI v81 := hI
          refine lv_goto (tgt := 144) hE.1 hE.2.1 dX4_readLine_63 (by decide) ?_
          refine lv_aload_n hE.1 hE.2.1 dX4_readLine_144 rfl (lv_at hl 0 rfl) ?_
          obtain ⟨z82, hz82, ez82⟩ := iI_of (v81 1 1)
          refine x_get (x := .int (v81 1 1)) hE hK hP 1 (Nat.lt_of_lt_of_le (by decide) hNN) (xG_4 rfl) rfl hin4 1 (by decide) mw_148 rfl dX4_readLine_145 ?_
          refine x_top (y := iI (z82)) ez82 ?_
          refine s_if_ne (a := z82) (tgt := 164) hE.1 hE.2.1 (by omega) dX4_readLine_148 (by decide) (fun c83 => ?_) (fun c83 => ?_)
          · skip
            refine lv_aload_n hE.1 hE.2.1 dX4_readLine_164 rfl (lv_at hl 0 rfl) ?_
            refine x_vv (nn := 0) (As := []) (rest := []) hE hK hN hP hS (s_X4_step_1 l D K ad mm N hNN v81 ar81 al81 hI  ) (x_recv hK hP 1 (Nat.lt_of_lt_of_le (by decide) hNN) (xG_4 rfl) rfl) rfl mw_538 mw_540 mw_0 mw_115 mw_541 (by decide +kernel) ⟨by decide, by decide⟩ hl.1 rfl (Nat.le_of_ble_eq_true rfl) ⟨Nat.zero_le _, Nat.zero_le _⟩ dX4_readLine_165 (fun v84 ar84 al84 H locs hq84 hP hS => ?_)
            obtain ⟨hI, hq84⟩ := hq84
            have hI : XI v84 := hI
            refine lv_aload_n hE.1 hE.2.1 dX4_readLine_168 rfl (lv_at hl 1 rfl) ?_
            refine lv_dup hE.1 hE.2.1 dX4_readLine_169 rfl ?_
            refine x_get (x := .int (v84 13 4)) hE hK hP 13 (Nat.lt_of_lt_of_le (by decide) hNN) (xG_1 rfl) rfl hin1 4 (by decide) mw_195 rfl dX4_readLine_170 ?_
            refine x_top (y := iI (z1)) ((hq84 13 4 (by decide)).trans ((hq81 13 4 (by decide)).trans ((hq7 13 4 (by decide)).trans ((hq5 13 4 (by decide)).trans ((hq3 13 4 (by decide)).trans ez1))))) ?_
            refine lv_iconst (v := iI (1)) hE.1 hE.2.1 dX4_readLine_173 (by decide) ?_
            refine lv_iadd hE.1 hE.2.1 dX4_readLine_174 ?_
            obtain ⟨z85, hz85, ez85⟩ := iI_of (iI (z1) + iI (1))
            refine x_top ez85 ?_
            refine x_put (x := iI (z85)) hE hK hN hP hS 13 (Nat.lt_of_lt_of_le (by decide) hNN) (xG_1 rfl) rfl hin1 tyX1 tyX1_ok nmX1 4 (by decide) mw_195 rfl rfl rfl (Nat.le_of_ble_eq_true rfl) (xG_1 rfl) dX4_readLine_175 (fun v86 H locs hv86 hP hS => ?_)
            have hI := XI_putN hI hv86 (by decide)
            exact kr v86 ar84 al84 _ _ _ _ ⟨hI, fun i j h => ((up_oth hv86 (fun q => h (by rcases q with ⟨rfl, rfl⟩; decide))).trans ((hq84 i j (fun q => h (mem_sub (by decide) q))).trans ((hq81 i j (fun q => h (mem_sub (by decide) q))).trans ((hq7 i j (fun q => h (mem_sub (by decide) q))).trans ((hq5 i j (fun q => h (mem_sub (by decide) q))).trans (hq3 i j (fun q => h (mem_sub (by decide) q))))))))⟩ hP hS dX4_readLine_178
          · skip
            refine lv_aload_n hE.1 hE.2.1 dX4_readLine_151 rfl (lv_at hl 0 rfl) ?_
            obtain ⟨z87, hz87, ez87⟩ := iI_of (v81 1 6)
            refine x_get (x := .int (v81 1 6)) hE hK hP 1 (Nat.lt_of_lt_of_le (by decide) hNN) (xG_4 rfl) rfl hin4 6 (by decide) mw_155 rfl dX4_readLine_152 ?_
            refine x_top (y := iI (z87)) ez87 ?_
            refine lv_iconst (v := iI (4)) hE.1 hE.2.1 dX4_readLine_155 (by decide) ?_
            refine s_icmp_eq (a := z87) (b := 4) (tgt := 164) hE.1 hE.2.1 (by omega) (by omega) dX4_readLine_156 (by decide) (fun c88 => ?_) (fun c88 => ?_)
            · skip
              refine lv_aload_n hE.1 hE.2.1 dX4_readLine_164 rfl (lv_at hl 0 rfl) ?_
              refine x_vv (nn := 0) (As := []) (rest := []) hE hK hN hP hS (s_X4_step_1 l D K ad mm N hNN v81 ar81 al81 hI  ) (x_recv hK hP 1 (Nat.lt_of_lt_of_le (by decide) hNN) (xG_4 rfl) rfl) rfl mw_538 mw_540 mw_0 mw_115 mw_541 (by decide +kernel) ⟨by decide, by decide⟩ hl.1 rfl (Nat.le_of_ble_eq_true rfl) ⟨Nat.zero_le _, Nat.zero_le _⟩ dX4_readLine_165 (fun v89 ar89 al89 H locs hq89 hP hS => ?_)
              obtain ⟨hI, hq89⟩ := hq89
              have hI : XI v89 := hI
              refine lv_aload_n hE.1 hE.2.1 dX4_readLine_168 rfl (lv_at hl 1 rfl) ?_
              refine lv_dup hE.1 hE.2.1 dX4_readLine_169 rfl ?_
              refine x_get (x := .int (v89 13 4)) hE hK hP 13 (Nat.lt_of_lt_of_le (by decide) hNN) (xG_1 rfl) rfl hin1 4 (by decide) mw_195 rfl dX4_readLine_170 ?_
              refine x_top (y := iI (z1)) ((hq89 13 4 (by decide)).trans ((hq81 13 4 (by decide)).trans ((hq7 13 4 (by decide)).trans ((hq5 13 4 (by decide)).trans ((hq3 13 4 (by decide)).trans ez1))))) ?_
              refine lv_iconst (v := iI (1)) hE.1 hE.2.1 dX4_readLine_173 (by decide) ?_
              refine lv_iadd hE.1 hE.2.1 dX4_readLine_174 ?_
              obtain ⟨z90, hz90, ez90⟩ := iI_of (iI (z1) + iI (1))
              refine x_top ez90 ?_
              refine x_put (x := iI (z90)) hE hK hN hP hS 13 (Nat.lt_of_lt_of_le (by decide) hNN) (xG_1 rfl) rfl hin1 tyX1 tyX1_ok nmX1 4 (by decide) mw_195 rfl rfl rfl (Nat.le_of_ble_eq_true rfl) (xG_1 rfl) dX4_readLine_175 (fun v91 H locs hv91 hP hS => ?_)
              have hI := XI_putN hI hv91 (by decide)
              exact kr v91 ar89 al89 _ _ _ _ ⟨hI, fun i j h => ((up_oth hv91 (fun q => h (by rcases q with ⟨rfl, rfl⟩; decide))).trans ((hq89 i j (fun q => h (mem_sub (by decide) q))).trans ((hq81 i j (fun q => h (mem_sub (by decide) q))).trans ((hq7 i j (fun q => h (mem_sub (by decide) q))).trans ((hq5 i j (fun q => h (mem_sub (by decide) q))).trans (hq3 i j (fun q => h (mem_sub (by decide) q))))))))⟩ hP hS dX4_readLine_178
            · skip
              refine lv_aload_n hE.1 hE.2.1 dX4_readLine_159 rfl (lv_at hl 0 rfl) ?_
              refine lv_iconst (v := iI (1)) hE.1 hE.2.1 dX4_readLine_160 (by decide) ?_
              refine x_vv (nn := 1) (As := [.int (iI (1))]) (rest := []) hE hK hN hP hS (s_X4_fail_1 l D K ad mm N hNN v81 ar81 al81 hI  (1) (by omega)) (x_recv hK hP 1 (Nat.lt_of_lt_of_le (by decide) hNN) (xG_4 rfl) rfl) rfl mw_614 mw_616 mw_6 mw_115 mw_617 (by decide +kernel) ⟨by decide, by decide⟩ hl.1 rfl (Nat.le_of_ble_eq_true rfl) ⟨Nat.zero_le _, Nat.zero_le _⟩ dX4_readLine_161 (fun v92 ar92 al92 H locs hq92 hP hS => ?_)
              obtain ⟨hI, hq92⟩ := hq92
              have hI : XI v92 := hI
              refine lv_aload_n hE.1 hE.2.1 dX4_readLine_164 rfl (lv_at hl 0 rfl) ?_
              refine x_vv (nn := 0) (As := []) (rest := []) hE hK hN hP hS (s_X4_step_1 l D K ad mm N hNN v92 ar92 al92 hI  ) (x_recv hK hP 1 (Nat.lt_of_lt_of_le (by decide) hNN) (xG_4 rfl) rfl) rfl mw_538 mw_540 mw_0 mw_115 mw_541 (by decide +kernel) ⟨by decide, by decide⟩ hl.1 rfl (Nat.le_of_ble_eq_true rfl) ⟨Nat.zero_le _, Nat.zero_le _⟩ dX4_readLine_165 (fun v93 ar93 al93 H locs hq93 hP hS => ?_)
              obtain ⟨hI, hq93⟩ := hq93
              have hI : XI v93 := hI
              refine lv_aload_n hE.1 hE.2.1 dX4_readLine_168 rfl (lv_at hl 1 rfl) ?_
              refine lv_dup hE.1 hE.2.1 dX4_readLine_169 rfl ?_
              refine x_get (x := .int (v93 13 4)) hE hK hP 13 (Nat.lt_of_lt_of_le (by decide) hNN) (xG_1 rfl) rfl hin1 4 (by decide) mw_195 rfl dX4_readLine_170 ?_
              refine x_top (y := iI (z1)) ((hq93 13 4 (by decide)).trans ((hq92 13 4 (by decide)).trans ((hq81 13 4 (by decide)).trans ((hq7 13 4 (by decide)).trans ((hq5 13 4 (by decide)).trans ((hq3 13 4 (by decide)).trans ez1)))))) ?_
              refine lv_iconst (v := iI (1)) hE.1 hE.2.1 dX4_readLine_173 (by decide) ?_
              refine lv_iadd hE.1 hE.2.1 dX4_readLine_174 ?_
              obtain ⟨z94, hz94, ez94⟩ := iI_of (iI (z1) + iI (1))
              refine x_top ez94 ?_
              refine x_put (x := iI (z94)) hE hK hN hP hS 13 (Nat.lt_of_lt_of_le (by decide) hNN) (xG_1 rfl) rfl hin1 tyX1 tyX1_ok nmX1 4 (by decide) mw_195 rfl rfl rfl (Nat.le_of_ble_eq_true rfl) (xG_1 rfl) dX4_readLine_175 (fun v95 H locs hv95 hP hS => ?_)
              have hI := XI_putN hI hv95 (by decide)
              exact kr v95 ar93 al93 _ _ _ _ ⟨hI, fun i j h => ((up_oth hv95 (fun q => h (by rcases q with ⟨rfl, rfl⟩; decide))).trans ((hq93 i j (fun q => h (mem_sub (by decide) q))).trans ((hq92 i j (fun q => h (mem_sub (by decide) q))).trans ((hq81 i j (fun q => h (mem_sub (by decide) q))).trans ((hq7 i j (fun q => h (mem_sub (by decide) q))).trans ((hq5 i j (fun q => h (mem_sub (by decide) q))).trans (hq3 i j (fun q => h (mem_sub (by decide) q)))))))))⟩ hP hS dX4_readLine_178
      · skip
        refine lv_aload_n hE.1 hE.2.1 dX4_readLine_41 rfl (lv_at hl 0 rfl) ?_
        refine lv_aload_n hE.1 hE.2.1 dX4_readLine_42 rfl (lv_at hl 1 rfl) ?_
        refine x_vvB (nn := 1) (As := [.ref (ad 13)]) (rest := []) hE hK hN hP hS (s_X4_readJoin_1_13 l D K ad mm N hNN v5 ar5 al5 hI tk tv  ) tw_blind (tw_now hK hN hP hT hTR hS) (x_recv hK hP 1 (Nat.lt_of_lt_of_le (by decide) hNN) (xG_4 rfl) rfl) rfl mw_647 mw_649 mw_11 mw_115 mw_650 (by decide +kernel) ⟨by decide, by decide⟩ hl.1 rfl (Nat.le_of_ble_eq_true rfl) ⟨Nat.zero_le _, Nat.zero_le _⟩ dX4_readLine_43 (fun v96 ar96 al96 H locs hq96 hP hS => ?_)
        obtain ⟨hI, hq96⟩ := hq96
        have hI : XI v96 := hI
        refine lv_goto (tgt := 144) hE.1 hE.2.1 dX4_readLine_46 (by decide) ?_
        refine lv_aload_n hE.1 hE.2.1 dX4_readLine_144 rfl (lv_at hl 0 rfl) ?_
        obtain ⟨z97, hz97, ez97⟩ := iI_of (v96 1 1)
        refine x_get (x := .int (v96 1 1)) hE hK hP 1 (Nat.lt_of_lt_of_le (by decide) hNN) (xG_4 rfl) rfl hin4 1 (by decide) mw_148 rfl dX4_readLine_145 ?_
        refine x_top (y := iI (z97)) ez97 ?_
        refine s_if_ne (a := z97) (tgt := 164) hE.1 hE.2.1 (by omega) dX4_readLine_148 (by decide) (fun c98 => ?_) (fun c98 => ?_)
        · skip
          refine lv_aload_n hE.1 hE.2.1 dX4_readLine_164 rfl (lv_at hl 0 rfl) ?_
          refine x_vv (nn := 0) (As := []) (rest := []) hE hK hN hP hS (s_X4_step_1 l D K ad mm N hNN v96 ar96 al96 hI  ) (x_recv hK hP 1 (Nat.lt_of_lt_of_le (by decide) hNN) (xG_4 rfl) rfl) rfl mw_538 mw_540 mw_0 mw_115 mw_541 (by decide +kernel) ⟨by decide, by decide⟩ hl.1 rfl (Nat.le_of_ble_eq_true rfl) ⟨Nat.zero_le _, Nat.zero_le _⟩ dX4_readLine_165 (fun v99 ar99 al99 H locs hq99 hP hS => ?_)
          obtain ⟨hI, hq99⟩ := hq99
          have hI : XI v99 := hI
          refine lv_aload_n hE.1 hE.2.1 dX4_readLine_168 rfl (lv_at hl 1 rfl) ?_
          refine lv_dup hE.1 hE.2.1 dX4_readLine_169 rfl ?_
          refine x_get (x := .int (v99 13 4)) hE hK hP 13 (Nat.lt_of_lt_of_le (by decide) hNN) (xG_1 rfl) rfl hin1 4 (by decide) mw_195 rfl dX4_readLine_170 ?_
          refine x_top (y := iI (z1)) ((hq99 13 4 (by decide)).trans ((hq96 13 4 (by decide)).trans ((hq5 13 4 (by decide)).trans ((hq3 13 4 (by decide)).trans ez1)))) ?_
          refine lv_iconst (v := iI (1)) hE.1 hE.2.1 dX4_readLine_173 (by decide) ?_
          refine lv_iadd hE.1 hE.2.1 dX4_readLine_174 ?_
          obtain ⟨z100, hz100, ez100⟩ := iI_of (iI (z1) + iI (1))
          refine x_top ez100 ?_
          refine x_put (x := iI (z100)) hE hK hN hP hS 13 (Nat.lt_of_lt_of_le (by decide) hNN) (xG_1 rfl) rfl hin1 tyX1 tyX1_ok nmX1 4 (by decide) mw_195 rfl rfl rfl (Nat.le_of_ble_eq_true rfl) (xG_1 rfl) dX4_readLine_175 (fun v101 H locs hv101 hP hS => ?_)
          have hI := XI_putN hI hv101 (by decide)
          exact kr v101 ar99 al99 _ _ _ _ ⟨hI, fun i j h => ((up_oth hv101 (fun q => h (by rcases q with ⟨rfl, rfl⟩; decide))).trans ((hq99 i j (fun q => h (mem_sub (by decide) q))).trans ((hq96 i j (fun q => h (mem_sub (by decide) q))).trans ((hq5 i j (fun q => h (mem_sub (by decide) q))).trans (hq3 i j (fun q => h (mem_sub (by decide) q)))))))⟩ hP hS dX4_readLine_178
        · skip
          refine lv_aload_n hE.1 hE.2.1 dX4_readLine_151 rfl (lv_at hl 0 rfl) ?_
          obtain ⟨z102, hz102, ez102⟩ := iI_of (v96 1 6)
          refine x_get (x := .int (v96 1 6)) hE hK hP 1 (Nat.lt_of_lt_of_le (by decide) hNN) (xG_4 rfl) rfl hin4 6 (by decide) mw_155 rfl dX4_readLine_152 ?_
          refine x_top (y := iI (z102)) ez102 ?_
          refine lv_iconst (v := iI (4)) hE.1 hE.2.1 dX4_readLine_155 (by decide) ?_
          refine s_icmp_eq (a := z102) (b := 4) (tgt := 164) hE.1 hE.2.1 (by omega) (by omega) dX4_readLine_156 (by decide) (fun c103 => ?_) (fun c103 => ?_)
          · skip
            refine lv_aload_n hE.1 hE.2.1 dX4_readLine_164 rfl (lv_at hl 0 rfl) ?_
            refine x_vv (nn := 0) (As := []) (rest := []) hE hK hN hP hS (s_X4_step_1 l D K ad mm N hNN v96 ar96 al96 hI  ) (x_recv hK hP 1 (Nat.lt_of_lt_of_le (by decide) hNN) (xG_4 rfl) rfl) rfl mw_538 mw_540 mw_0 mw_115 mw_541 (by decide +kernel) ⟨by decide, by decide⟩ hl.1 rfl (Nat.le_of_ble_eq_true rfl) ⟨Nat.zero_le _, Nat.zero_le _⟩ dX4_readLine_165 (fun v104 ar104 al104 H locs hq104 hP hS => ?_)
            obtain ⟨hI, hq104⟩ := hq104
            have hI : XI v104 := hI
            refine lv_aload_n hE.1 hE.2.1 dX4_readLine_168 rfl (lv_at hl 1 rfl) ?_
            refine lv_dup hE.1 hE.2.1 dX4_readLine_169 rfl ?_
            refine x_get (x := .int (v104 13 4)) hE hK hP 13 (Nat.lt_of_lt_of_le (by decide) hNN) (xG_1 rfl) rfl hin1 4 (by decide) mw_195 rfl dX4_readLine_170 ?_
            refine x_top (y := iI (z1)) ((hq104 13 4 (by decide)).trans ((hq96 13 4 (by decide)).trans ((hq5 13 4 (by decide)).trans ((hq3 13 4 (by decide)).trans ez1)))) ?_
            refine lv_iconst (v := iI (1)) hE.1 hE.2.1 dX4_readLine_173 (by decide) ?_
            refine lv_iadd hE.1 hE.2.1 dX4_readLine_174 ?_
            obtain ⟨z105, hz105, ez105⟩ := iI_of (iI (z1) + iI (1))
            refine x_top ez105 ?_
            refine x_put (x := iI (z105)) hE hK hN hP hS 13 (Nat.lt_of_lt_of_le (by decide) hNN) (xG_1 rfl) rfl hin1 tyX1 tyX1_ok nmX1 4 (by decide) mw_195 rfl rfl rfl (Nat.le_of_ble_eq_true rfl) (xG_1 rfl) dX4_readLine_175 (fun v106 H locs hv106 hP hS => ?_)
            have hI := XI_putN hI hv106 (by decide)
            exact kr v106 ar104 al104 _ _ _ _ ⟨hI, fun i j h => ((up_oth hv106 (fun q => h (by rcases q with ⟨rfl, rfl⟩; decide))).trans ((hq104 i j (fun q => h (mem_sub (by decide) q))).trans ((hq96 i j (fun q => h (mem_sub (by decide) q))).trans ((hq5 i j (fun q => h (mem_sub (by decide) q))).trans (hq3 i j (fun q => h (mem_sub (by decide) q)))))))⟩ hP hS dX4_readLine_178
          · skip
            refine lv_aload_n hE.1 hE.2.1 dX4_readLine_159 rfl (lv_at hl 0 rfl) ?_
            refine lv_iconst (v := iI (1)) hE.1 hE.2.1 dX4_readLine_160 (by decide) ?_
            refine x_vv (nn := 1) (As := [.int (iI (1))]) (rest := []) hE hK hN hP hS (s_X4_fail_1 l D K ad mm N hNN v96 ar96 al96 hI  (1) (by omega)) (x_recv hK hP 1 (Nat.lt_of_lt_of_le (by decide) hNN) (xG_4 rfl) rfl) rfl mw_614 mw_616 mw_6 mw_115 mw_617 (by decide +kernel) ⟨by decide, by decide⟩ hl.1 rfl (Nat.le_of_ble_eq_true rfl) ⟨Nat.zero_le _, Nat.zero_le _⟩ dX4_readLine_161 (fun v107 ar107 al107 H locs hq107 hP hS => ?_)
            obtain ⟨hI, hq107⟩ := hq107
            have hI : XI v107 := hI
            refine lv_aload_n hE.1 hE.2.1 dX4_readLine_164 rfl (lv_at hl 0 rfl) ?_
            refine x_vv (nn := 0) (As := []) (rest := []) hE hK hN hP hS (s_X4_step_1 l D K ad mm N hNN v107 ar107 al107 hI  ) (x_recv hK hP 1 (Nat.lt_of_lt_of_le (by decide) hNN) (xG_4 rfl) rfl) rfl mw_538 mw_540 mw_0 mw_115 mw_541 (by decide +kernel) ⟨by decide, by decide⟩ hl.1 rfl (Nat.le_of_ble_eq_true rfl) ⟨Nat.zero_le _, Nat.zero_le _⟩ dX4_readLine_165 (fun v108 ar108 al108 H locs hq108 hP hS => ?_)
            obtain ⟨hI, hq108⟩ := hq108
            have hI : XI v108 := hI
            refine lv_aload_n hE.1 hE.2.1 dX4_readLine_168 rfl (lv_at hl 1 rfl) ?_
            refine lv_dup hE.1 hE.2.1 dX4_readLine_169 rfl ?_
            refine x_get (x := .int (v108 13 4)) hE hK hP 13 (Nat.lt_of_lt_of_le (by decide) hNN) (xG_1 rfl) rfl hin1 4 (by decide) mw_195 rfl dX4_readLine_170 ?_
            refine x_top (y := iI (z1)) ((hq108 13 4 (by decide)).trans ((hq107 13 4 (by decide)).trans ((hq96 13 4 (by decide)).trans ((hq5 13 4 (by decide)).trans ((hq3 13 4 (by decide)).trans ez1))))) ?_
            refine lv_iconst (v := iI (1)) hE.1 hE.2.1 dX4_readLine_173 (by decide) ?_
            refine lv_iadd hE.1 hE.2.1 dX4_readLine_174 ?_
            obtain ⟨z109, hz109, ez109⟩ := iI_of (iI (z1) + iI (1))
            refine x_top ez109 ?_
            refine x_put (x := iI (z109)) hE hK hN hP hS 13 (Nat.lt_of_lt_of_le (by decide) hNN) (xG_1 rfl) rfl hin1 tyX1 tyX1_ok nmX1 4 (by decide) mw_195 rfl rfl rfl (Nat.le_of_ble_eq_true rfl) (xG_1 rfl) dX4_readLine_175 (fun v110 H locs hv110 hP hS => ?_)
            have hI := XI_putN hI hv110 (by decide)
            exact kr v110 ar108 al108 _ _ _ _ ⟨hI, fun i j h => ((up_oth hv110 (fun q => h (by rcases q with ⟨rfl, rfl⟩; decide))).trans ((hq108 i j (fun q => h (mem_sub (by decide) q))).trans ((hq107 i j (fun q => h (mem_sub (by decide) q))).trans ((hq96 i j (fun q => h (mem_sub (by decide) q))).trans ((hq5 i j (fun q => h (mem_sub (by decide) q))).trans (hq3 i j (fun q => h (mem_sub (by decide) q))))))))⟩ hP hS dX4_readLine_178
    · skip
      refine lv_aload_n hE.1 hE.2.1 dX4_readLine_24 rfl (lv_at hl 0 rfl) ?_
      refine lv_aload_n hE.1 hE.2.1 dX4_readLine_25 rfl (lv_at hl 1 rfl) ?_
      refine x_vvB (nn := 1) (As := [.ref (ad 13)]) (rest := []) hE hK hN hP hS (s_X4_readMotif_1_13 l D K ad mm N hNN v3 ar3 al3 hI tk tv  ) tw_blind (tw_now hK hN hP hT hTR hS) (x_recv hK hP 1 (Nat.lt_of_lt_of_le (by decide) hNN) (xG_4 rfl) rfl) rfl mw_632 mw_634 mw_9 mw_115 mw_635 (by decide +kernel) ⟨by decide, by decide⟩ hl.1 rfl (Nat.le_of_ble_eq_true rfl) ⟨Nat.zero_le _, Nat.zero_le _⟩ dX4_readLine_26 (fun v111 ar111 al111 H locs hq111 hP hS => ?_)
      obtain ⟨hI, hq111⟩ := hq111
      have hI : XI v111 := hI
      refine lv_goto (tgt := 144) hE.1 hE.2.1 dX4_readLine_29 (by decide) ?_
      refine lv_aload_n hE.1 hE.2.1 dX4_readLine_144 rfl (lv_at hl 0 rfl) ?_
      obtain ⟨z112, hz112, ez112⟩ := iI_of (v111 1 1)
      refine x_get (x := .int (v111 1 1)) hE hK hP 1 (Nat.lt_of_lt_of_le (by decide) hNN) (xG_4 rfl) rfl hin4 1 (by decide) mw_148 rfl dX4_readLine_145 ?_
      refine x_top (y := iI (z112)) ez112 ?_
      refine s_if_ne (a := z112) (tgt := 164) hE.1 hE.2.1 (by omega) dX4_readLine_148 (by decide) (fun c113 => ?_) (fun c113 => ?_)
      · skip
        refine lv_aload_n hE.1 hE.2.1 dX4_readLine_164 rfl (lv_at hl 0 rfl) ?_
        refine x_vv (nn := 0) (As := []) (rest := []) hE hK hN hP hS (s_X4_step_1 l D K ad mm N hNN v111 ar111 al111 hI  ) (x_recv hK hP 1 (Nat.lt_of_lt_of_le (by decide) hNN) (xG_4 rfl) rfl) rfl mw_538 mw_540 mw_0 mw_115 mw_541 (by decide +kernel) ⟨by decide, by decide⟩ hl.1 rfl (Nat.le_of_ble_eq_true rfl) ⟨Nat.zero_le _, Nat.zero_le _⟩ dX4_readLine_165 (fun v114 ar114 al114 H locs hq114 hP hS => ?_)
        obtain ⟨hI, hq114⟩ := hq114
        have hI : XI v114 := hI
        refine lv_aload_n hE.1 hE.2.1 dX4_readLine_168 rfl (lv_at hl 1 rfl) ?_
        refine lv_dup hE.1 hE.2.1 dX4_readLine_169 rfl ?_
        refine x_get (x := .int (v114 13 4)) hE hK hP 13 (Nat.lt_of_lt_of_le (by decide) hNN) (xG_1 rfl) rfl hin1 4 (by decide) mw_195 rfl dX4_readLine_170 ?_
        refine x_top (y := iI (z1)) ((hq114 13 4 (by decide)).trans ((hq111 13 4 (by decide)).trans ((hq3 13 4 (by decide)).trans ez1))) ?_
        refine lv_iconst (v := iI (1)) hE.1 hE.2.1 dX4_readLine_173 (by decide) ?_
        refine lv_iadd hE.1 hE.2.1 dX4_readLine_174 ?_
        obtain ⟨z115, hz115, ez115⟩ := iI_of (iI (z1) + iI (1))
        refine x_top ez115 ?_
        refine x_put (x := iI (z115)) hE hK hN hP hS 13 (Nat.lt_of_lt_of_le (by decide) hNN) (xG_1 rfl) rfl hin1 tyX1 tyX1_ok nmX1 4 (by decide) mw_195 rfl rfl rfl (Nat.le_of_ble_eq_true rfl) (xG_1 rfl) dX4_readLine_175 (fun v116 H locs hv116 hP hS => ?_)
        have hI := XI_putN hI hv116 (by decide)
        exact kr v116 ar114 al114 _ _ _ _ ⟨hI, fun i j h => ((up_oth hv116 (fun q => h (by rcases q with ⟨rfl, rfl⟩; decide))).trans ((hq114 i j (fun q => h (mem_sub (by decide) q))).trans ((hq111 i j (fun q => h (mem_sub (by decide) q))).trans (hq3 i j (fun q => h (mem_sub (by decide) q))))))⟩ hP hS dX4_readLine_178
      · skip
        refine lv_aload_n hE.1 hE.2.1 dX4_readLine_151 rfl (lv_at hl 0 rfl) ?_
        obtain ⟨z117, hz117, ez117⟩ := iI_of (v111 1 6)
        refine x_get (x := .int (v111 1 6)) hE hK hP 1 (Nat.lt_of_lt_of_le (by decide) hNN) (xG_4 rfl) rfl hin4 6 (by decide) mw_155 rfl dX4_readLine_152 ?_
        refine x_top (y := iI (z117)) ez117 ?_
        refine lv_iconst (v := iI (4)) hE.1 hE.2.1 dX4_readLine_155 (by decide) ?_
        refine s_icmp_eq (a := z117) (b := 4) (tgt := 164) hE.1 hE.2.1 (by omega) (by omega) dX4_readLine_156 (by decide) (fun c118 => ?_) (fun c118 => ?_)
        · skip
          refine lv_aload_n hE.1 hE.2.1 dX4_readLine_164 rfl (lv_at hl 0 rfl) ?_
          refine x_vv (nn := 0) (As := []) (rest := []) hE hK hN hP hS (s_X4_step_1 l D K ad mm N hNN v111 ar111 al111 hI  ) (x_recv hK hP 1 (Nat.lt_of_lt_of_le (by decide) hNN) (xG_4 rfl) rfl) rfl mw_538 mw_540 mw_0 mw_115 mw_541 (by decide +kernel) ⟨by decide, by decide⟩ hl.1 rfl (Nat.le_of_ble_eq_true rfl) ⟨Nat.zero_le _, Nat.zero_le _⟩ dX4_readLine_165 (fun v119 ar119 al119 H locs hq119 hP hS => ?_)
          obtain ⟨hI, hq119⟩ := hq119
          have hI : XI v119 := hI
          refine lv_aload_n hE.1 hE.2.1 dX4_readLine_168 rfl (lv_at hl 1 rfl) ?_
          refine lv_dup hE.1 hE.2.1 dX4_readLine_169 rfl ?_
          refine x_get (x := .int (v119 13 4)) hE hK hP 13 (Nat.lt_of_lt_of_le (by decide) hNN) (xG_1 rfl) rfl hin1 4 (by decide) mw_195 rfl dX4_readLine_170 ?_
          refine x_top (y := iI (z1)) ((hq119 13 4 (by decide)).trans ((hq111 13 4 (by decide)).trans ((hq3 13 4 (by decide)).trans ez1))) ?_
          refine lv_iconst (v := iI (1)) hE.1 hE.2.1 dX4_readLine_173 (by decide) ?_
          refine lv_iadd hE.1 hE.2.1 dX4_readLine_174 ?_
          obtain ⟨z120, hz120, ez120⟩ := iI_of (iI (z1) + iI (1))
          refine x_top ez120 ?_
          refine x_put (x := iI (z120)) hE hK hN hP hS 13 (Nat.lt_of_lt_of_le (by decide) hNN) (xG_1 rfl) rfl hin1 tyX1 tyX1_ok nmX1 4 (by decide) mw_195 rfl rfl rfl (Nat.le_of_ble_eq_true rfl) (xG_1 rfl) dX4_readLine_175 (fun v121 H locs hv121 hP hS => ?_)
          have hI := XI_putN hI hv121 (by decide)
          exact kr v121 ar119 al119 _ _ _ _ ⟨hI, fun i j h => ((up_oth hv121 (fun q => h (by rcases q with ⟨rfl, rfl⟩; decide))).trans ((hq119 i j (fun q => h (mem_sub (by decide) q))).trans ((hq111 i j (fun q => h (mem_sub (by decide) q))).trans (hq3 i j (fun q => h (mem_sub (by decide) q))))))⟩ hP hS dX4_readLine_178
        · skip
          refine lv_aload_n hE.1 hE.2.1 dX4_readLine_159 rfl (lv_at hl 0 rfl) ?_
          refine lv_iconst (v := iI (1)) hE.1 hE.2.1 dX4_readLine_160 (by decide) ?_
          refine x_vv (nn := 1) (As := [.int (iI (1))]) (rest := []) hE hK hN hP hS (s_X4_fail_1 l D K ad mm N hNN v111 ar111 al111 hI  (1) (by omega)) (x_recv hK hP 1 (Nat.lt_of_lt_of_le (by decide) hNN) (xG_4 rfl) rfl) rfl mw_614 mw_616 mw_6 mw_115 mw_617 (by decide +kernel) ⟨by decide, by decide⟩ hl.1 rfl (Nat.le_of_ble_eq_true rfl) ⟨Nat.zero_le _, Nat.zero_le _⟩ dX4_readLine_161 (fun v122 ar122 al122 H locs hq122 hP hS => ?_)
          obtain ⟨hI, hq122⟩ := hq122
          have hI : XI v122 := hI
          refine lv_aload_n hE.1 hE.2.1 dX4_readLine_164 rfl (lv_at hl 0 rfl) ?_
          refine x_vv (nn := 0) (As := []) (rest := []) hE hK hN hP hS (s_X4_step_1 l D K ad mm N hNN v122 ar122 al122 hI  ) (x_recv hK hP 1 (Nat.lt_of_lt_of_le (by decide) hNN) (xG_4 rfl) rfl) rfl mw_538 mw_540 mw_0 mw_115 mw_541 (by decide +kernel) ⟨by decide, by decide⟩ hl.1 rfl (Nat.le_of_ble_eq_true rfl) ⟨Nat.zero_le _, Nat.zero_le _⟩ dX4_readLine_165 (fun v123 ar123 al123 H locs hq123 hP hS => ?_)
          obtain ⟨hI, hq123⟩ := hq123
          have hI : XI v123 := hI
          refine lv_aload_n hE.1 hE.2.1 dX4_readLine_168 rfl (lv_at hl 1 rfl) ?_
          refine lv_dup hE.1 hE.2.1 dX4_readLine_169 rfl ?_
          refine x_get (x := .int (v123 13 4)) hE hK hP 13 (Nat.lt_of_lt_of_le (by decide) hNN) (xG_1 rfl) rfl hin1 4 (by decide) mw_195 rfl dX4_readLine_170 ?_
          refine x_top (y := iI (z1)) ((hq123 13 4 (by decide)).trans ((hq122 13 4 (by decide)).trans ((hq111 13 4 (by decide)).trans ((hq3 13 4 (by decide)).trans ez1)))) ?_
          refine lv_iconst (v := iI (1)) hE.1 hE.2.1 dX4_readLine_173 (by decide) ?_
          refine lv_iadd hE.1 hE.2.1 dX4_readLine_174 ?_
          obtain ⟨z124, hz124, ez124⟩ := iI_of (iI (z1) + iI (1))
          refine x_top ez124 ?_
          refine x_put (x := iI (z124)) hE hK hN hP hS 13 (Nat.lt_of_lt_of_le (by decide) hNN) (xG_1 rfl) rfl hin1 tyX1 tyX1_ok nmX1 4 (by decide) mw_195 rfl rfl rfl (Nat.le_of_ble_eq_true rfl) (xG_1 rfl) dX4_readLine_175 (fun v125 H locs hv125 hP hS => ?_)
          have hI := XI_putN hI hv125 (by decide)
          exact kr v125 ar123 al123 _ _ _ _ ⟨hI, fun i j h => ((up_oth hv125 (fun q => h (by rcases q with ⟨rfl, rfl⟩; decide))).trans ((hq123 i j (fun q => h (mem_sub (by decide) q))).trans ((hq122 i j (fun q => h (mem_sub (by decide) q))).trans ((hq111 i j (fun q => h (mem_sub (by decide) q))).trans (hq3 i j (fun q => h (mem_sub (by decide) q)))))))⟩ hP hS dX4_readLine_178
  · skip
    refine lv_aload_n hE.1 hE.2.1 dX4_readLine_7 rfl (lv_at hl 0 rfl) ?_
    refine lv_aload_n hE.1 hE.2.1 dX4_readLine_8 rfl (lv_at hl 1 rfl) ?_
    refine x_vvB (nn := 1) (As := [.ref (ad 13)]) (rest := []) hE hK hN hP hS (s_X4_readHead_1_13 l D K ad mm N hNN v ar al hI tk tv  ) tw_blind (tw_now hK hN hP hT hTR hS) (x_recv hK hP 1 (Nat.lt_of_lt_of_le (by decide) hNN) (xG_4 rfl) rfl) rfl mw_553 mw_555 mw_3 mw_115 mw_556 (by decide +kernel) ⟨by decide, by decide⟩ hl.1 rfl (Nat.le_of_ble_eq_true rfl) ⟨Nat.zero_le _, Nat.zero_le _⟩ dX4_readLine_9 (fun v126 ar126 al126 H locs hq126 hP hS => ?_)
    obtain ⟨hI, hq126⟩ := hq126
    have hI : XI v126 := hI
    refine lv_goto (tgt := 144) hE.1 hE.2.1 dX4_readLine_12 (by decide) ?_
    refine lv_aload_n hE.1 hE.2.1 dX4_readLine_144 rfl (lv_at hl 0 rfl) ?_
    obtain ⟨z127, hz127, ez127⟩ := iI_of (v126 1 1)
    refine x_get (x := .int (v126 1 1)) hE hK hP 1 (Nat.lt_of_lt_of_le (by decide) hNN) (xG_4 rfl) rfl hin4 1 (by decide) mw_148 rfl dX4_readLine_145 ?_
    refine x_top (y := iI (z127)) ez127 ?_
    refine s_if_ne (a := z127) (tgt := 164) hE.1 hE.2.1 (by omega) dX4_readLine_148 (by decide) (fun c128 => ?_) (fun c128 => ?_)
    · skip
      refine lv_aload_n hE.1 hE.2.1 dX4_readLine_164 rfl (lv_at hl 0 rfl) ?_
      refine x_vv (nn := 0) (As := []) (rest := []) hE hK hN hP hS (s_X4_step_1 l D K ad mm N hNN v126 ar126 al126 hI  ) (x_recv hK hP 1 (Nat.lt_of_lt_of_le (by decide) hNN) (xG_4 rfl) rfl) rfl mw_538 mw_540 mw_0 mw_115 mw_541 (by decide +kernel) ⟨by decide, by decide⟩ hl.1 rfl (Nat.le_of_ble_eq_true rfl) ⟨Nat.zero_le _, Nat.zero_le _⟩ dX4_readLine_165 (fun v129 ar129 al129 H locs hq129 hP hS => ?_)
      obtain ⟨hI, hq129⟩ := hq129
      have hI : XI v129 := hI
      refine lv_aload_n hE.1 hE.2.1 dX4_readLine_168 rfl (lv_at hl 1 rfl) ?_
      refine lv_dup hE.1 hE.2.1 dX4_readLine_169 rfl ?_
      refine x_get (x := .int (v129 13 4)) hE hK hP 13 (Nat.lt_of_lt_of_le (by decide) hNN) (xG_1 rfl) rfl hin1 4 (by decide) mw_195 rfl dX4_readLine_170 ?_
      refine x_top (y := iI (z1)) ((hq129 13 4 (by decide)).trans ((hq126 13 4 (by decide)).trans ez1)) ?_
      refine lv_iconst (v := iI (1)) hE.1 hE.2.1 dX4_readLine_173 (by decide) ?_
      refine lv_iadd hE.1 hE.2.1 dX4_readLine_174 ?_
      refine x_top (y := iI (z1 + 1)) ((iI_add (z1) (1)).trans (congrArg iI (by omega))) ?_
      refine x_put (x := iI (z1 + 1)) hE hK hN hP hS 13 (Nat.lt_of_lt_of_le (by decide) hNN) (xG_1 rfl) rfl hin1 tyX1 tyX1_ok nmX1 4 (by decide) mw_195 rfl rfl rfl (Nat.le_of_ble_eq_true rfl) (xG_1 rfl) dX4_readLine_175 (fun v130 H locs hv130 hP hS => ?_)
      have hI := XI_putN hI hv130 (by decide)
      exact kr v130 ar129 al129 _ _ _ _ ⟨hI, fun i j h => ((up_oth hv130 (fun q => h (by rcases q with ⟨rfl, rfl⟩; decide))).trans ((hq129 i j (fun q => h (mem_sub (by decide) q))).trans (hq126 i j (fun q => h (mem_sub (by decide) q)))))⟩ hP hS dX4_readLine_178
    · skip
      refine lv_aload_n hE.1 hE.2.1 dX4_readLine_151 rfl (lv_at hl 0 rfl) ?_
      obtain ⟨z131, hz131, ez131⟩ := iI_of (v126 1 6)
      refine x_get (x := .int (v126 1 6)) hE hK hP 1 (Nat.lt_of_lt_of_le (by decide) hNN) (xG_4 rfl) rfl hin4 6 (by decide) mw_155 rfl dX4_readLine_152 ?_
      refine x_top (y := iI (z131)) ez131 ?_
      refine lv_iconst (v := iI (4)) hE.1 hE.2.1 dX4_readLine_155 (by decide) ?_
      refine s_icmp_eq (a := z131) (b := 4) (tgt := 164) hE.1 hE.2.1 (by omega) (by omega) dX4_readLine_156 (by decide) (fun c132 => ?_) (fun c132 => ?_)
      · skip
        refine lv_aload_n hE.1 hE.2.1 dX4_readLine_164 rfl (lv_at hl 0 rfl) ?_
        refine x_vv (nn := 0) (As := []) (rest := []) hE hK hN hP hS (s_X4_step_1 l D K ad mm N hNN v126 ar126 al126 hI  ) (x_recv hK hP 1 (Nat.lt_of_lt_of_le (by decide) hNN) (xG_4 rfl) rfl) rfl mw_538 mw_540 mw_0 mw_115 mw_541 (by decide +kernel) ⟨by decide, by decide⟩ hl.1 rfl (Nat.le_of_ble_eq_true rfl) ⟨Nat.zero_le _, Nat.zero_le _⟩ dX4_readLine_165 (fun v133 ar133 al133 H locs hq133 hP hS => ?_)
        obtain ⟨hI, hq133⟩ := hq133
        have hI : XI v133 := hI
        refine lv_aload_n hE.1 hE.2.1 dX4_readLine_168 rfl (lv_at hl 1 rfl) ?_
        refine lv_dup hE.1 hE.2.1 dX4_readLine_169 rfl ?_
        refine x_get (x := .int (v133 13 4)) hE hK hP 13 (Nat.lt_of_lt_of_le (by decide) hNN) (xG_1 rfl) rfl hin1 4 (by decide) mw_195 rfl dX4_readLine_170 ?_
        refine x_top (y := iI (z1)) ((hq133 13 4 (by decide)).trans ((hq126 13 4 (by decide)).trans ez1)) ?_
        refine lv_iconst (v := iI (1)) hE.1 hE.2.1 dX4_readLine_173 (by decide) ?_
        refine lv_iadd hE.1 hE.2.1 dX4_readLine_174 ?_
        refine x_top (y := iI (z1 + 1)) ((iI_add (z1) (1)).trans (congrArg iI (by omega))) ?_
        refine x_put (x := iI (z1 + 1)) hE hK hN hP hS 13 (Nat.lt_of_lt_of_le (by decide) hNN) (xG_1 rfl) rfl hin1 tyX1 tyX1_ok nmX1 4 (by decide) mw_195 rfl rfl rfl (Nat.le_of_ble_eq_true rfl) (xG_1 rfl) dX4_readLine_175 (fun v134 H locs hv134 hP hS => ?_)
        have hI := XI_putN hI hv134 (by decide)
        exact kr v134 ar133 al133 _ _ _ _ ⟨hI, fun i j h => ((up_oth hv134 (fun q => h (by rcases q with ⟨rfl, rfl⟩; decide))).trans ((hq133 i j (fun q => h (mem_sub (by decide) q))).trans (hq126 i j (fun q => h (mem_sub (by decide) q)))))⟩ hP hS dX4_readLine_178
      · skip
        refine lv_aload_n hE.1 hE.2.1 dX4_readLine_159 rfl (lv_at hl 0 rfl) ?_
        refine lv_iconst (v := iI (1)) hE.1 hE.2.1 dX4_readLine_160 (by decide) ?_
        refine x_vv (nn := 1) (As := [.int (iI (1))]) (rest := []) hE hK hN hP hS (s_X4_fail_1 l D K ad mm N hNN v126 ar126 al126 hI  (1) (by omega)) (x_recv hK hP 1 (Nat.lt_of_lt_of_le (by decide) hNN) (xG_4 rfl) rfl) rfl mw_614 mw_616 mw_6 mw_115 mw_617 (by decide +kernel) ⟨by decide, by decide⟩ hl.1 rfl (Nat.le_of_ble_eq_true rfl) ⟨Nat.zero_le _, Nat.zero_le _⟩ dX4_readLine_161 (fun v135 ar135 al135 H locs hq135 hP hS => ?_)
        obtain ⟨hI, hq135⟩ := hq135
        have hI : XI v135 := hI
        refine lv_aload_n hE.1 hE.2.1 dX4_readLine_164 rfl (lv_at hl 0 rfl) ?_
        refine x_vv (nn := 0) (As := []) (rest := []) hE hK hN hP hS (s_X4_step_1 l D K ad mm N hNN v135 ar135 al135 hI  ) (x_recv hK hP 1 (Nat.lt_of_lt_of_le (by decide) hNN) (xG_4 rfl) rfl) rfl mw_538 mw_540 mw_0 mw_115 mw_541 (by decide +kernel) ⟨by decide, by decide⟩ hl.1 rfl (Nat.le_of_ble_eq_true rfl) ⟨Nat.zero_le _, Nat.zero_le _⟩ dX4_readLine_165 (fun v136 ar136 al136 H locs hq136 hP hS => ?_)
        obtain ⟨hI, hq136⟩ := hq136
        have hI : XI v136 := hI
        refine lv_aload_n hE.1 hE.2.1 dX4_readLine_168 rfl (lv_at hl 1 rfl) ?_
        refine lv_dup hE.1 hE.2.1 dX4_readLine_169 rfl ?_
        refine x_get (x := .int (v136 13 4)) hE hK hP 13 (Nat.lt_of_lt_of_le (by decide) hNN) (xG_1 rfl) rfl hin1 4 (by decide) mw_195 rfl dX4_readLine_170 ?_
        refine x_top (y := iI (z1)) ((hq136 13 4 (by decide)).trans ((hq135 13 4 (by decide)).trans ((hq126 13 4 (by decide)).trans ez1))) ?_
        refine lv_iconst (v := iI (1)) hE.1 hE.2.1 dX4_readLine_173 (by decide) ?_
        refine lv_iadd hE.1 hE.2.1 dX4_readLine_174 ?_
        refine x_top (y := iI (z1 + 1)) ((iI_add (z1) (1)).trans (congrArg iI (by omega))) ?_
        refine x_put (x := iI (z1 + 1)) hE hK hN hP hS 13 (Nat.lt_of_lt_of_le (by decide) hNN) (xG_1 rfl) rfl hin1 tyX1 tyX1_ok nmX1 4 (by decide) mw_195 rfl rfl rfl (Nat.le_of_ble_eq_true rfl) (xG_1 rfl) dX4_readLine_175 (fun v137 H locs hv137 hP hS => ?_)
        have hI := XI_putN hI hv137 (by decide)
        exact kr v137 ar136 al136 _ _ _ _ ⟨hI, fun i j h => ((up_oth hv137 (fun q => h (by rcases q with ⟨rfl, rfl⟩; decide))).trans ((hq136 i j (fun q => h (mem_sub (by decide) q))).trans ((hq135 i j (fun q => h (mem_sub (by decide) q))).trans (hq126 i j (fun q => h (mem_sub (by decide) q))))))⟩ hP hS dX4_readLine_178

theorem dX4_read_0 : decode cX4_read 0 = .ok (.aload_n 1, 1) := by decide +kernel
theorem dX4_read_1 : decode cX4_read 1 = .ok (.invokevirtual 22, 3) := by decide +kernel
theorem dX4_read_4 : decode cX4_read 4 = .ok (.aload_n 0, 1) := by decide +kernel
theorem dX4_read_5 : decode cX4_read 5 = .ok (.iconst 0, 1) := by decide +kernel
theorem dX4_read_6 : decode cX4_read 6 = .ok (.putfield 27, 3) := by decide +kernel
theorem dX4_read_9 : decode cX4_read 9 = .ok (.aload_n 0, 1) := by decide +kernel
theorem dX4_read_10 : decode cX4_read 10 = .ok (.iconst (-1), 1) := by decide +kernel
theorem dX4_read_11 : decode cX4_read 11 = .ok (.putfield 9, 3) := by decide +kernel
theorem dX4_read_14 : decode cX4_read 14 = .ok (.aload_n 0, 1) := by decide +kernel
theorem dX4_read_15 : decode cX4_read 15 = .ok (.iconst 0, 1) := by decide +kernel
theorem dX4_read_16 : decode cX4_read 16 = .ok (.putfield 30, 3) := by decide +kernel
theorem dX4_read_19 : decode cX4_read 19 = .ok (.aload_n 0, 1) := by decide +kernel
theorem dX4_read_20 : decode cX4_read 20 = .ok (.invokevirtual 33, 3) := by decide +kernel
theorem dX4_read_23 : decode cX4_read 23 = .ok (.iconst 0, 1) := by decide +kernel
theorem dX4_read_24 : decode cX4_read 24 = .ok (.istore_n 2, 1) := by decide +kernel
theorem dX4_read_25 : decode cX4_read 25 = .ok (.iload_n 2, 1) := by decide +kernel
theorem dX4_read_26 : decode cX4_read 26 = .ok (.sipush 1600, 3) := by decide +kernel
theorem dX4_read_29 : decode cX4_read 29 = .ok (.if_icmp .gt 28, 3) := by decide +kernel
theorem dX4_read_32 : decode cX4_read 32 = .ok (.aload_n 0, 1) := by decide +kernel
theorem dX4_read_33 : decode cX4_read 33 = .ok (.getfield 27, 3) := by decide +kernel
theorem dX4_read_36 : decode cX4_read 36 = .ok (.ifCond .ne 21, 3) := by decide +kernel
theorem dX4_read_39 : decode cX4_read 39 = .ok (.aload_n 0, 1) := by decide +kernel
theorem dX4_read_40 : decode cX4_read 40 = .ok (.getfield 36, 3) := by decide +kernel
theorem dX4_read_43 : decode cX4_read 43 = .ok (.ifCond .eq 14, 3) := by decide +kernel
theorem dX4_read_46 : decode cX4_read 46 = .ok (.aload_n 0, 1) := by decide +kernel
theorem dX4_read_47 : decode cX4_read 47 = .ok (.aload_n 1, 1) := by decide +kernel
theorem dX4_read_48 : decode cX4_read 48 = .ok (.invokevirtual 39, 3) := by decide +kernel
theorem dX4_read_51 : decode cX4_read 51 = .ok (.iinc 2 1, 3) := by decide +kernel
theorem dX4_read_54 : decode cX4_read 54 = .ok (.goto (-29), 3) := by decide +kernel
theorem dX4_read_57 : decode cX4_read 57 = .ok (.aload_n 0, 1) := by decide +kernel
theorem dX4_read_58 : decode cX4_read 58 = .ok (.getfield 27, 3) := by decide +kernel
theorem dX4_read_61 : decode cX4_read 61 = .ok (.ifCond .ne 7, 3) := by decide +kernel
theorem dX4_read_64 : decode cX4_read 64 = .ok (.iconst 1, 1) := by decide +kernel
theorem dX4_read_65 : decode cX4_read 65 = .ok (.goto 4, 3) := by decide +kernel
theorem dX4_read_68 : decode cX4_read 68 = .ok (.iconst 0, 1) := by decide +kernel
theorem dX4_read_69 : decode cX4_read 69 = .ok (.ireturn, 1) := by decide +kernel
set_option maxHeartbeats 4000000 in
set_option maxRecDepth 100000 in
theorem s_X4_read_1_13 (l : Launch) (D : va_G) (K : Nat → ClassId) (ad : Nat → Nat) (mm : Option Nat) (N : Nat) (hNN : 132 ≤ N) (v ar : sI) (al : sL) (hI : XI v) (tk tv : Nat → Nat) : Met l yX4_read (wM yX4_read cX4_read 3 (some .boolean)) (rmD 9) (va_Pc [.ref (ad 1), .ref (ad 13)] (twPre D K ad (xG ad K mm) N v ar al tk tv)) (va_Qi (fun (r : Int32) (u : sT) => (∃ z : Int, (0 ≤ z ∧ z ≤ 1) ∧ r = iI z) ∧ XI u.1 ∧ (∀ i j : Nat, (i, j) ∉ ([(1, 1), (1, 2), (1, 4), (1, 5), (1, 6), (13, 0), (13, 1), (13, 2), (13, 3), (13, 4), (13, 5), (13, 6), (13, 7), (13, 8), (13, 9), (13, 10)] : List (Nat × Nat)) → u.1 i j = v i j)) (wB D ad (xG ad K mm) N) (inW ad N)) 0 0 (inW ad N) := by
  refine s_metI (by decide) (Nat.le_of_ble_eq_true rfl) ?_
  intro p e s m below meth c ls args Q hE hB hl kr
  have hE : CallFix p m c cX4_read 3 s args tbG "TaleCourt$Reader" := hE
  obtain ⟨⟨hP, hK, hN⟩, hT, hTR⟩ := hB
  have hS : va_S (inW ad N) s.heap s.heap [] := va_S.rf
  have hl : lv_has ls 3 [(0, .ref (ad 1)), (1, .ref (ad 13))] := hl
  refine lv_aload_n hE.1 hE.2.1 dX4_read_0 rfl (lv_at hl 1 rfl) ?_
  refine x_vv (nn := 0) (As := []) (rest := []) hE hK hN hP hS (s_X1_clear_13 l D K ad mm N hNN v ar al hI  ) (x_recv hK hP 13 (Nat.lt_of_lt_of_le (by decide) hNN) (xG_1 rfl) rfl) rfl mw_531 mw_532 mw_533 mw_116 mw_534 (by decide +kernel) ⟨by decide, by decide⟩ hl.1 rfl (Nat.le_of_ble_eq_true rfl) ⟨Nat.zero_le _, Nat.zero_le _⟩ dX4_read_1 (fun v1 ar1 al1 H locs hq1 hP hS => ?_)
  obtain ⟨hI, hq1⟩ := hq1
  have hI : XI v1 := hI
  refine lv_aload_n hE.1 hE.2.1 dX4_read_4 rfl (lv_at hl 0 rfl) ?_
  refine lv_iconst (v := iI (0)) hE.1 hE.2.1 dX4_read_5 (by decide) ?_
  refine x_put (x := iI (0)) hE hK hN hP hS 1 (Nat.lt_of_lt_of_le (by decide) hNN) (xG_4 rfl) rfl hin4 tyX4 tyX4_ok nmX4 1 (by decide) mw_148 rfl rfl rfl (Nat.le_of_ble_eq_true rfl) (xG_4 rfl) dX4_read_6 (fun v2 H locs hv2 hP hS => ?_)
  have hI := XI_putN hI hv2 (by decide)
  refine lv_aload_n hE.1 hE.2.1 dX4_read_9 rfl (lv_at hl 0 rfl) ?_
  refine lv_iconst (v := iI (-1)) hE.1 hE.2.1 dX4_read_10 (by decide) ?_
  refine x_put (x := iI (-1)) hE hK hN hP hS 1 (Nat.lt_of_lt_of_le (by decide) hNN) (xG_4 rfl) rfl hin4 tyX4 tyX4_ok nmX4 2 (by decide) mw_150 rfl rfl rfl (Nat.le_of_ble_eq_true rfl) (xG_4 rfl) dX4_read_11 (fun v3 H locs hv3 hP hS => ?_)
  have hI := XI_putN hI hv3 (by decide)
  refine lv_aload_n hE.1 hE.2.1 dX4_read_14 rfl (lv_at hl 0 rfl) ?_
  refine lv_iconst (v := iI (0)) hE.1 hE.2.1 dX4_read_15 (by decide) ?_
  refine x_put (x := iI (0)) hE hK hN hP hS 1 (Nat.lt_of_lt_of_le (by decide) hNN) (xG_4 rfl) rfl hin4 tyX4 tyX4_ok nmX4 5 (by decide) mw_154 rfl rfl rfl (Nat.le_of_ble_eq_true rfl) (xG_4 rfl) dX4_read_16 (fun v4 H locs hv4 hP hS => ?_)
  have hI := XI_putN hI hv4 (by decide)
  refine lv_aload_n hE.1 hE.2.1 dX4_read_19 rfl (lv_at hl 0 rfl) ?_
  refine x_vv (nn := 0) (As := []) (rest := []) hE hK hN hP hS (s_X4_step_1 l D K ad mm N hNN v4 ar1 al1 hI  ) (x_recv hK hP 1 (Nat.lt_of_lt_of_le (by decide) hNN) (xG_4 rfl) rfl) rfl mw_538 mw_540 mw_0 mw_115 mw_541 (by decide +kernel) ⟨by decide, by decide⟩ hl.1 rfl (Nat.le_of_ble_eq_true rfl) ⟨Nat.zero_le _, Nat.zero_le _⟩ dX4_read_20 (fun v5 ar5 al5 H locs hq5 hP hS => ?_)
  obtain ⟨hI, hq5⟩ := hq5
  have hI : XI v5 := hI
  refine lv_iconst (v := iI (0)) hE.1 hE.2.1 dX4_read_23 (by decide) ?_
  refine lv_istore_n (lv' := [(2, .int (iI (0))), (0, .ref (ad 1)), (1, .ref (ad 13))]) hE.1 hE.2.1 dX4_read_24 rfl hl (by decide) rfl (fun ls hl => ?_)
  have loop6 : ∀ (k6 : Nat) (y6_2 : Int) (vl6 arl6 : sI) (all6 : sL) (H : Heap) (locs : List Loc) (ls : Array Slot), (1601 - y6_2).toNat = k6 → (0 ≤ y6_2 ∧ y6_2 ≤ 1601) → XI vl6 → (∀ i j : Nat, (i, j) ∉ ([(1, 1), (1, 2), (1, 4), (1, 5), (1, 6), (13, 0), (13, 1), (13, 2), (13, 3), (13, 4), (13, 5), (13, 6), (13, 7), (13, 8), (13, 9), (13, 10)] : List (Nat × Nat)) → vl6 i j = v5 i j) → va_P D xcl (wW ad (xG ad K mm) N vl6 arl6 all6) H → va_S (inW ad N) s.heap H locs → lv_has ls 3 [(2, .int (iI (y6_2))), (0, .ref (ad 1)), (1, .ref (ad 13))] → W p l e (rmD 9) s m args below meth c H locs 0 0 Q (F0 m 25 ls []) := by
    intro k6
    induction k6 using Nat.strongRecOn with
    | _ k6 ih6 =>
      intro y6_2 vl6 arl6 all6 H locs ls hk6 hb_y6_2 hI hfr6 hP hS hl
      refine lv_iload_n hE.1 hE.2.1 dX4_read_25 rfl (lv_at hl 0 rfl) ?_
      refine lv_sipush (v := iI (1600)) hE.1 hE.2.1 dX4_read_26 (by decide) ?_
      refine s_icmp_gt (a := y6_2) (b := 1600) (tgt := 57) hE.1 hE.2.1 (by omega) (by omega) dX4_read_29 (by decide) (fun c7 => ?_) (fun c7 => ?_)
      · skip
        refine lv_aload_n hE.1 hE.2.1 dX4_read_57 rfl (lv_at hl 1 rfl) ?_
        obtain ⟨z8, hz8, ez8⟩ := iI_of (vl6 1 1)
        refine x_get (x := .int (vl6 1 1)) hE hK hP 1 (Nat.lt_of_lt_of_le (by decide) hNN) (xG_4 rfl) rfl hin4 1 (by decide) mw_148 rfl dX4_read_58 ?_
        refine x_top (y := iI (z8)) ez8 ?_
        refine s_if_ne (a := z8) (tgt := 68) hE.1 hE.2.1 (by omega) dX4_read_61 (by decide) (fun c9 => ?_) (fun c9 => ?_)
        · skip
          refine lv_iconst (v := iI (0)) hE.1 hE.2.1 dX4_read_68 (by decide) ?_
          exact kr _ vl6 arl6 all6 _ _ _ _ (nar01 (by omega)) ⟨⟨0, by omega, rfl⟩, hI, fun i j h => ((hfr6 i j (fun q => h (mem_sub (by decide) q))).trans ((hq5 i j (fun q => h (mem_sub (by decide) q))).trans ((up_oth hv4 (fun q => h (by rcases q with ⟨rfl, rfl⟩; decide))).trans ((up_oth hv3 (fun q => h (by rcases q with ⟨rfl, rfl⟩; decide))).trans ((up_oth hv2 (fun q => h (by rcases q with ⟨rfl, rfl⟩; decide))).trans (hq1 i j (fun q => h (mem_sub (by decide) q))))))))⟩ hP hS dX4_read_69
        · skip
          refine lv_iconst (v := iI (1)) hE.1 hE.2.1 dX4_read_64 (by decide) ?_
          refine lv_goto (tgt := 69) hE.1 hE.2.1 dX4_read_65 (by decide) ?_
          exact kr _ vl6 arl6 all6 _ _ _ _ (nar01 (by omega)) ⟨⟨1, by omega, rfl⟩, hI, fun i j h => ((hfr6 i j (fun q => h (mem_sub (by decide) q))).trans ((hq5 i j (fun q => h (mem_sub (by decide) q))).trans ((up_oth hv4 (fun q => h (by rcases q with ⟨rfl, rfl⟩; decide))).trans ((up_oth hv3 (fun q => h (by rcases q with ⟨rfl, rfl⟩; decide))).trans ((up_oth hv2 (fun q => h (by rcases q with ⟨rfl, rfl⟩; decide))).trans (hq1 i j (fun q => h (mem_sub (by decide) q))))))))⟩ hP hS dX4_read_69
      · skip
        refine lv_aload_n hE.1 hE.2.1 dX4_read_32 rfl (lv_at hl 1 rfl) ?_
        obtain ⟨z10, hz10, ez10⟩ := iI_of (vl6 1 1)
        refine x_get (x := .int (vl6 1 1)) hE hK hP 1 (Nat.lt_of_lt_of_le (by decide) hNN) (xG_4 rfl) rfl hin4 1 (by decide) mw_148 rfl dX4_read_33 ?_
        refine x_top (y := iI (z10)) ez10 ?_
        refine s_if_ne (a := z10) (tgt := 57) hE.1 hE.2.1 (by omega) dX4_read_36 (by decide) (fun c11 => ?_) (fun c11 => ?_)
        · skip
          refine lv_aload_n hE.1 hE.2.1 dX4_read_57 rfl (lv_at hl 1 rfl) ?_
          refine x_get (x := .int (vl6 1 1)) hE hK hP 1 (Nat.lt_of_lt_of_le (by decide) hNN) (xG_4 rfl) rfl hin4 1 (by decide) mw_148 rfl dX4_read_58 ?_
          refine x_top (y := iI (z10)) ez10 ?_
          refine s_if_ne (a := z10) (tgt := 68) hE.1 hE.2.1 (by omega) dX4_read_61 (by decide) (fun c12 => ?_) (fun c12 => ?_)
          · skip
            refine lv_iconst (v := iI (0)) hE.1 hE.2.1 dX4_read_68 (by decide) ?_
            exact kr _ vl6 arl6 all6 _ _ _ _ (nar01 (by omega)) ⟨⟨0, by omega, rfl⟩, hI, fun i j h => ((hfr6 i j (fun q => h (mem_sub (by decide) q))).trans ((hq5 i j (fun q => h (mem_sub (by decide) q))).trans ((up_oth hv4 (fun q => h (by rcases q with ⟨rfl, rfl⟩; decide))).trans ((up_oth hv3 (fun q => h (by rcases q with ⟨rfl, rfl⟩; decide))).trans ((up_oth hv2 (fun q => h (by rcases q with ⟨rfl, rfl⟩; decide))).trans (hq1 i j (fun q => h (mem_sub (by decide) q))))))))⟩ hP hS dX4_read_69
          · skip
            refine lv_iconst (v := iI (1)) hE.1 hE.2.1 dX4_read_64 (by decide) ?_
            refine lv_goto (tgt := 69) hE.1 hE.2.1 dX4_read_65 (by decide) ?_
            exact kr _ vl6 arl6 all6 _ _ _ _ (nar01 (by omega)) ⟨⟨1, by omega, rfl⟩, hI, fun i j h => ((hfr6 i j (fun q => h (mem_sub (by decide) q))).trans ((hq5 i j (fun q => h (mem_sub (by decide) q))).trans ((up_oth hv4 (fun q => h (by rcases q with ⟨rfl, rfl⟩; decide))).trans ((up_oth hv3 (fun q => h (by rcases q with ⟨rfl, rfl⟩; decide))).trans ((up_oth hv2 (fun q => h (by rcases q with ⟨rfl, rfl⟩; decide))).trans (hq1 i j (fun q => h (mem_sub (by decide) q))))))))⟩ hP hS dX4_read_69
        · skip
          refine lv_aload_n hE.1 hE.2.1 dX4_read_39 rfl (lv_at hl 1 rfl) ?_
          obtain ⟨z13, hz13, ez13⟩ := iI_of (vl6 1 6)
          refine x_get (x := .int (vl6 1 6)) hE hK hP 1 (Nat.lt_of_lt_of_le (by decide) hNN) (xG_4 rfl) rfl hin4 6 (by decide) mw_155 rfl dX4_read_40 ?_
          refine x_top (y := iI (z13)) ez13 ?_
          refine s_if_eq (a := z13) (tgt := 57) hE.1 hE.2.1 (by omega) dX4_read_43 (by decide) (fun c14 => ?_) (fun c14 => ?_)
          · skip
            refine lv_aload_n hE.1 hE.2.1 dX4_read_57 rfl (lv_at hl 1 rfl) ?_
            refine x_get (x := .int (vl6 1 1)) hE hK hP 1 (Nat.lt_of_lt_of_le (by decide) hNN) (xG_4 rfl) rfl hin4 1 (by decide) mw_148 rfl dX4_read_58 ?_
            refine x_top (y := iI (z10)) ez10 ?_
            refine s_if_ne (a := z10) (tgt := 68) hE.1 hE.2.1 (by omega) dX4_read_61 (by decide) (fun c15 => False.elim (by omega)) (fun _ => ?_)
            refine lv_iconst (v := iI (1)) hE.1 hE.2.1 dX4_read_64 (by decide) ?_
            refine lv_goto (tgt := 69) hE.1 hE.2.1 dX4_read_65 (by decide) ?_
            exact kr _ vl6 arl6 all6 _ _ _ _ (nar01 (by omega)) ⟨⟨1, by omega, rfl⟩, hI, fun i j h => ((hfr6 i j (fun q => h (mem_sub (by decide) q))).trans ((hq5 i j (fun q => h (mem_sub (by decide) q))).trans ((up_oth hv4 (fun q => h (by rcases q with ⟨rfl, rfl⟩; decide))).trans ((up_oth hv3 (fun q => h (by rcases q with ⟨rfl, rfl⟩; decide))).trans ((up_oth hv2 (fun q => h (by rcases q with ⟨rfl, rfl⟩; decide))).trans (hq1 i j (fun q => h (mem_sub (by decide) q))))))))⟩ hP hS dX4_read_69
          · skip
            refine lv_aload_n hE.1 hE.2.1 dX4_read_46 rfl (lv_at hl 1 rfl) ?_
            refine lv_aload_n hE.1 hE.2.1 dX4_read_47 rfl (lv_at hl 2 rfl) ?_
            refine x_vvB (nn := 1) (As := [.ref (ad 13)]) (rest := []) hE hK hN hP hS (s_X4_readLine_1_13 l D K ad mm N hNN vl6 arl6 all6 hI tk tv  ) tw_blind (tw_now hK hN hP hT hTR hS) (x_recv hK hP 1 (Nat.lt_of_lt_of_le (by decide) hNN) (xG_4 rfl) rfl) rfl mw_549 mw_551 mw_2 mw_115 mw_552 (by decide +kernel) ⟨by decide, by decide⟩ hl.1 rfl (Nat.le_of_ble_eq_true rfl) ⟨Nat.zero_le _, Nat.zero_le _⟩ dX4_read_48 (fun v16 ar16 al16 H locs hq16 hP hS => ?_)
            obtain ⟨hI, hq16⟩ := hq16
            have hI : XI v16 := hI
            refine lv_iinc (v := iI (y6_2 + 1)) (lv' := [(2, .int (iI (y6_2 + 1))), (0, .ref (ad 1)), (1, .ref (ad 13))]) hE.1 hE.2.1 dX4_read_51 hl (k := 0) rfl ((iI_add (y6_2) (1)).trans (congrArg iI (by omega))) (by decide) rfl (fun ls hl => ?_)
            refine lv_goto (tgt := 25) hE.1 hE.2.1 dX4_read_54 (by decide) ?_
            exact ih6 _ (by omega) (y6_2 + 1) v16 ar16 al16 _ _ _ rfl (by omega) hI (fun i j h => ((hq16 i j (fun q => h (mem_sub (by decide) q))).trans (hfr6 i j h))) hP hS (lv_sub hl [0, 1, 2] rfl)
  exact loop6 _ (0) v5 ar5 al5 _ _ _ rfl (by omega) hI (fun _ _ _ => rfl) hP hS hl

set_option maxHeartbeats 4000000 in
set_option maxRecDepth 100000 in
theorem s_X1_copyFrom_3_13 (l : Launch) (D : va_G) (K : Nat → ClassId) (ad : Nat → Nat) (mm : Option Nat) (N : Nat) (hNN : 132 ≤ N) (v ar : sI) (al : sL) (hI : XI v) : Met l yX1_copyFrom (wM yX1_copyFrom cX1_copyFrom 2 none) (rmD 1) (va_Pc [.ref (ad 3), .ref (ad 13)] (wPre D K ad (xG ad K mm) N v ar al)) (va_Qv (fun u : sT => XI u.1 ∧ (∀ i j : Nat, (i, j) ∉ ([(3, 0), (3, 1), (3, 2), (3, 3), (3, 4), (3, 5), (3, 6), (3, 7), (3, 8), (3, 9), (3, 10)] : List (Nat × Nat)) → u.1 i j = v i j)) (wB D ad (xG ad K mm) N) (inW ad N)) 0 0 (inW ad N) := by
  refine s_metV (by decide) (Nat.le_of_ble_eq_true rfl) ?_
  intro p e s m below meth c ls args Q hE hB hl kr
  have hE : CallFix p m c cX1_copyFrom 2 s args tbG "TaleCourt$Court" := hE
  obtain ⟨hP, hK, hN⟩ := hB
  have hS : va_S (inW ad N) s.heap s.heap [] := va_S.rf
  have hl : lv_has ls 2 [(0, .ref (ad 3)), (1, .ref (ad 13))] := hl
  refine lv_aload_n hE.1 hE.2.1 dX1_copyFrom_0 rfl (lv_at hl 0 rfl) ?_
  refine lv_aload_n hE.1 hE.2.1 dX1_copyFrom_1 rfl (lv_at hl 1 rfl) ?_
  obtain ⟨z1, hz1, ez1⟩ := XI_get hI 13 0 0 3 (by decide)
  refine x_get (x := .int (v 13 0)) hE hK hP 13 (Nat.lt_of_lt_of_le (by decide) hNN) (xG_1 rfl) rfl hin1 0 (by decide) mw_178 rfl dX1_copyFrom_2 ?_
  refine x_top (y := iI (z1)) ez1 ?_
  refine x_put (x := iI (z1)) hE hK hN hP hS 3 (Nat.lt_of_lt_of_le (by decide) hNN) (xG_1 rfl) rfl hin1 tyX1 tyX1_ok nmX1 0 (by decide) mw_178 rfl rfl rfl (Nat.le_of_ble_eq_true rfl) (xG_1 rfl) dX1_copyFrom_5 (fun v2 H locs hv2 hP hS => ?_)
  have hI := XI_putB (z := z1) hI hv2 0 3 (by omega) (by decide) (by omega)
  refine lv_aload_n hE.1 hE.2.1 dX1_copyFrom_8 rfl (lv_at hl 0 rfl) ?_
  refine lv_aload_n hE.1 hE.2.1 dX1_copyFrom_9 rfl (lv_at hl 1 rfl) ?_
  obtain ⟨z3, hz3, ez3⟩ := iI_of (v2 13 1)
  refine x_get (x := .int (v2 13 1)) hE hK hP 13 (Nat.lt_of_lt_of_le (by decide) hNN) (xG_1 rfl) rfl hin1 1 (by decide) mw_182 rfl dX1_copyFrom_10 ?_
  refine x_top (y := iI (z3)) ez3 ?_
  refine x_put (x := iI (z3)) hE hK hN hP hS 3 (Nat.lt_of_lt_of_le (by decide) hNN) (xG_1 rfl) rfl hin1 tyX1 tyX1_ok nmX1 1 (by decide) mw_182 rfl rfl rfl (Nat.le_of_ble_eq_true rfl) (xG_1 rfl) dX1_copyFrom_13 (fun v4 H locs hv4 hP hS => ?_)
  have hI := XI_putN hI hv4 (by decide)
  refine lv_aload_n hE.1 hE.2.1 dX1_copyFrom_16 rfl (lv_at hl 0 rfl) ?_
  refine lv_aload_n hE.1 hE.2.1 dX1_copyFrom_17 rfl (lv_at hl 1 rfl) ?_
  obtain ⟨z5, hz5, ez5⟩ := XI_get hI 13 2 0 9 (by decide)
  refine x_get (x := .int (v4 13 2)) hE hK hP 13 (Nat.lt_of_lt_of_le (by decide) hNN) (xG_1 rfl) rfl hin1 2 (by decide) mw_187 rfl dX1_copyFrom_18 ?_
  refine x_top (y := iI (z5)) ez5 ?_
  refine x_put (x := iI (z5)) hE hK hN hP hS 3 (Nat.lt_of_lt_of_le (by decide) hNN) (xG_1 rfl) rfl hin1 tyX1 tyX1_ok nmX1 2 (by decide) mw_187 rfl rfl rfl (Nat.le_of_ble_eq_true rfl) (xG_1 rfl) dX1_copyFrom_21 (fun v6 H locs hv6 hP hS => ?_)
  have hI := XI_putB (z := z5) hI hv6 0 9 (by omega) (by decide) (by omega)
  refine lv_aload_n hE.1 hE.2.1 dX1_copyFrom_24 rfl (lv_at hl 0 rfl) ?_
  refine lv_aload_n hE.1 hE.2.1 dX1_copyFrom_25 rfl (lv_at hl 1 rfl) ?_
  obtain ⟨z7, hz7, ez7⟩ := XI_get hI 13 3 0 8 (by decide)
  refine x_get (x := .int (v6 13 3)) hE hK hP 13 (Nat.lt_of_lt_of_le (by decide) hNN) (xG_1 rfl) rfl hin1 3 (by decide) mw_190 rfl dX1_copyFrom_26 ?_
  refine x_top (y := iI (z7)) ez7 ?_
  refine x_put (x := iI (z7)) hE hK hN hP hS 3 (Nat.lt_of_lt_of_le (by decide) hNN) (xG_1 rfl) rfl hin1 tyX1 tyX1_ok nmX1 3 (by decide) mw_190 rfl rfl rfl (Nat.le_of_ble_eq_true rfl) (xG_1 rfl) dX1_copyFrom_29 (fun v8 H locs hv8 hP hS => ?_)
  have hI := XI_putB (z := z7) hI hv8 0 8 (by omega) (by decide) (by omega)
  refine lv_aload_n hE.1 hE.2.1 dX1_copyFrom_32 rfl (lv_at hl 0 rfl) ?_
  refine lv_aload_n hE.1 hE.2.1 dX1_copyFrom_33 rfl (lv_at hl 1 rfl) ?_
  obtain ⟨z9, hz9, ez9⟩ := iI_of (v8 13 4)
  refine x_get (x := .int (v8 13 4)) hE hK hP 13 (Nat.lt_of_lt_of_le (by decide) hNN) (xG_1 rfl) rfl hin1 4 (by decide) mw_194 rfl dX1_copyFrom_34 ?_
  refine x_top (y := iI (z9)) ez9 ?_
  refine x_put (x := iI (z9)) hE hK hN hP hS 3 (Nat.lt_of_lt_of_le (by decide) hNN) (xG_1 rfl) rfl hin1 tyX1 tyX1_ok nmX1 4 (by decide) mw_194 rfl rfl rfl (Nat.le_of_ble_eq_true rfl) (xG_1 rfl) dX1_copyFrom_37 (fun v10 H locs hv10 hP hS => ?_)
  have hI := XI_putN hI hv10 (by decide)
  refine lv_aload_n hE.1 hE.2.1 dX1_copyFrom_40 rfl (lv_at hl 0 rfl) ?_
  refine lv_aload_n hE.1 hE.2.1 dX1_copyFrom_41 rfl (lv_at hl 1 rfl) ?_
  obtain ⟨z11, hz11, ez11⟩ := iI_of (v10 13 5)
  refine x_get (x := .int (v10 13 5)) hE hK hP 13 (Nat.lt_of_lt_of_le (by decide) hNN) (xG_1 rfl) rfl hin1 5 (by decide) mw_197 rfl dX1_copyFrom_42 ?_
  refine x_top (y := iI (z11)) ez11 ?_
  refine x_put (x := iI (z11)) hE hK hN hP hS 3 (Nat.lt_of_lt_of_le (by decide) hNN) (xG_1 rfl) rfl hin1 tyX1 tyX1_ok nmX1 5 (by decide) mw_197 rfl rfl rfl (Nat.le_of_ble_eq_true rfl) (xG_1 rfl) dX1_copyFrom_45 (fun v12 H locs hv12 hP hS => ?_)
  have hI := XI_putN hI hv12 (by decide)
  refine lv_aload_n hE.1 hE.2.1 dX1_copyFrom_48 rfl (lv_at hl 0 rfl) ?_
  refine lv_aload_n hE.1 hE.2.1 dX1_copyFrom_49 rfl (lv_at hl 1 rfl) ?_
  obtain ⟨z13, hz13, ez13⟩ := iI_of (v12 13 6)
  refine x_get (x := .int (v12 13 6)) hE hK hP 13 (Nat.lt_of_lt_of_le (by decide) hNN) (xG_1 rfl) rfl hin1 6 (by decide) mw_200 rfl dX1_copyFrom_50 ?_
  refine x_top (y := iI (z13)) ez13 ?_
  refine x_put (x := iI (z13)) hE hK hN hP hS 3 (Nat.lt_of_lt_of_le (by decide) hNN) (xG_1 rfl) rfl hin1 tyX1 tyX1_ok nmX1 6 (by decide) mw_200 rfl rfl rfl (Nat.le_of_ble_eq_true rfl) (xG_1 rfl) dX1_copyFrom_53 (fun v14 H locs hv14 hP hS => ?_)
  have hI := XI_putN hI hv14 (by decide)
  refine lv_aload_n hE.1 hE.2.1 dX1_copyFrom_56 rfl (lv_at hl 0 rfl) ?_
  refine lv_aload_n hE.1 hE.2.1 dX1_copyFrom_57 rfl (lv_at hl 1 rfl) ?_
  obtain ⟨z15, hz15, ez15⟩ := iI_of (v14 13 7)
  refine x_get (x := .int (v14 13 7)) hE hK hP 13 (Nat.lt_of_lt_of_le (by decide) hNN) (xG_1 rfl) rfl hin1 7 (by decide) mw_203 rfl dX1_copyFrom_58 ?_
  refine x_top (y := iI (z15)) ez15 ?_
  refine x_put (x := iI (z15)) hE hK hN hP hS 3 (Nat.lt_of_lt_of_le (by decide) hNN) (xG_1 rfl) rfl hin1 tyX1 tyX1_ok nmX1 7 (by decide) mw_203 rfl rfl rfl (Nat.le_of_ble_eq_true rfl) (xG_1 rfl) dX1_copyFrom_61 (fun v16 H locs hv16 hP hS => ?_)
  have hI := XI_putN hI hv16 (by decide)
  refine lv_aload_n hE.1 hE.2.1 dX1_copyFrom_64 rfl (lv_at hl 0 rfl) ?_
  refine lv_aload_n hE.1 hE.2.1 dX1_copyFrom_65 rfl (lv_at hl 1 rfl) ?_
  obtain ⟨z17, hz17, ez17⟩ := iI_of (v16 13 8)
  refine x_get (x := .int (v16 13 8)) hE hK hP 13 (Nat.lt_of_lt_of_le (by decide) hNN) (xG_1 rfl) rfl hin1 8 (by decide) mw_207 rfl dX1_copyFrom_66 ?_
  refine x_top (y := iI (z17)) ez17 ?_
  refine x_put (x := iI (z17)) hE hK hN hP hS 3 (Nat.lt_of_lt_of_le (by decide) hNN) (xG_1 rfl) rfl hin1 tyX1 tyX1_ok nmX1 8 (by decide) mw_207 rfl rfl rfl (Nat.le_of_ble_eq_true rfl) (xG_1 rfl) dX1_copyFrom_69 (fun v18 H locs hv18 hP hS => ?_)
  have hI := XI_putN hI hv18 (by decide)
  refine lv_aload_n hE.1 hE.2.1 dX1_copyFrom_72 rfl (lv_at hl 0 rfl) ?_
  refine lv_aload_n hE.1 hE.2.1 dX1_copyFrom_73 rfl (lv_at hl 1 rfl) ?_
  obtain ⟨z19, hz19, ez19⟩ := iI_of (v18 13 9)
  refine x_get (x := .int (v18 13 9)) hE hK hP 13 (Nat.lt_of_lt_of_le (by decide) hNN) (xG_1 rfl) rfl hin1 9 (by decide) mw_211 rfl dX1_copyFrom_74 ?_
  refine x_top (y := iI (z19)) ez19 ?_
  refine x_put (x := iI (z19)) hE hK hN hP hS 3 (Nat.lt_of_lt_of_le (by decide) hNN) (xG_1 rfl) rfl hin1 tyX1 tyX1_ok nmX1 9 (by decide) mw_211 rfl rfl rfl (Nat.le_of_ble_eq_true rfl) (xG_1 rfl) dX1_copyFrom_77 (fun v20 H locs hv20 hP hS => ?_)
  have hI := XI_putN hI hv20 (by decide)
  refine lv_aload_n hE.1 hE.2.1 dX1_copyFrom_80 rfl (lv_at hl 0 rfl) ?_
  refine lv_aload_n hE.1 hE.2.1 dX1_copyFrom_81 rfl (lv_at hl 1 rfl) ?_
  obtain ⟨z21, hz21, ez21⟩ := iI_of (v20 13 10)
  refine x_get (x := .int (v20 13 10)) hE hK hP 13 (Nat.lt_of_lt_of_le (by decide) hNN) (xG_1 rfl) rfl hin1 10 (by decide) mw_214 rfl dX1_copyFrom_82 ?_
  refine x_top (y := iI (z21)) ez21 ?_
  refine x_put (x := iI (z21)) hE hK hN hP hS 3 (Nat.lt_of_lt_of_le (by decide) hNN) (xG_1 rfl) rfl hin1 tyX1 tyX1_ok nmX1 10 (by decide) mw_214 rfl rfl rfl (Nat.le_of_ble_eq_true rfl) (xG_1 rfl) dX1_copyFrom_85 (fun v22 H locs hv22 hP hS => ?_)
  have hI := XI_putN hI hv22 (by decide)
  refine lv_aload_n hE.1 hE.2.1 dX1_copyFrom_88 rfl (lv_at hl 1 rfl) ?_
  refine x_get (x := .ref (ad 14)) hE hK hP 13 (Nat.lt_of_lt_of_le (by decide) hNN) (xG_1 rfl) rfl hin1 11 (by decide) mw_218 rfl dX1_copyFrom_89 ?_
  refine lv_iconst (v := iI (0)) hE.1 hE.2.1 dX1_copyFrom_92 (by decide) ?_
  refine lv_aload_n hE.1 hE.2.1 dX1_copyFrom_93 rfl (lv_at hl 0 rfl) ?_
  refine x_get (x := .ref (ad 4)) hE hK hP 3 (Nat.lt_of_lt_of_le (by decide) hNN) (xG_1 rfl) rfl hin1 11 (by decide) mw_218 rfl dX1_copyFrom_94 ?_
  refine lv_iconst (v := iI (0)) hE.1 hE.2.1 dX1_copyFrom_97 (by decide) ?_
  refine lv_bipush (v := iI (9)) hE.1 hE.2.1 dX1_copyFrom_98 (by decide) ?_
  refine x_copyi (rest := []) (sp := iI (0)) (dp := iI (0)) (n := iI (9)) (n0 := 9) (n1 := 9) hE hl.1 hK hN hP hS mw_678 mw_680 mw_679 mw_130 14 4 (Nat.lt_of_lt_of_le (by decide) hNN) (Nat.lt_of_lt_of_le (by decide) hNN) (xG_10 rfl) (fun _ => xG_10 rfl) (by decide) (by decide) (by decide) (by decide) (by decide) (by decide) (by decide) dX1_copyFrom_100 (fun ar23 H locs ha23 hP hS => ?_)
  refine lv_aload_n hE.1 hE.2.1 dX1_copyFrom_103 rfl (lv_at hl 1 rfl) ?_
  refine x_get (x := .ref (ad 15)) hE hK hP 13 (Nat.lt_of_lt_of_le (by decide) hNN) (xG_1 rfl) rfl hin1 12 (by decide) mw_221 rfl dX1_copyFrom_104 ?_
  refine lv_iconst (v := iI (0)) hE.1 hE.2.1 dX1_copyFrom_107 (by decide) ?_
  refine lv_aload_n hE.1 hE.2.1 dX1_copyFrom_108 rfl (lv_at hl 0 rfl) ?_
  refine x_get (x := .ref (ad 5)) hE hK hP 3 (Nat.lt_of_lt_of_le (by decide) hNN) (xG_1 rfl) rfl hin1 12 (by decide) mw_221 rfl dX1_copyFrom_109 ?_
  refine lv_iconst (v := iI (0)) hE.1 hE.2.1 dX1_copyFrom_112 (by decide) ?_
  refine lv_bipush (v := iI (9)) hE.1 hE.2.1 dX1_copyFrom_113 (by decide) ?_
  refine x_copyi (rest := []) (sp := iI (0)) (dp := iI (0)) (n := iI (9)) (n0 := 9) (n1 := 9) hE hl.1 hK hN hP hS mw_678 mw_680 mw_679 mw_130 15 5 (Nat.lt_of_lt_of_le (by decide) hNN) (Nat.lt_of_lt_of_le (by decide) hNN) (xG_10 rfl) (fun _ => xG_10 rfl) (by decide) (by decide) (by decide) (by decide) (by decide) (by decide) (by decide) dX1_copyFrom_115 (fun ar24 H locs ha24 hP hS => ?_)
  refine lv_aload_n hE.1 hE.2.1 dX1_copyFrom_118 rfl (lv_at hl 1 rfl) ?_
  refine x_get (x := .ref (ad 16)) hE hK hP 13 (Nat.lt_of_lt_of_le (by decide) hNN) (xG_1 rfl) rfl hin1 13 (by decide) mw_225 rfl dX1_copyFrom_119 ?_
  refine lv_iconst (v := iI (0)) hE.1 hE.2.1 dX1_copyFrom_122 (by decide) ?_
  refine lv_aload_n hE.1 hE.2.1 dX1_copyFrom_123 rfl (lv_at hl 0 rfl) ?_
  refine x_get (x := .ref (ad 6)) hE hK hP 3 (Nat.lt_of_lt_of_le (by decide) hNN) (xG_1 rfl) rfl hin1 13 (by decide) mw_225 rfl dX1_copyFrom_124 ?_
  refine lv_iconst (v := iI (0)) hE.1 hE.2.1 dX1_copyFrom_127 (by decide) ?_
  refine lv_bipush (v := iI (9)) hE.1 hE.2.1 dX1_copyFrom_128 (by decide) ?_
  refine x_copyi (rest := []) (sp := iI (0)) (dp := iI (0)) (n := iI (9)) (n0 := 9) (n1 := 9) hE hl.1 hK hN hP hS mw_678 mw_680 mw_679 mw_130 16 6 (Nat.lt_of_lt_of_le (by decide) hNN) (Nat.lt_of_lt_of_le (by decide) hNN) (xG_10 rfl) (fun _ => xG_10 rfl) (by decide) (by decide) (by decide) (by decide) (by decide) (by decide) (by decide) dX1_copyFrom_130 (fun ar25 H locs ha25 hP hS => ?_)
  refine lv_aload_n hE.1 hE.2.1 dX1_copyFrom_133 rfl (lv_at hl 1 rfl) ?_
  refine x_get (x := .ref (ad 17)) hE hK hP 13 (Nat.lt_of_lt_of_le (by decide) hNN) (xG_1 rfl) rfl hin1 14 (by decide) mw_229 rfl dX1_copyFrom_134 ?_
  refine lv_iconst (v := iI (0)) hE.1 hE.2.1 dX1_copyFrom_137 (by decide) ?_
  refine lv_aload_n hE.1 hE.2.1 dX1_copyFrom_138 rfl (lv_at hl 0 rfl) ?_
  refine x_get (x := .ref (ad 7)) hE hK hP 3 (Nat.lt_of_lt_of_le (by decide) hNN) (xG_1 rfl) rfl hin1 14 (by decide) mw_229 rfl dX1_copyFrom_139 ?_
  refine lv_iconst (v := iI (0)) hE.1 hE.2.1 dX1_copyFrom_142 (by decide) ?_
  refine lv_bipush (v := iI (9)) hE.1 hE.2.1 dX1_copyFrom_143 (by decide) ?_
  refine x_copyi (rest := []) (sp := iI (0)) (dp := iI (0)) (n := iI (9)) (n0 := 9) (n1 := 9) hE hl.1 hK hN hP hS mw_678 mw_680 mw_679 mw_130 17 7 (Nat.lt_of_lt_of_le (by decide) hNN) (Nat.lt_of_lt_of_le (by decide) hNN) (xG_10 rfl) (fun _ => xG_10 rfl) (by decide) (by decide) (by decide) (by decide) (by decide) (by decide) (by decide) dX1_copyFrom_145 (fun ar26 H locs ha26 hP hS => ?_)
  refine lv_aload_n hE.1 hE.2.1 dX1_copyFrom_148 rfl (lv_at hl 1 rfl) ?_
  refine x_get (x := .ref (ad 18)) hE hK hP 13 (Nat.lt_of_lt_of_le (by decide) hNN) (xG_1 rfl) rfl hin1 15 (by decide) mw_231 rfl dX1_copyFrom_149 ?_
  refine lv_iconst (v := iI (0)) hE.1 hE.2.1 dX1_copyFrom_152 (by decide) ?_
  refine lv_aload_n hE.1 hE.2.1 dX1_copyFrom_153 rfl (lv_at hl 0 rfl) ?_
  refine x_get (x := .ref (ad 8)) hE hK hP 3 (Nat.lt_of_lt_of_le (by decide) hNN) (xG_1 rfl) rfl hin1 15 (by decide) mw_231 rfl dX1_copyFrom_154 ?_
  refine lv_iconst (v := iI (0)) hE.1 hE.2.1 dX1_copyFrom_157 (by decide) ?_
  refine lv_bipush (v := iI (9)) hE.1 hE.2.1 dX1_copyFrom_158 (by decide) ?_
  refine x_copyi (rest := []) (sp := iI (0)) (dp := iI (0)) (n := iI (9)) (n0 := 9) (n1 := 9) hE hl.1 hK hN hP hS mw_678 mw_680 mw_679 mw_130 18 8 (Nat.lt_of_lt_of_le (by decide) hNN) (Nat.lt_of_lt_of_le (by decide) hNN) (xG_10 rfl) (fun _ => xG_10 rfl) (by decide) (by decide) (by decide) (by decide) (by decide) (by decide) (by decide) dX1_copyFrom_160 (fun ar27 H locs ha27 hP hS => ?_)
  refine lv_aload_n hE.1 hE.2.1 dX1_copyFrom_163 rfl (lv_at hl 1 rfl) ?_
  refine x_get (x := .ref (ad 19)) hE hK hP 13 (Nat.lt_of_lt_of_le (by decide) hNN) (xG_1 rfl) rfl hin1 16 (by decide) mw_235 rfl dX1_copyFrom_164 ?_
  refine lv_iconst (v := iI (0)) hE.1 hE.2.1 dX1_copyFrom_167 (by decide) ?_
  refine lv_aload_n hE.1 hE.2.1 dX1_copyFrom_168 rfl (lv_at hl 0 rfl) ?_
  refine x_get (x := .ref (ad 9)) hE hK hP 3 (Nat.lt_of_lt_of_le (by decide) hNN) (xG_1 rfl) rfl hin1 16 (by decide) mw_235 rfl dX1_copyFrom_169 ?_
  refine lv_iconst (v := iI (0)) hE.1 hE.2.1 dX1_copyFrom_172 (by decide) ?_
  refine lv_bipush (v := iI (9)) hE.1 hE.2.1 dX1_copyFrom_173 (by decide) ?_
  refine x_copyi (rest := []) (sp := iI (0)) (dp := iI (0)) (n := iI (9)) (n0 := 9) (n1 := 9) hE hl.1 hK hN hP hS mw_678 mw_680 mw_679 mw_130 19 9 (Nat.lt_of_lt_of_le (by decide) hNN) (Nat.lt_of_lt_of_le (by decide) hNN) (xG_10 rfl) (fun _ => xG_10 rfl) (by decide) (by decide) (by decide) (by decide) (by decide) (by decide) (by decide) dX1_copyFrom_175 (fun ar28 H locs ha28 hP hS => ?_)
  refine lv_aload_n hE.1 hE.2.1 dX1_copyFrom_178 rfl (lv_at hl 1 rfl) ?_
  refine x_get (x := .ref (ad 20)) hE hK hP 13 (Nat.lt_of_lt_of_le (by decide) hNN) (xG_1 rfl) rfl hin1 17 (by decide) mw_239 rfl dX1_copyFrom_179 ?_
  refine lv_iconst (v := iI (0)) hE.1 hE.2.1 dX1_copyFrom_182 (by decide) ?_
  refine lv_aload_n hE.1 hE.2.1 dX1_copyFrom_183 rfl (lv_at hl 0 rfl) ?_
  refine x_get (x := .ref (ad 10)) hE hK hP 3 (Nat.lt_of_lt_of_le (by decide) hNN) (xG_1 rfl) rfl hin1 17 (by decide) mw_239 rfl dX1_copyFrom_184 ?_
  refine lv_iconst (v := iI (0)) hE.1 hE.2.1 dX1_copyFrom_187 (by decide) ?_
  refine lv_iconst (v := iI (3)) hE.1 hE.2.1 dX1_copyFrom_188 (by decide) ?_
  refine x_copyi (rest := []) (sp := iI (0)) (dp := iI (0)) (n := iI (3)) (n0 := 3) (n1 := 3) hE hl.1 hK hN hP hS mw_678 mw_680 mw_679 mw_130 20 10 (Nat.lt_of_lt_of_le (by decide) hNN) (Nat.lt_of_lt_of_le (by decide) hNN) (xG_10 rfl) (fun _ => xG_10 rfl) (by decide) (by decide) (by decide) (by decide) (by decide) (by decide) (by decide) dX1_copyFrom_189 (fun ar29 H locs ha29 hP hS => ?_)
  refine lv_aload_n hE.1 hE.2.1 dX1_copyFrom_192 rfl (lv_at hl 1 rfl) ?_
  refine x_get (x := .ref (ad 21)) hE hK hP 13 (Nat.lt_of_lt_of_le (by decide) hNN) (xG_1 rfl) rfl hin1 18 (by decide) mw_241 rfl dX1_copyFrom_193 ?_
  refine lv_iconst (v := iI (0)) hE.1 hE.2.1 dX1_copyFrom_196 (by decide) ?_
  refine lv_aload_n hE.1 hE.2.1 dX1_copyFrom_197 rfl (lv_at hl 0 rfl) ?_
  refine x_get (x := .ref (ad 11)) hE hK hP 3 (Nat.lt_of_lt_of_le (by decide) hNN) (xG_1 rfl) rfl hin1 18 (by decide) mw_241 rfl dX1_copyFrom_198 ?_
  refine lv_iconst (v := iI (0)) hE.1 hE.2.1 dX1_copyFrom_201 (by decide) ?_
  refine lv_bipush (v := iI (8)) hE.1 hE.2.1 dX1_copyFrom_202 (by decide) ?_
  refine x_copyi (rest := []) (sp := iI (0)) (dp := iI (0)) (n := iI (8)) (n0 := 8) (n1 := 8) hE hl.1 hK hN hP hS mw_678 mw_680 mw_679 mw_130 21 11 (Nat.lt_of_lt_of_le (by decide) hNN) (Nat.lt_of_lt_of_le (by decide) hNN) (xG_10 rfl) (fun _ => xG_10 rfl) (by decide) (by decide) (by decide) (by decide) (by decide) (by decide) (by decide) dX1_copyFrom_204 (fun ar30 H locs ha30 hP hS => ?_)
  refine lv_aload_n hE.1 hE.2.1 dX1_copyFrom_207 rfl (lv_at hl 1 rfl) ?_
  refine x_get (x := .ref (ad 22)) hE hK hP 13 (Nat.lt_of_lt_of_le (by decide) hNN) (xG_1 rfl) rfl hin1 19 (by decide) mw_244 rfl dX1_copyFrom_208 ?_
  refine lv_iconst (v := iI (0)) hE.1 hE.2.1 dX1_copyFrom_211 (by decide) ?_
  refine lv_aload_n hE.1 hE.2.1 dX1_copyFrom_212 rfl (lv_at hl 0 rfl) ?_
  refine x_get (x := .ref (ad 12)) hE hK hP 3 (Nat.lt_of_lt_of_le (by decide) hNN) (xG_1 rfl) rfl hin1 19 (by decide) mw_244 rfl dX1_copyFrom_213 ?_
  refine lv_iconst (v := iI (0)) hE.1 hE.2.1 dX1_copyFrom_216 (by decide) ?_
  refine lv_bipush (v := iI (8)) hE.1 hE.2.1 dX1_copyFrom_217 (by decide) ?_
  refine x_copyi (rest := []) (sp := iI (0)) (dp := iI (0)) (n := iI (8)) (n0 := 8) (n1 := 8) hE hl.1 hK hN hP hS mw_678 mw_680 mw_679 mw_130 22 12 (Nat.lt_of_lt_of_le (by decide) hNN) (Nat.lt_of_lt_of_le (by decide) hNN) (xG_10 rfl) (fun _ => xG_10 rfl) (by decide) (by decide) (by decide) (by decide) (by decide) (by decide) (by decide) dX1_copyFrom_219 (fun ar31 H locs ha31 hP hS => ?_)
  exact kr _ _ _ _ _ _ _ ⟨hI, fun i j h => ((up_oth hv22 (fun q => h (by rcases q with ⟨rfl, rfl⟩; decide))).trans ((up_oth hv20 (fun q => h (by rcases q with ⟨rfl, rfl⟩; decide))).trans ((up_oth hv18 (fun q => h (by rcases q with ⟨rfl, rfl⟩; decide))).trans ((up_oth hv16 (fun q => h (by rcases q with ⟨rfl, rfl⟩; decide))).trans ((up_oth hv14 (fun q => h (by rcases q with ⟨rfl, rfl⟩; decide))).trans ((up_oth hv12 (fun q => h (by rcases q with ⟨rfl, rfl⟩; decide))).trans ((up_oth hv10 (fun q => h (by rcases q with ⟨rfl, rfl⟩; decide))).trans ((up_oth hv8 (fun q => h (by rcases q with ⟨rfl, rfl⟩; decide))).trans ((up_oth hv6 (fun q => h (by rcases q with ⟨rfl, rfl⟩; decide))).trans ((up_oth hv4 (fun q => h (by rcases q with ⟨rfl, rfl⟩; decide))).trans (up_oth hv2 (fun q => h (by rcases q with ⟨rfl, rfl⟩; decide)))))))))))))⟩ hP hS dX1_copyFrom_222

theorem dX8_court_0 : decode cX8_court 0 = .ok (.aload_n 0, 1) := by decide +kernel
theorem dX8_court_1 : decode cX8_court 1 = .ok (.getfield 12, 3) := by decide +kernel
theorem dX8_court_4 : decode cX8_court 4 = .ok (.aload_n 0, 1) := by decide +kernel
theorem dX8_court_5 : decode cX8_court 5 = .ok (.getfield 23, 3) := by decide +kernel
theorem dX8_court_8 : decode cX8_court 8 = .ok (.invokevirtual 83, 3) := by decide +kernel
theorem dX8_court_11 : decode cX8_court 11 = .ok (.ifCond .ne 6, 3) := by decide +kernel
theorem dX8_court_14 : decode cX8_court 14 = .ok (.bipush (-4), 2) := by decide +kernel
theorem dX8_court_16 : decode cX8_court 16 = .ok (.ireturn, 1) := by decide +kernel
theorem dX8_court_17 : decode cX8_court 17 = .ok (.aload_n 0, 1) := by decide +kernel
theorem dX8_court_18 : decode cX8_court 18 = .ok (.getfield 12, 3) := by decide +kernel
theorem dX8_court_21 : decode cX8_court 21 = .ok (.iconst 0, 1) := by decide +kernel
theorem dX8_court_22 : decode cX8_court 22 = .ok (.putfield 75, 3) := by decide +kernel
theorem dX8_court_25 : decode cX8_court 25 = .ok (.aload_n 0, 1) := by decide +kernel
theorem dX8_court_26 : decode cX8_court 26 = .ok (.getfield 19, 3) := by decide +kernel
theorem dX8_court_29 : decode cX8_court 29 = .ok (.aload_n 0, 1) := by decide +kernel
theorem dX8_court_30 : decode cX8_court 30 = .ok (.getfield 23, 3) := by decide +kernel
theorem dX8_court_33 : decode cX8_court 33 = .ok (.invokevirtual 87, 3) := by decide +kernel
theorem dX8_court_36 : decode cX8_court 36 = .ok (.aload_n 0, 1) := by decide +kernel
theorem dX8_court_37 : decode cX8_court 37 = .ok (.getfield 31, 3) := by decide +kernel
theorem dX8_court_40 : decode cX8_court 40 = .ok (.invokevirtual 90, 3) := by decide +kernel
theorem dX8_court_43 : decode cX8_court 43 = .ok (.aload_n 0, 1) := by decide +kernel
theorem dX8_court_44 : decode cX8_court 44 = .ok (.getfield 19, 3) := by decide +kernel
theorem dX8_court_47 : decode cX8_court 47 = .ok (.getfield 93, 3) := by decide +kernel
theorem dX8_court_50 : decode cX8_court 50 = .ok (.ireturn, 1) := by decide +kernel
set_option maxHeartbeats 4000000 in
set_option maxRecDepth 100000 in
theorem s_X8_court_0 (l : Launch) (D : va_G) (K : Nat → ClassId) (ad : Nat → Nat) (mm : Option Nat) (N : Nat) (hNN : 132 ≤ N) (v ar : sI) (al : sL) (hI : XI v) (tk tv : Nat → Nat) : Met l yX8_court (wM yX8_court cX8_court 1 (some .int)) (rmD 10) (va_Pc [.ref (ad 0)] (twPre D K ad (xG ad K mm) N v ar al tk tv)) (va_Qi (fun (r : Int32) (u : sT) => (∃ z : Int, (-2147483648 ≤ z ∧ z ≤ 2147483647) ∧ r = iI z) ∧ XI u.1 ∧ (∀ i j : Nat, (i, j) ∉ ([(1, 0), (1, 1), (1, 2), (1, 4), (1, 5), (1, 6), (3, 0), (3, 1), (3, 2), (3, 3), (3, 4), (3, 5), (3, 6), (3, 7), (3, 8), (3, 9), (3, 10), (13, 0), (13, 1), (13, 2), (13, 3), (13, 4), (13, 5), (13, 6), (13, 7), (13, 8), (13, 9), (13, 10), (23, 2), (23, 3), (23, 4), (23, 5), (23, 8), (23, 9)] : List (Nat × Nat)) → u.1 i j = v i j)) (wB D ad (xG ad K mm) N) (inW ad N)) 0 0 (inW ad N) := by
  refine s_metI (by decide) (Nat.le_of_ble_eq_true rfl) ?_
  intro p e s m below meth c ls args Q hE hB hl kr
  have hE : CallFix p m c cX8_court 1 s args tbG "TaleCourt" := hE
  obtain ⟨⟨hP, hK, hN⟩, hT, hTR⟩ := hB
  have hS : va_S (inW ad N) s.heap s.heap [] := va_S.rf
  have hl : lv_has ls 1 [(0, .ref (ad 0))] := hl
  refine lv_aload_n hE.1 hE.2.1 dX8_court_0 rfl (lv_at hl 0 rfl) ?_
  refine x_get (x := .ref (ad 1)) hE hK hP 0 (Nat.lt_of_lt_of_le (by decide) hNN) (xG_8 rfl) rfl hin8 0 (by decide) mw_480 rfl dX8_court_1 ?_
  refine lv_aload_n hE.1 hE.2.1 dX8_court_4 rfl (lv_at hl 0 rfl) ?_
  refine x_get (x := .ref (ad 13)) hE hK hP 0 (Nat.lt_of_lt_of_le (by decide) hNN) (xG_8 rfl) rfl hin8 2 (by decide) mw_482 rfl dX8_court_5 ?_
  refine x_viB (nn := 1) (As := [.ref (ad 13)]) (rest := []) hE hK hN hP hS (s_X4_read_1_13 l D K ad mm N hNN v ar al hI tk tv  ) tw_blind (tw_now hK hN hP hT hTR hS) (x_recv hK hP 1 (Nat.lt_of_lt_of_le (by decide) hNN) (xG_4 rfl) rfl) rfl mw_527 mw_528 mw_529 mw_115 mw_530 (by decide +kernel) ⟨by decide, by decide⟩ hl.1 rfl (Nat.le_of_ble_eq_true rfl) ⟨Nat.zero_le _, Nat.zero_le _⟩ dX8_court_8 (fun r1 v1 ar1 al1 H locs hq1 hP hS => ?_)
  obtain ⟨⟨z1, hz1, rfl⟩, hI, hq1⟩ := hq1
  have hI : XI v1 := hI
  refine s_if_ne (a := z1) (tgt := 17) hE.1 hE.2.1 (by omega) dX8_court_11 (by decide) (fun c2 => ?_) (fun c2 => ?_)
  · skip
    refine lv_aload_n hE.1 hE.2.1 dX8_court_17 rfl (lv_at hl 0 rfl) ?_
    refine x_get (x := .ref (ad 1)) hE hK hP 0 (Nat.lt_of_lt_of_le (by decide) hNN) (xG_8 rfl) rfl hin8 0 (by decide) mw_480 rfl dX8_court_18 ?_
    refine lv_iconst (v := iI (0)) hE.1 hE.2.1 dX8_court_21 (by decide) ?_
    refine x_put (x := iI (0)) hE hK hN hP hS 1 (Nat.lt_of_lt_of_le (by decide) hNN) (xG_4 rfl) rfl hin4 tyX4 tyX4_ok nmX4 0 (by decide) mw_147 rfl rfl rfl (Nat.le_of_ble_eq_true rfl) (xG_4 rfl) dX8_court_22 (fun v3 H locs hv3 hP hS => ?_)
    have hI := XI_putB (z := 0) hI hv3 0 1600 (by omega) (by decide) (by omega)
    refine lv_aload_n hE.1 hE.2.1 dX8_court_25 rfl (lv_at hl 0 rfl) ?_
    refine x_get (x := .ref (ad 3)) hE hK hP 0 (Nat.lt_of_lt_of_le (by decide) hNN) (xG_8 rfl) rfl hin8 1 (by decide) mw_481 rfl dX8_court_26 ?_
    refine lv_aload_n hE.1 hE.2.1 dX8_court_29 rfl (lv_at hl 0 rfl) ?_
    refine x_get (x := .ref (ad 13)) hE hK hP 0 (Nat.lt_of_lt_of_le (by decide) hNN) (xG_8 rfl) rfl hin8 2 (by decide) mw_482 rfl dX8_court_30 ?_
    refine x_vv (nn := 1) (As := [.ref (ad 13)]) (rest := []) hE hK hN hP hS (s_X1_copyFrom_3_13 l D K ad mm N hNN v3 ar1 al1 hI  ) (x_recv hK hP 3 (Nat.lt_of_lt_of_le (by decide) hNN) (xG_1 rfl) rfl) rfl mw_674 mw_675 mw_676 mw_116 mw_677 (by decide +kernel) ⟨by decide, by decide⟩ hl.1 rfl (Nat.le_of_ble_eq_true rfl) ⟨Nat.zero_le _, Nat.zero_le _⟩ dX8_court_33 (fun v4 ar4 al4 H locs hq4 hP hS => ?_)
    obtain ⟨hI, hq4⟩ := hq4
    have hI : XI v4 := hI
    refine lv_aload_n hE.1 hE.2.1 dX8_court_36 rfl (lv_at hl 0 rfl) ?_
    refine x_get (x := .ref (ad 23)) hE hK hP 0 (Nat.lt_of_lt_of_le (by decide) hNN) (xG_8 rfl) rfl hin8 3 (by decide) mw_483 rfl dX8_court_37 ?_
    refine x_vv (nn := 0) (As := []) (rest := []) hE hK hN hP hS (s_X7_clear_23 l D K ad mm N hNN v4 ar4 al4 hI  ) (x_recv hK hP 23 (Nat.lt_of_lt_of_le (by decide) hNN) (xG_7 rfl) rfl) rfl mw_681 mw_682 mw_683 mw_117 mw_684 (by decide +kernel) ⟨by decide, by decide⟩ hl.1 rfl (Nat.le_of_ble_eq_true rfl) ⟨Nat.zero_le _, Nat.zero_le _⟩ dX8_court_40 (fun v5 ar5 al5 H locs hq5 hP hS => ?_)
    obtain ⟨hI, hq5⟩ := hq5
    have hI : XI v5 := hI
    refine lv_aload_n hE.1 hE.2.1 dX8_court_43 rfl (lv_at hl 0 rfl) ?_
    refine x_get (x := .ref (ad 3)) hE hK hP 0 (Nat.lt_of_lt_of_le (by decide) hNN) (xG_8 rfl) rfl hin8 1 (by decide) mw_481 rfl dX8_court_44 ?_
    obtain ⟨z6, hz6, ez6⟩ := iI_of (v5 3 4)
    refine x_get (x := .int (v5 3 4)) hE hK hP 3 (Nat.lt_of_lt_of_le (by decide) hNN) (xG_1 rfl) rfl hin1 4 (by decide) mw_196 rfl dX8_court_47 ?_
    refine x_top (y := iI (z6)) ez6 ?_
    exact kr _ v5 ar5 al5 _ _ _ _ rfl ⟨⟨z6, by omega, rfl⟩, hI, fun i j h => ((hq5 i j (fun q => h (mem_sub (by decide) q))).trans ((hq4 i j (fun q => h (mem_sub (by decide) q))).trans ((up_oth hv3 (fun q => h (by rcases q with ⟨rfl, rfl⟩; decide))).trans (hq1 i j (fun q => h (mem_sub (by decide) q))))))⟩ hP hS dX8_court_50
  · skip
    refine lv_bipush (v := iI (-4)) hE.1 hE.2.1 dX8_court_14 (by decide) ?_
    exact kr _ v1 ar1 al1 _ _ _ _ rfl ⟨⟨-4, by omega, rfl⟩, hI, fun i j h => (hq1 i j (fun q => h (mem_sub (by decide) q)))⟩ hP hS dX8_court_16
