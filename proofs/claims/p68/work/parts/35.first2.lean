def FL : List (Nat × Nat) := [(67, 2), (69, 2), (71, 2), (73, 2), (75, 2), (94, 2), (113, 2)]
def FLs (v u : sI) : Prop := ∀ i j : Nat, (i, j) ∈ FL → u i j = v i j
theorem fl_out {L : List (Nat × Nat)} (hs : ∀ x ∈ FL, x ∉ L) {x : Nat × Nat} (h : x ∈ FL) : x ∉ L := hs x h
theorem fl_ne {p k : Nat} (hs : (p, k) ∉ FL) {i j : Nat} (h : (i, j) ∈ FL) : ¬ (i = p ∧ j = k) := fun q => hs (by rcases q with ⟨rfl, rfl⟩; exact h)
def bF2 (D : va_G) (K : Nat → ClassId) (ad : Nat → Nat) (H0 : Heap) (u : Option (Nat → Nat) × sT) (t : State) : Prop := match u.1 with
  | none => t.heap = H0
  | some a1 => (∀ i, i < 132 → a1 i = ad i) ∧ apart a1 133 ∧ (∀ i, i < 133 → aF ad H0.size (a1 i)) ∧ va_P D xcl (wW a1 (xG a1 K (some (a1 132))) 133 u.2.1 u.2.2.1 u.2.2.2) t.heap
def fPre2 (D : va_G) (K : Nat → ClassId) (ad : Nat → Nat) (H0 : Heap) (v ar : sI) (al : sL) (U : State) : Prop := U.heap = H0 ∧ wPre D K ad (xG ad K none) 132 v ar al U
theorem fPre2_blind {D : va_G} {K : Nat → ClassId} {ad : Nat → Nat} {H0 : Heap} {v ar : sI} {al : sL} {av : List Value} : FrameBlind (va_Pc av (fPre2 D K ad H0 v ar al)) := fun a U g mk q => ⟨q.1, q.2.1, (wPre_blind (av := av) a U g mk ⟨q.1, q.2.2⟩).2⟩
theorem s_metF2 {l : Launch} {y : MethodName} {b : ByteArray} {n : Nat} {ty : FieldType} {rm : Room} {av : List Value} {D : va_G} {K : Nat → ClassId} {ad : Nat → Nat} {v ar : sI} {al : sL} {H0 : Heap} {post : Int32 → Option (Nat → Nat) × sT → Prop} (hy : plainName y.cls = true) (hlen : (lg_sl av).length ≤ n)
    (body : ∀ (p : Program) (e : Env) (s : State) (m : MethodId) (below : List Frame) (meth : Method) (c : Code) (ls : Array Slot) (args : Array Value) (Q : State → Prop), CallFix p m c b n s args tbG y.cls → H0 = s.heap → wPre D K ad (xG ad K none) 132 v ar al s → lv_has ls n (lv_args 0 av) →
      (∀ (r : Int32) (pc : Nat) (ls : Array Slot), narrow ty (.int r) = .int r → post r (none, (v, ar, al)) → decode b pc = .ok (.ireturn, 1) → W p l e rm s m args below meth c s.heap [] 0 0 Q (F0 m pc ls [.int r])) →
      (∀ (r : Int32) (a1 : Nat → Nat) (v ar : sI) (al : sL) (H : Heap) (locs : List Loc) (pc : Nat) (ls : Array Slot), narrow ty (.int r) = .int r → post r (some a1, (v, ar, al)) → (∀ i, i < 132 → a1 i = ad i) → apart a1 133 → (∀ i, i < 133 → aF ad H0.size (a1 i)) → va_P D xcl (wW a1 (xG a1 K (some (a1 132))) 133 v ar al) H → va_S (aF ad H0.size) s.heap H locs → decode b pc = .ok (.ireturn, 1) → W p l e rm s m args below meth c H locs 1 36880 Q (F0 m pc ls [.int r])) →
      W p l e rm s m args below meth c s.heap [] 0 0 Q (F0 m 0 ls [])) : Met l y (wM y b n (some ty)) rm (va_Pc av (fPre2 D K ad H0 v ar al)) (va_Qi post (bF2 D K ad H0) (aF ad H0.size)) 1 36880 (aF ad H0.size) := by
  refine x_met hy hlen (fun p e s m below meth c ls hE hr hlo _ hB hl => body p e s m below meth c ls _ _ hE hB.1.symm hB.2 hl (fun r pc ls hn hp hd => ?_) (fun r a1 v ar al H locs pc ls hn hp had hN hA hP hS hd => ?_))
  · have hS : va_S (aF ad H0.size) s.heap s.heap [] := va_S.rf
    refine W.widen (k := 1) (n := 36880) (Nat.zero_le _) (Nat.zero_le _) ?_
    exact W.zret hE.1 hE.2.1 hr hn (fun t ht _ => ⟨⟨r, (none, (v, ar, al)), rfl, hp, by show t.heap = H0; rw [ht]; exact hB.1⟩, hS.F ht⟩) hS.2.2 hd hlo
  · exact W.zret hE.1 hE.2.1 hr hn (fun t ht _ => ⟨⟨r, (some a1, (v, ar, al)), rfl, hp, had, hN, hA, by rw [ht]; exact hP⟩, hS.F ht⟩) hS.2.2 hd hlo

set_option maxHeartbeats 4000000 in
set_option maxRecDepth 100000 in
theorem e_begin (l : Launch) (D : va_G) (K : Nat → ClassId) (ad : Nat → Nat) (v ar : sI) (al : sL) (hI : XI v) (sz : Nat) (z_1 : Int) (hz_1 : 0 ≤ z_1 ∧ z_1 ≤ 1) : Met l yX2_begin (wM yX2_begin cX2_begin 3 none) (rmC 2 1 36880) (va_Pc [.ref (ad 56), .ref (ad 23), .int (iI (z_1))] (fPre D K ad sz v ar al)) (va_Qv (fun u : Option (Nat → Nat) × sT => (∃ a1, u.1 = some a1) ∧ XI u.2.1 ∧ FLs v u.2.1) (bF D K ad sz) (aF ad sz)) 1 36880 (aF ad sz) := by
  refine x_met (by decide) (Nat.le_of_ble_eq_true rfl) ?_
  intro p e s m below meth c ls hE hr hlo hnm hB hl
  have hE : CallFix p m c cX2_begin 3 s _ tbG "TaleCourt$Game" := hE
  obtain ⟨hsz, hP, hK, hN⟩ := hB
  subst hsz
  have hA : ∀ i, i < 132 → aF ad s.heap.size (ad i) := fun i hi => Or.inl ⟨i, hi, rfl⟩
  have hA0 : ∀ q, s.heap.size ≤ q → aF ad s.heap.size q := fun q h => Or.inr h
  have hS : va_S (aF ad s.heap.size) s.heap s.heap [] := va_S.rf
  have hl : lv_has ls 3 [(0, .ref (ad 56)), (1, .ref (ad 23)), (2, .int (iI (z_1)))] := hl
  refine lv_aload_n hE.1 hE.2.1 dX2_begin_0 rfl (lv_at hl 0 rfl) ?_
  refine x_get (x := .ref (ad 57)) hE hK hP 56 (by decide) (xG_2 rfl) rfl hin2 1 (by decide) mw_421 rfl dX2_begin_1 ?_
  refine lv_aload_n hE.1 hE.2.1 dX2_begin_4 rfl (lv_at hl 1 rfl) ?_
  refine a_vv (nn := 1) (As := [.ref (ad 23)]) (rest := []) hE hK hN hP hS hA (s_X7_copyFrom_57_23 l D K ad none 132 (by decide) v ar al hI) (x_recv hK hP 57 (by decide) (xG_7 rfl) rfl) rfl mw_1035 mw_909 mw_910 mw_117 mw_911 (by decide +kernel) ⟨by decide, by decide⟩ hl.1 rfl (Nat.le_of_ble_eq_true rfl) ⟨Nat.zero_le _, Nat.zero_le _⟩ dX2_begin_5 (fun v1 ar1 al1 H locs hq hP hS => ?_)
  obtain ⟨hI, hqf⟩ := hq
  have hI : XI v1 := hI
  refine lv_aload_n hE.1 hE.2.1 dX2_begin_8 rfl (lv_at hl 0 rfl) ?_
  refine lv_iload_n hE.1 hE.2.1 dX2_begin_9 rfl (lv_at hl 2 rfl) ?_
  refine a_put (x := iI (z_1)) hE hK hN hP hS hA 56 (by decide) (xG_2 rfl) rfl hin2 tyX2 tyX2_ok nmX2 4 (by decide) mw_424 rfl (nar01 (by omega)) (fit01 (by omega)) (Nat.le_of_ble_eq_true rfl) (xG_2 rfl) dX2_begin_10 (fun v2 H locs hv2 hP hS => ?_)
  have hI := XI_putN hI hv2 (by decide)
  refine lv_aload_n hE.1 hE.2.1 dX2_begin_13 rfl (lv_at hl 0 rfl) ?_
  refine x_get (x := .null) hE hK hP 56 (by decide) (xG_2 rfl) rfl hin2 2 (by decide) mw_422 rfl dX2_begin_14 ?_
  refine lv_ifnonnullN hE.1 hE.2.1 dX2_begin_17 ?_
  refine lv_aload_n hE.1 hE.2.1 dX2_begin_20 rfl (lv_at hl 0 rfl) ?_
  refine lv_ldc (v := 36880) hE.1 hE.2.1 hE.2.2.2.1 (hE.2.2.2.2 _ mw_1036) dX2_begin_21 ?_
  refine x_newa (atype := .int) (ty := .int) (a0 := (36880, .inl (fun _ => 0))) (N' := 36880) (k := 1) (z := 36880) hE mw_288 rfl hK 0 rfl hP (pw_D hN hA) hS hA0 (fun _ => rfl) (by decide) (by decide) (Nat.le_of_ble_eq_true rfl) rfl rfl (Nat.le_of_ble_eq_true rfl) (Nat.le_of_ble_eq_true rfl) dX2_begin_23 (fun q H hP hD hS => ?_)
  have he : (wW ad (xG ad K none) 132 v2 ar1 al1 ++ ([(q, .inl (K 0, 36880, .inl (fun _ => 0)))] : va_W))[56]? = some (ad 56, .inr (2, [.ref (ad 3), .ref (ad 57), .null, .int (v2 56 3), .int (v2 56 4)])) := by
    rw [List.getElem?_append_left (by rw [wW_len]; decide)]
    exact wW_at (by decide) (xG_2 rfl)
  refine va_put (v := .ref q) hE.1 hE.2.1 hE.2.2.2.2 hin2 tyX2 tyX2_ok nmX2 hE.2.2.2.1 hK hP hD hS 56 he rfl 2 (by decide) (hE.2.2.2.2 _ mw_422) (fun _ h => h) rfl (tyX2_ok 2 (by decide)) rfl rfl (Nat.le_of_ble_eq_true rfl) dX2_begin_25 (fun H locs hP hD hS => ?_)
  obtain ⟨a1, ha1⟩ : ∃ a, a = va_up ad 132 q := ⟨_, rfl⟩
  have had : ∀ i, i < 132 → a1 i = ad i := fun i hi => by rw [ha1]; simp [va_up]; omega
  have ej := memo_join ad K v2 ar1 al1 q a1 ha1
  have hP : va_P D xcl (wW a1 (xG a1 K (some (a1 132))) 133 v2 (va_up ar1 132 (fun _ => 0)) al1) H := by rw [← ej]; exact hP
  have hD : va_D (aF ad s.heap.size) (wW a1 (xG a1 K (some (a1 132))) 133 v2 (va_up ar1 132 (fun _ => 0)) al1) := by rw [← ej]; exact hD
  obtain ⟨hN1, hA1⟩ := D_apart hD
  have hl : lv_has ls 3 [(0, .ref (a1 56)), (1, .ref (ad 23)), (2, .int (iI (z_1)))] := by rw [had 56 (by decide)]; exact hl
  obtain ⟨zs, hzs, ezs⟩ := iI_of (v2 56 3)
  obtain ⟨zt, hzt, ezt⟩ := iI_of (iI zs + iI 1)
  refine lv_aload_n hE.1 hE.2.1 dX2_begin_28 rfl (lv_at hl 0 rfl) ?_
  refine lv_dup hE.1 hE.2.1 dX2_begin_29 rfl ?_
  refine x_get (x := .int (v2 56 3)) hE hK hP 56 (by decide) (xG_2 rfl) rfl hin2 3 (by decide) mw_423 rfl dX2_begin_30 ?_
  refine x_top (y := iI zs) ezs ?_
  refine lv_iconst (v := iI (1)) hE.1 hE.2.1 dX2_begin_33 (by decide) ?_
  refine lv_iadd hE.1 hE.2.1 dX2_begin_34 ?_
  refine x_top ezt ?_
  refine a_put (x := iI (zt)) hE hK hN1 hP hS hA1 56 (by decide) (xG_2 rfl) rfl hin2 tyX2 tyX2_ok nmX2 3 (by decide) mw_423 rfl rfl rfl (Nat.le_of_ble_eq_true rfl) (xG_2 rfl) dX2_begin_35 (fun v3 H locs hv3 hP hS => ?_)
  have hI := XI_putN hI hv3 (by decide)
  exact W.vret hE.1 hE.2.1 hr (fun t ht _ => ⟨⟨(some a1, (v3, va_up ar1 132 (fun _ => 0), al1)), rfl, ⟨⟨a1, rfl⟩, hI, fun i j h => (up_oth hv3 (fl_ne (by decide) h)).trans ((up_oth hv2 (fl_ne (by decide) h)).trans (hqf i j (fl_out (by decide) h)))⟩, had, hN1, hA1, by rw [ht]; exact hP⟩, hS.F ht⟩) hS.2.2 dX2_begin_38 hlo
set_option maxHeartbeats 4000000 in
set_option maxRecDepth 100000 in
theorem e_X2_firstBlunder (l : Launch) (D : va_G) (K : Nat → ClassId) (ad : Nat → Nat) (v ar : sI) (al : sL) (hI : XI v) (sz : Nat) : Met l yX2_firstBlunder (wM yX2_firstBlunder cX2_firstBlunder 5 (some .int)) (rmC 25 1 36880) (va_Pc [.ref (ad 56), .ref (ad 23)] (fPre D K ad sz v ar al)) (va_Qi (fun (r : Int32) (u : Option (Nat → Nat) × sT) => (∃ z : Int, (-2147483648 ≤ z ∧ z ≤ 2147483647) ∧ r = iI z) ∧ (∃ a1, u.1 = some a1) ∧ XI u.2.1 ∧ FLs v u.2.1) (bF D K ad sz) (aF ad sz)) 1 36880 (aF ad sz) := by
  refine s_metF (by decide) (Nat.le_of_ble_eq_true rfl) ?_
  intro p e s m below meth c ls args Q hE hsz hB hl kr0 kr1
  subst hsz
  have hE : CallFix p m c cX2_firstBlunder 5 s args tbG "TaleCourt$Game" := hE
  obtain ⟨hP, hK, hN⟩ := hB
  obtain ⟨AF, hAF⟩ : ∃ A, A = aF ad s.heap.size := ⟨_, rfl⟩
  rw [← hAF] at kr1
  have hA : ∀ i, i < 132 → AF (ad i) := fun i hi => by rw [hAF]; exact Or.inl ⟨i, hi, rfl⟩
  have hA0 : ∀ q, s.heap.size ≤ q → AF q := fun q h => by rw [hAF]; exact Or.inr h
  have hS : va_S AF s.heap s.heap [] := va_S.rf
  have hl : lv_has ls 5 [(0, .ref (ad 56)), (1, .ref (ad 23))] := hl
  refine lv_aload_n hE.1 hE.2.1 dX2_firstBlunder_0 rfl (lv_at hl 0 rfl) ?_
  refine lv_aload_n hE.1 hE.2.1 dX2_firstBlunder_1 rfl (lv_at hl 1 rfl) ?_
  refine lv_iconst (v := iI (1)) hE.1 hE.2.1 dX2_firstBlunder_2 (by decide) ?_
  have hsub := aF_sub hS hA0 hA
  refine a_vvF (nn := 2) (As := [.ref (ad 23), .int (iI (1))]) (rest := []) hE hK hN hP hS hA0 hA (e_begin l D K ad v ar al hI _ (1) (by omega)) (x_recv hK hP 56 (by decide) (xG_2 rfl) rfl) rfl mw_1116 mw_1032 mw_1033 mw_120 mw_1034 (by decide +kernel) ⟨by decide, by decide⟩ hl.1 rfl (Nat.le_of_ble_eq_true rfl) ⟨Nat.le_of_ble_eq_true rfl, Nat.le_of_ble_eq_true rfl⟩ dX2_firstBlunder_3 (fun u1 t1 H locs ht1 hp1 hb1 hS => ?_)
  obtain ⟨o1, v1, ar1, al1⟩ := u1
  obtain ⟨⟨ad1, ho1⟩, hI, hfb1⟩ := hp1
  have ho1 : o1 = some ad1 := ho1
  subst ho1
  have hI : XI v1 := hI
  obtain ⟨had, hN, hA1, hP⟩ := hb1
  have hP : va_P D xcl (wW ad1 (xG ad1 K (some (ad1 132))) 133 v1 ar1 al1) H := by rw [← ht1]; exact hP
  rw [← had 23 (by decide)] at hl
  rw [← had 56 (by decide)] at hl
  replace hA : ∀ i, i < 133 → AF (ad1 i) := fun i hi => hsub _ (hA1 i hi)
  refine lv_aload_n hE.1 hE.2.1 dX2_firstBlunder_6 rfl (lv_at hl 0 rfl) ?_
  refine x_get (x := .ref (ad1 57)) hE hK hP 56 (by decide) (xG_2 rfl) rfl hin2 1 (by decide) mw_421 rfl dX2_firstBlunder_7 ?_
  refine a_vv (nn := 0) (As := []) (rest := []) hE hK hN hP hS hA (s_X7_clear_57 l D K ad1 (some (ad1 132)) 133 (by decide) v1 ar1 al1 hI  ) (x_recv hK hP 57 (by decide) (xG_7 rfl) rfl) rfl mw_1117 mw_682 mw_683 mw_117 mw_684 (by decide +kernel) ⟨by decide, by decide⟩ hl.1 rfl (Nat.le_of_ble_eq_true rfl) ⟨Nat.le_of_ble_eq_true rfl, Nat.le_of_ble_eq_true rfl⟩ dX2_firstBlunder_10 (fun v2 ar2 al2 H locs hq2 hP hS => ?_)
  obtain ⟨hI, hq2⟩ := hq2
  have hI : XI v2 := hI
  refine lv_aload_n hE.1 hE.2.1 dX2_firstBlunder_13 rfl (lv_at hl 0 rfl) ?_
  refine a_vi (nn := 0) (As := []) (rest := []) hE hK hN hP hS hA (s_X2_isWon_56 l D K ad1  v2 ar2 al2 hI  ) (x_recv hK hP 56 (by decide) (xG_2 rfl) rfl) rfl mw_1072 mw_1038 mw_1039 mw_120 mw_1040 (by decide +kernel) ⟨by decide, by decide⟩ hl.1 rfl (Nat.le_of_ble_eq_true rfl) ⟨Nat.le_of_ble_eq_true rfl, Nat.le_of_ble_eq_true rfl⟩ dX2_firstBlunder_14 (fun r3 v3 ar3 al3 H locs hq3 hP hS => ?_)
  obtain ⟨⟨z3, hz3, rfl⟩, hI, hq3⟩ := hq3
  have hI : XI v3 := hI
  refine lv_istore_n (lv' := [(2, .int (iI (z3))), (0, .ref (ad1 56)), (1, .ref (ad1 23))]) hE.1 hE.2.1 dX2_firstBlunder_17 rfl hl (by decide) rfl (fun ls hl => ?_)
  refine lv_iconst (v := iI (0)) hE.1 hE.2.1 dX2_firstBlunder_18 (by decide) ?_
  refine lv_istore_n (lv' := [(3, .int (iI (0))), (2, .int (iI (z3))), (0, .ref (ad1 56)), (1, .ref (ad1 23))]) hE.1 hE.2.1 dX2_firstBlunder_19 rfl hl (by decide) rfl (fun ls hl => ?_)
  have loop4 : ∀ (k4 : Nat) (y4_3 : Int) (y4_2 : Int) (vl4 arl4 : sI) (all4 : sL) (H : Heap) (locs : List Loc) (ls : Array Slot), (18 - y4_3).toNat = k4 → (0 ≤ y4_3 ∧ y4_3 ≤ 18) → (-2147483648 ≤ y4_2 ∧ y4_2 ≤ 2147483647) → XI vl4 → (∀ i j : Nat, (i, j) ∉ ([(57, 2), (57, 3), (57, 4), (57, 5), (57, 8), (57, 9)] : List (Nat × Nat)) → vl4 i j = v3 i j) → va_P D xcl (wW ad1 (xG ad1 K (some (ad1 132))) 133 vl4 arl4 all4) H → va_S AF s.heap H locs → lv_has ls 5 [(3, .int (iI (y4_3))), (2, .int (iI (y4_2))), (0, .ref (ad1 56)), (1, .ref (ad1 23))] → W p l e (rmC 25 1 36880) s m args below meth c H locs 1 36880 Q (F0 m 20 ls []) := by
    intro k4
    induction k4 using Nat.strongRecOn with
    | _ k4 ih4 =>
      intro y4_3 y4_2 vl4 arl4 all4 H locs ls hk4 hb_y4_3 hb_y4_2 hI hfr4 hP hS hl
      refine lv_iload_n hE.1 hE.2.1 dX2_firstBlunder_20 rfl (lv_at hl 0 rfl) ?_
      refine lv_aload_n hE.1 hE.2.1 dX2_firstBlunder_21 rfl (lv_at hl 3 rfl) ?_
      obtain ⟨z5, hz5, ez5⟩ := XI_get hI 23 2 0 18 (by decide)
      refine x_get (x := .int (vl4 23 2)) hE hK hP 23 (by decide) (xG_7 rfl) rfl hin7 2 (by decide) mw_303 rfl dX2_firstBlunder_22 ?_
      refine x_top (y := iI (z5)) ez5 ?_
      refine s_icmp_ge (a := y4_3) (b := z5) (tgt := 70) hE.1 hE.2.1 (by omega) (by omega) dX2_firstBlunder_25 (by decide) (fun c6 => ?_) (fun c6 => ?_)
      · skip
        refine lv_iconst (v := iI (-1)) hE.1 hE.2.1 dX2_firstBlunder_70 (by decide) ?_
        exact kr1 _ ad1 vl4 arl4 all4 _ _ _ _ rfl ⟨⟨-1, by omega, rfl⟩, ⟨ad1, rfl⟩, hI, fun i j h => ((hfr4 i j (fl_out (by decide) h)).trans ((hq3 i j (fl_out (by decide) h)).trans ((hq2 i j (fl_out (by decide) h)).trans (hfb1 i j h))))⟩ had hN (fun i hi => hA i hi) hP hS dX2_firstBlunder_71
      · skip
        refine lv_iload_n hE.1 hE.2.1 dX2_firstBlunder_28 rfl (lv_at hl 0 rfl) ?_
        refine lv_bipush (v := iI (18)) hE.1 hE.2.1 dX2_firstBlunder_29 (by decide) ?_
        refine s_icmp_ge (a := y4_3) (b := 18) (tgt := 70) hE.1 hE.2.1 (by omega) (by omega) dX2_firstBlunder_31 (by decide) (fun c7 => False.elim (by omega)) (fun _ => ?_)
        refine lv_aload_n hE.1 hE.2.1 dX2_firstBlunder_34 rfl (lv_at hl 2 rfl) ?_
        refine lv_aload_n hE.1 hE.2.1 dX2_firstBlunder_35 rfl (lv_at hl 3 rfl) ?_
        refine x_get (x := .ref (ad1 24)) hE hK hP 23 (by decide) (xG_7 rfl) rfl hin7 0 (by decide) mw_297 rfl dX2_firstBlunder_36 ?_
        refine lv_iload_n hE.1 hE.2.1 dX2_firstBlunder_39 rfl (lv_at hl 0 rfl) ?_
        refine x_iald (j := iI (y4_3)) hE hK hP 24 (by decide) (xG_10 rfl) (iI_in (n := 18) (by omega)) dX2_firstBlunder_40 ?_
        obtain ⟨z9, hz9, ez9⟩ := iI_of (arl4 24 (iI (y4_3)).toNatClampNeg)
        refine x_top ez9 ?_
        refine a_vv (nn := 1) (As := [.int (iI (z9))]) (rest := []) hE hK hN hP hS hA (s_X2_play_56 l D K ad1 (some (ad1 132)) 133 (by decide) vl4 arl4 all4 hI  (z9) (by omega)) (x_recv hK hP 56 (by decide) (xG_2 rfl) rfl) rfl mw_1056 mw_1058 mw_34 mw_120 mw_1059 (by decide +kernel) ⟨by decide, by decide⟩ hl.1 rfl (Nat.le_of_ble_eq_true rfl) ⟨Nat.le_of_ble_eq_true rfl, Nat.le_of_ble_eq_true rfl⟩ dX2_firstBlunder_41 (fun v10 ar10 al10 H locs hq10 hP hS => ?_)
        obtain ⟨hI, hq10⟩ := hq10
        have hI : XI v10 := hI
        refine lv_aload_n hE.1 hE.2.1 dX2_firstBlunder_44 rfl (lv_at hl 2 rfl) ?_
        refine a_vi (nn := 0) (As := []) (rest := []) hE hK hN hP hS hA (s_X2_isWon_56 l D K ad1  v10 ar10 al10 hI  ) (x_recv hK hP 56 (by decide) (xG_2 rfl) rfl) rfl mw_1072 mw_1038 mw_1039 mw_120 mw_1040 (by decide +kernel) ⟨by decide, by decide⟩ hl.1 rfl (Nat.le_of_ble_eq_true rfl) ⟨Nat.le_of_ble_eq_true rfl, Nat.le_of_ble_eq_true rfl⟩ dX2_firstBlunder_45 (fun r11 v11 ar11 al11 H locs hq11 hP hS => ?_)
        obtain ⟨⟨z11, hz11, rfl⟩, hI, hq11⟩ := hq11
        have hI : XI v11 := hI
        refine lv_istore (lv' := [(4, .int (iI (z11))), (3, .int (iI (y4_3))), (2, .int (iI (y4_2))), (0, .ref (ad1 56)), (1, .ref (ad1 23))]) hE.1 hE.2.1 dX2_firstBlunder_48 hl (by decide) rfl (fun ls hl => ?_)
        refine lv_iload_n hE.1 hE.2.1 dX2_firstBlunder_50 rfl (lv_at hl 2 rfl) ?_
        refine s_if_eq (a := y4_2) (tgt := 61) hE.1 hE.2.1 (by omega) dX2_firstBlunder_51 (by decide) (fun c12 => ?_) (fun c12 => ?_)
        · skip
          refine lv_iload hE.1 hE.2.1 dX2_firstBlunder_61 (lv_at hl 0 rfl) ?_
          refine lv_istore_n (lv' := [(2, .int (iI (z11))), (4, .int (iI (z11))), (3, .int (iI (y4_3))), (0, .ref (ad1 56)), (1, .ref (ad1 23))]) hE.1 hE.2.1 dX2_firstBlunder_63 rfl hl (by decide) rfl (fun ls hl => ?_)
          refine lv_iinc (v := iI (y4_3 + 1)) (lv' := [(3, .int (iI (y4_3 + 1))), (2, .int (iI (z11))), (4, .int (iI (z11))), (0, .ref (ad1 56)), (1, .ref (ad1 23))]) hE.1 hE.2.1 dX2_firstBlunder_64 hl (k := 2) rfl ((iI_add (y4_3) (1)).trans (congrArg iI (by omega))) (by decide) rfl (fun ls hl => ?_)
          refine lv_goto (tgt := 20) hE.1 hE.2.1 dX2_firstBlunder_67 (by decide) ?_
          exact ih4 _ (by omega) (y4_3 + 1) (z11) v11 ar11 al11 _ _ _ rfl (by omega) (by omega) hI (fun i j h => (((hq11 i j (fun q => h (mem_sub (by decide) q))).trans (hq10 i j (fun q => h (mem_sub (by decide) q)))).trans (hfr4 i j h))) hP hS (lv_sub hl [0, 1, 3, 4] rfl)
        · skip
          refine lv_iload hE.1 hE.2.1 dX2_firstBlunder_54 (lv_at hl 0 rfl) ?_
          refine s_if_eq (a := z11) (tgt := 61) hE.1 hE.2.1 (by omega) dX2_firstBlunder_56 (by decide) (fun c13 => ?_) (fun c13 => ?_)
          · skip
            refine lv_iload hE.1 hE.2.1 dX2_firstBlunder_61 (lv_at hl 0 rfl) ?_
            refine lv_istore_n (lv' := [(2, .int (iI (z11))), (4, .int (iI (z11))), (3, .int (iI (y4_3))), (0, .ref (ad1 56)), (1, .ref (ad1 23))]) hE.1 hE.2.1 dX2_firstBlunder_63 rfl hl (by decide) rfl (fun ls hl => ?_)
            refine lv_iinc (v := iI (y4_3 + 1)) (lv' := [(3, .int (iI (y4_3 + 1))), (2, .int (iI (z11))), (4, .int (iI (z11))), (0, .ref (ad1 56)), (1, .ref (ad1 23))]) hE.1 hE.2.1 dX2_firstBlunder_64 hl (k := 2) rfl ((iI_add (y4_3) (1)).trans (congrArg iI (by omega))) (by decide) rfl (fun ls hl => ?_)
            refine lv_goto (tgt := 20) hE.1 hE.2.1 dX2_firstBlunder_67 (by decide) ?_
            exact ih4 _ (by omega) (y4_3 + 1) (z11) v11 ar11 al11 _ _ _ rfl (by omega) (by omega) hI (fun i j h => (((hq11 i j (fun q => h (mem_sub (by decide) q))).trans (hq10 i j (fun q => h (mem_sub (by decide) q)))).trans (hfr4 i j h))) hP hS (lv_sub hl [0, 1, 3, 4] rfl)
          · skip
            refine lv_iload_n hE.1 hE.2.1 dX2_firstBlunder_59 rfl (lv_at hl 1 rfl) ?_
            exact kr1 _ ad1 v11 ar11 al11 _ _ _ _ rfl ⟨⟨y4_3, by omega, rfl⟩, ⟨ad1, rfl⟩, hI, fun i j h => ((hq11 i j (fl_out (by decide) h)).trans ((hq10 i j (fl_out (by decide) h)).trans ((hfr4 i j (fl_out (by decide) h)).trans ((hq3 i j (fl_out (by decide) h)).trans ((hq2 i j (fl_out (by decide) h)).trans (hfb1 i j h))))))⟩ had hN (fun i hi => hA i hi) hP hS dX2_firstBlunder_60
  exact loop4 _ (0) (z3) v3 ar3 al3 _ _ _ rfl (by omega) (by omega) hI (fun _ _ _ => rfl) hP hS hl

set_option maxHeartbeats 4000000 in
set_option maxRecDepth 100000 in
theorem h_X8_wins (l : Launch) (D : va_G) (K : Nat → ClassId) (ad : Nat → Nat) (v ar : sI) (al : sL) (hI : XI v) (H0 : Heap) : Met l yX8_wins (wM yX8_wins cX8_wins 2 (some .int)) (rmC 25 1 36880) (va_Pc [.ref (ad 0)] (fPre2 D K ad H0 v ar al)) (va_Qi (fun (r : Int32) (u : Option (Nat → Nat) × sT) => (∃ z : Int, (-2147483648 ≤ z ∧ z ≤ 2147483647) ∧ r = iI z) ∧ XI u.2.1 ∧ FLs v u.2.1) (bF2 D K ad H0) (aF ad H0.size)) 1 36880 (aF ad H0.size) := by
  refine s_metF2 (by decide) (Nat.le_of_ble_eq_true rfl) ?_
  intro p e s m below meth c ls args Q hE hsz hB hl kr0 kr1
  subst hsz
  have hE : CallFix p m c cX8_wins 2 s args tbG "TaleCourt" := hE
  obtain ⟨hP, hK, hN⟩ := hB
  obtain ⟨AF, hAF⟩ : ∃ A, A = aF ad s.heap.size := ⟨_, rfl⟩
  rw [← hAF] at kr1
  have hA : ∀ i, i < 132 → AF (ad i) := fun i hi => by rw [hAF]; exact Or.inl ⟨i, hi, rfl⟩
  have hA0 : ∀ q, s.heap.size ≤ q → AF q := fun q h => by rw [hAF]; exact Or.inr h
  have hS : va_S AF s.heap s.heap [] := va_S.rf
  have hl : lv_has ls 2 [(0, .ref (ad 0))] := hl
  refine lv_aload_n hE.1 hE.2.1 dX8_wins_0 rfl (lv_at hl 0 rfl) ?_
  refine x_vp (nn := 0) (As := []) (rest := []) hE (s_X8_gameBar_0 l D K ad none 132 (by decide) v ar al hI  ) wPre_blind (wPre_now hK hN hP) (x_recv hK hP 0 (by decide) (xG_8 rfl) rfl) rfl mw_1027 mw_1029 mw_30 mw_114 mw_1030 (by decide +kernel) ⟨by decide, by decide⟩ hl.1 rfl (Nat.le_of_ble_eq_true rfl) ⟨Nat.le_of_ble_eq_true rfl, Nat.le_of_ble_eq_true rfl⟩ dX8_wins_1 (fun r1 hr1 => ?_)
  obtain ⟨z1, hz1, rfl⟩ := hr1
  refine lv_istore_n (lv' := [(1, .int (iI (z1))), (0, .ref (ad 0))]) hE.1 hE.2.1 dX8_wins_4 rfl hl (by decide) rfl (fun ls hl => ?_)
  refine lv_iload_n hE.1 hE.2.1 dX8_wins_5 rfl (lv_at hl 0 rfl) ?_
  refine s_if_eq (a := z1) (tgt := 11) hE.1 hE.2.1 (by omega) dX8_wins_6 (by decide) (fun c2 => ?_) (fun c2 => ?_)
  · skip
    refine lv_aload_n hE.1 hE.2.1 dX8_wins_11 rfl (lv_at hl 1 rfl) ?_
    refine x_get (x := .ref (ad 56)) hE hK hP 0 (by decide) (xG_8 rfl) rfl hin8 7 (by decide) mw_487 rfl dX8_wins_12 ?_
    refine lv_aload_n hE.1 hE.2.1 dX8_wins_15 rfl (lv_at hl 1 rfl) ?_
    refine x_get (x := .ref (ad 23)) hE hK hP 0 (by decide) (xG_8 rfl) rfl hin8 3 (by decide) mw_483 rfl dX8_wins_16 ?_
    refine lv_iconst (v := iI (1)) hE.1 hE.2.1 dX8_wins_19 (by decide) ?_
    have hsub := aF_sub hS hA0 hA
    refine a_vvF (nn := 2) (As := [.ref (ad 23), .int (iI (1))]) (rest := []) hE hK hN hP hS hA0 hA (e_begin l D K ad v ar al hI _ (1) (by omega)) (x_recv hK hP 56 (by decide) (xG_2 rfl) rfl) rfl mw_1031 mw_1032 mw_1033 mw_120 mw_1034 (by decide +kernel) ⟨by decide, by decide⟩ hl.1 rfl (Nat.le_of_ble_eq_true rfl) ⟨Nat.le_of_ble_eq_true rfl, Nat.le_of_ble_eq_true rfl⟩ dX8_wins_20 (fun u3 t3 H locs ht3 hp3 hb3 hS => ?_)
    obtain ⟨o3, v3, ar3, al3⟩ := u3
    obtain ⟨⟨ad1, ho3⟩, hI, hfb3⟩ := hp3
    have ho3 : o3 = some ad1 := ho3
    subst ho3
    have hI : XI v3 := hI
    obtain ⟨had, hN, hA1, hP⟩ := hb3
    have hP : va_P D xcl (wW ad1 (xG ad1 K (some (ad1 132))) 133 v3 ar3 al3) H := by rw [← ht3]; exact hP
    rw [← had 0 (by decide)] at hl
    replace hA : ∀ i, i < 133 → AF (ad1 i) := fun i hi => hsub _ (hA1 i hi)
    refine lv_aload_n hE.1 hE.2.1 dX8_wins_23 rfl (lv_at hl 1 rfl) ?_
    refine x_get (x := .ref (ad1 56)) hE hK hP 0 (by decide) (xG_8 rfl) rfl hin8 7 (by decide) mw_487 rfl dX8_wins_24 ?_
    refine a_vi (nn := 0) (As := []) (rest := []) hE hK hN hP hS hA (s_X2_isWon_56 l D K ad1  v3 ar3 al3 hI  ) (x_recv hK hP 56 (by decide) (xG_2 rfl) rfl) rfl mw_1037 mw_1038 mw_1039 mw_120 mw_1040 (by decide +kernel) ⟨by decide, by decide⟩ hl.1 rfl (Nat.le_of_ble_eq_true rfl) ⟨Nat.le_of_ble_eq_true rfl, Nat.le_of_ble_eq_true rfl⟩ dX8_wins_27 (fun r4 v4 ar4 al4 H locs hq4 hP hS => ?_)
    obtain ⟨⟨z4, hz4, rfl⟩, hI, hq4⟩ := hq4
    have hI : XI v4 := hI
    refine s_if_eq (a := z4) (tgt := 37) hE.1 hE.2.1 (by omega) dX8_wins_30 (by decide) (fun c5 => ?_) (fun c5 => ?_)
    · skip
      refine lv_iconst (v := iI (0)) hE.1 hE.2.1 dX8_wins_37 (by decide) ?_
      exact kr1 _ ad1 v4 ar4 al4 _ _ _ _ rfl ⟨⟨0, by omega, rfl⟩, hI, fun i j h => ((hq4 i j (fl_out (by decide) h)).trans (hfb3 i j h))⟩ had hN (fun i hi => hA i hi) hP hS dX8_wins_38
    · skip
      refine lv_iconst (v := iI (1)) hE.1 hE.2.1 dX8_wins_33 (by decide) ?_
      refine lv_goto (tgt := 38) hE.1 hE.2.1 dX8_wins_34 (by decide) ?_
      exact kr1 _ ad1 v4 ar4 al4 _ _ _ _ rfl ⟨⟨1, by omega, rfl⟩, hI, fun i j h => ((hq4 i j (fl_out (by decide) h)).trans (hfb3 i j h))⟩ had hN (fun i hi => hA i hi) hP hS dX8_wins_38
  · skip
    refine lv_iload_n hE.1 hE.2.1 dX8_wins_9 rfl (lv_at hl 0 rfl) ?_
    exact kr0 _ _ _ rfl ⟨⟨z1, by omega, rfl⟩, hI, fun _ _ _ => rfl⟩ dX8_wins_10

set_option maxHeartbeats 4000000 in
set_option maxRecDepth 100000 in
theorem h_X8_move (l : Launch) (D : va_G) (K : Nat → ClassId) (ad : Nat → Nat) (v ar : sI) (al : sL) (hI : XI v) (H0 : Heap) : Met l yX8_move (wM yX8_move cX8_move 4 (some .int)) (rmC 26 1 36880) (va_Pc [.ref (ad 0)] (fPre2 D K ad H0 v ar al)) (va_Qi (fun (r : Int32) (u : Option (Nat → Nat) × sT) => (∃ z : Int, (-2147483648 ≤ z ∧ z ≤ 2147483647) ∧ r = iI z) ∧ XI u.2.1 ∧ FLs v u.2.1) (bF2 D K ad H0) (aF ad H0.size)) 1 36880 (aF ad H0.size) := by
  refine s_metF2 (by decide) (Nat.le_of_ble_eq_true rfl) ?_
  intro p e s m below meth c ls args Q hE hsz hB hl kr0 kr1
  subst hsz
  have hE : CallFix p m c cX8_move 4 s args tbG "TaleCourt" := hE
  obtain ⟨hP, hK, hN⟩ := hB
  obtain ⟨AF, hAF⟩ : ∃ A, A = aF ad s.heap.size := ⟨_, rfl⟩
  rw [← hAF] at kr1
  have hA : ∀ i, i < 132 → AF (ad i) := fun i hi => by rw [hAF]; exact Or.inl ⟨i, hi, rfl⟩
  have hA0 : ∀ q, s.heap.size ≤ q → AF q := fun q h => by rw [hAF]; exact Or.inr h
  have hS : va_S AF s.heap s.heap [] := va_S.rf
  have hl : lv_has ls 4 [(0, .ref (ad 0))] := hl
  refine lv_aload_n hE.1 hE.2.1 dX8_move_0 rfl (lv_at hl 0 rfl) ?_
  refine x_vp (nn := 0) (As := []) (rest := []) hE (s_X8_gameBar_0 l D K ad none 132 (by decide) v ar al hI  ) wPre_blind (wPre_now hK hN hP) (x_recv hK hP 0 (by decide) (xG_8 rfl) rfl) rfl mw_1027 mw_1029 mw_30 mw_114 mw_1030 (by decide +kernel) ⟨by decide, by decide⟩ hl.1 rfl (Nat.le_of_ble_eq_true rfl) ⟨Nat.le_of_ble_eq_true rfl, Nat.le_of_ble_eq_true rfl⟩ dX8_move_1 (fun r1 hr1 => ?_)
  obtain ⟨z1, hz1, rfl⟩ := hr1
  refine lv_istore_n (lv' := [(1, .int (iI (z1))), (0, .ref (ad 0))]) hE.1 hE.2.1 dX8_move_4 rfl hl (by decide) rfl (fun ls hl => ?_)
  refine lv_iload_n hE.1 hE.2.1 dX8_move_5 rfl (lv_at hl 0 rfl) ?_
  refine s_if_eq (a := z1) (tgt := 11) hE.1 hE.2.1 (by omega) dX8_move_6 (by decide) (fun c2 => ?_) (fun c2 => ?_)
  · skip
    refine lv_aload_n hE.1 hE.2.1 dX8_move_11 rfl (lv_at hl 1 rfl) ?_
    refine x_get (x := .ref (ad 56)) hE hK hP 0 (by decide) (xG_8 rfl) rfl hin8 7 (by decide) mw_487 rfl dX8_move_12 ?_
    refine lv_aload_n hE.1 hE.2.1 dX8_move_15 rfl (lv_at hl 1 rfl) ?_
    refine x_get (x := .ref (ad 23)) hE hK hP 0 (by decide) (xG_8 rfl) rfl hin8 3 (by decide) mw_483 rfl dX8_move_16 ?_
    refine lv_iconst (v := iI (1)) hE.1 hE.2.1 dX8_move_19 (by decide) ?_
    have hsub := aF_sub hS hA0 hA
    refine a_vvF (nn := 2) (As := [.ref (ad 23), .int (iI (1))]) (rest := []) hE hK hN hP hS hA0 hA (e_begin l D K ad v ar al hI _ (1) (by omega)) (x_recv hK hP 56 (by decide) (xG_2 rfl) rfl) rfl mw_1031 mw_1032 mw_1033 mw_120 mw_1034 (by decide +kernel) ⟨by decide, by decide⟩ hl.1 rfl (Nat.le_of_ble_eq_true rfl) ⟨Nat.le_of_ble_eq_true rfl, Nat.le_of_ble_eq_true rfl⟩ dX8_move_20 (fun u3 t3 H locs ht3 hp3 hb3 hS => ?_)
    obtain ⟨o3, v3, ar3, al3⟩ := u3
    obtain ⟨⟨ad1, ho3⟩, hI, hfb3⟩ := hp3
    have ho3 : o3 = some ad1 := ho3
    subst ho3
    have hI : XI v3 := hI
    obtain ⟨had, hN, hA1, hP⟩ := hb3
    have hP : va_P D xcl (wW ad1 (xG ad1 K (some (ad1 132))) 133 v3 ar3 al3) H := by rw [← ht3]; exact hP
    rw [← had 0 (by decide)] at hl
    replace hA : ∀ i, i < 133 → AF (ad1 i) := fun i hi => hsub _ (hA1 i hi)
    refine lv_aload_n hE.1 hE.2.1 dX8_move_23 rfl (lv_at hl 1 rfl) ?_
    refine x_get (x := .ref (ad1 56)) hE hK hP 0 (by decide) (xG_8 rfl) rfl hin8 7 (by decide) mw_487 rfl dX8_move_24 ?_
    refine a_vi (nn := 0) (As := []) (rest := []) hE hK hN hP hS hA (s_X2_winningMoves_56 l D K ad1  v3 ar3 al3 hI  ) (x_recv hK hP 56 (by decide) (xG_2 rfl) rfl) rfl mw_1068 mw_1069 mw_1070 mw_120 mw_1071 (by decide +kernel) ⟨by decide, by decide⟩ hl.1 rfl (Nat.le_of_ble_eq_true rfl) ⟨Nat.le_of_ble_eq_true rfl, Nat.le_of_ble_eq_true rfl⟩ dX8_move_27 (fun r4 v4 ar4 al4 H locs hq4 hP hS => ?_)
    obtain ⟨⟨z4, hz4, rfl⟩, hI, hq4⟩ := hq4
    have hI : XI v4 := hI
    refine lv_istore_n (lv' := [(2, .int (iI (z4))), (1, .int (iI (z1))), (0, .ref (ad1 0))]) hE.1 hE.2.1 dX8_move_30 rfl hl (by decide) rfl (fun ls hl => ?_)
    refine lv_iconst (v := iI (0)) hE.1 hE.2.1 dX8_move_31 (by decide) ?_
    refine lv_istore_n (lv' := [(3, .int (iI (0))), (2, .int (iI (z4))), (1, .int (iI (z1))), (0, .ref (ad1 0))]) hE.1 hE.2.1 dX8_move_32 rfl hl (by decide) rfl (fun ls hl => ?_)
    have loop5 : ∀ (k5 : Nat) (y5_3 : Int) (vl5 arl5 : sI) (all5 : sL) (H : Heap) (locs : List Loc) (ls : Array Slot), (10 - y5_3).toNat = k5 → (0 ≤ y5_3 ∧ y5_3 ≤ 10) → XI vl5 → (∀ i j : Nat, (i, j) ∉ ([] : List (Nat × Nat)) → vl5 i j = v4 i j) → va_P D xcl (wW ad1 (xG ad1 K (some (ad1 132))) 133 vl5 arl5 all5) H → va_S AF s.heap H locs → lv_has ls 4 [(3, .int (iI (y5_3))), (2, .int (iI (z4))), (1, .int (iI (z1))), (0, .ref (ad1 0))] → W p l e (rmC 26 1 36880) s m args below meth c H locs 1 36880 Q (F0 m 33 ls []) := by
      intro k5
      induction k5 using Nat.strongRecOn with
      | _ k5 ih5 =>
        intro y5_3 vl5 arl5 all5 H locs ls hk5 hb_y5_3 hI hfr5 hP hS hl
        refine lv_iload_n hE.1 hE.2.1 dX8_move_33 rfl (lv_at hl 0 rfl) ?_
        refine lv_bipush (v := iI (9)) hE.1 hE.2.1 dX8_move_34 (by decide) ?_
        refine s_icmp_gt (a := y5_3) (b := 9) (tgt := 55) hE.1 hE.2.1 (by omega) (by omega) dX8_move_36 (by decide) (fun c6 => ?_) (fun c6 => ?_)
        · skip
          refine lv_iconst (v := iI (-1)) hE.1 hE.2.1 dX8_move_55 (by decide) ?_
          exact kr1 _ ad1 vl5 arl5 all5 _ _ _ _ rfl ⟨⟨-1, by omega, rfl⟩, hI, fun i j h => ((hfr5 i j (fl_out (by decide) h)).trans ((hq4 i j (fl_out (by decide) h)).trans (hfb3 i j h)))⟩ had hN (fun i hi => hA i hi) hP hS dX8_move_56
        · skip
          refine lv_iload_n hE.1 hE.2.1 dX8_move_39 rfl (lv_at hl 1 rfl) ?_
          refine lv_iload_n hE.1 hE.2.1 dX8_move_40 rfl (lv_at hl 0 rfl) ?_
          refine lv_ishr hE.1 hE.2.1 dX8_move_41 ?_
          obtain ⟨z7, hz7, ez7⟩ := iI_of (iI (z4) >>> (iI (y5_3) &&& 31))
          refine x_top ez7 ?_
          refine lv_iconst (v := iI (1)) hE.1 hE.2.1 dX8_move_42 (by decide) ?_
          refine lv_iand hE.1 hE.2.1 dX8_move_43 ?_
          obtain ⟨z8, hz8, ez8⟩ := iI_and (iI (z7)) (iI (1)) 1 (by decide)
          refine x_top ez8 ?_
          refine s_if_eq (a := z8) (tgt := 49) hE.1 hE.2.1 (by omega) dX8_move_44 (by decide) (fun c9 => ?_) (fun c9 => ?_)
          · skip
            refine lv_iinc (v := iI (y5_3 + 1)) (lv' := [(3, .int (iI (y5_3 + 1))), (2, .int (iI (z4))), (1, .int (iI (z1))), (0, .ref (ad1 0))]) hE.1 hE.2.1 dX8_move_49 hl (k := 0) rfl ((iI_add (y5_3) (1)).trans (congrArg iI (by omega))) (by decide) rfl (fun ls hl => ?_)
            refine lv_goto (tgt := 33) hE.1 hE.2.1 dX8_move_52 (by decide) ?_
            exact ih5 _ (by omega) (y5_3 + 1) vl5 arl5 all5 _ _ _ rfl (by omega) hI (fun i j h => (hfr5 i j h)) hP hS (lv_sub hl [0, 1, 2, 3] rfl)
          · skip
            refine lv_iload_n hE.1 hE.2.1 dX8_move_47 rfl (lv_at hl 0 rfl) ?_
            exact kr1 _ ad1 vl5 arl5 all5 _ _ _ _ rfl ⟨⟨y5_3, by omega, rfl⟩, hI, fun i j h => ((hfr5 i j (fl_out (by decide) h)).trans ((hq4 i j (fl_out (by decide) h)).trans (hfb3 i j h)))⟩ had hN (fun i hi => hA i hi) hP hS dX8_move_48
    exact loop5 _ (0) v4 ar4 al4 _ _ _ rfl (by omega) hI (fun _ _ _ => rfl) hP hS hl
  · skip
    refine lv_iload_n hE.1 hE.2.1 dX8_move_9 rfl (lv_at hl 0 rfl) ?_
    exact kr0 _ _ _ rfl ⟨⟨z1, by omega, rfl⟩, hI, fun _ _ _ => rfl⟩ dX8_move_10

set_option maxHeartbeats 4000000 in
set_option maxRecDepth 100000 in
theorem h_X8_lasts (l : Launch) (D : va_G) (K : Nat → ClassId) (ad : Nat → Nat) (v ar : sI) (al : sL) (hI : XI v) (H0 : Heap) : Met l yX8_lasts (wM yX8_lasts cX8_lasts 2 (some .int)) (rmC 25 1 36880) (va_Pc [.ref (ad 0)] (fPre2 D K ad H0 v ar al)) (va_Qi (fun (r : Int32) (u : Option (Nat → Nat) × sT) => (∃ z : Int, (-2147483648 ≤ z ∧ z ≤ 2147483647) ∧ r = iI z) ∧ XI u.2.1 ∧ FLs v u.2.1) (bF2 D K ad H0) (aF ad H0.size)) 1 36880 (aF ad H0.size) := by
  refine s_metF2 (by decide) (Nat.le_of_ble_eq_true rfl) ?_
  intro p e s m below meth c ls args Q hE hsz hB hl kr0 kr1
  subst hsz
  have hE : CallFix p m c cX8_lasts 2 s args tbG "TaleCourt" := hE
  obtain ⟨hP, hK, hN⟩ := hB
  obtain ⟨AF, hAF⟩ : ∃ A, A = aF ad s.heap.size := ⟨_, rfl⟩
  rw [← hAF] at kr1
  have hA : ∀ i, i < 132 → AF (ad i) := fun i hi => by rw [hAF]; exact Or.inl ⟨i, hi, rfl⟩
  have hA0 : ∀ q, s.heap.size ≤ q → AF q := fun q h => by rw [hAF]; exact Or.inr h
  have hS : va_S AF s.heap s.heap [] := va_S.rf
  have hl : lv_has ls 2 [(0, .ref (ad 0))] := hl
  refine lv_aload_n hE.1 hE.2.1 dX8_lasts_0 rfl (lv_at hl 0 rfl) ?_
  refine x_vp (nn := 0) (As := []) (rest := []) hE (s_X8_gameBar_0 l D K ad none 132 (by decide) v ar al hI  ) wPre_blind (wPre_now hK hN hP) (x_recv hK hP 0 (by decide) (xG_8 rfl) rfl) rfl mw_1027 mw_1029 mw_30 mw_114 mw_1030 (by decide +kernel) ⟨by decide, by decide⟩ hl.1 rfl (Nat.le_of_ble_eq_true rfl) ⟨Nat.le_of_ble_eq_true rfl, Nat.le_of_ble_eq_true rfl⟩ dX8_lasts_1 (fun r1 hr1 => ?_)
  obtain ⟨z1, hz1, rfl⟩ := hr1
  refine lv_istore_n (lv' := [(1, .int (iI (z1))), (0, .ref (ad 0))]) hE.1 hE.2.1 dX8_lasts_4 rfl hl (by decide) rfl (fun ls hl => ?_)
  refine lv_iload_n hE.1 hE.2.1 dX8_lasts_5 rfl (lv_at hl 0 rfl) ?_
  refine s_if_eq (a := z1) (tgt := 11) hE.1 hE.2.1 (by omega) dX8_lasts_6 (by decide) (fun c2 => ?_) (fun c2 => ?_)
  · skip
    refine lv_aload_n hE.1 hE.2.1 dX8_lasts_11 rfl (lv_at hl 1 rfl) ?_
    refine x_get (x := .ref (ad 56)) hE hK hP 0 (by decide) (xG_8 rfl) rfl hin8 7 (by decide) mw_487 rfl dX8_lasts_12 ?_
    refine lv_aload_n hE.1 hE.2.1 dX8_lasts_15 rfl (lv_at hl 1 rfl) ?_
    refine x_get (x := .ref (ad 23)) hE hK hP 0 (by decide) (xG_8 rfl) rfl hin8 3 (by decide) mw_483 rfl dX8_lasts_16 ?_
    refine lv_iconst (v := iI (0)) hE.1 hE.2.1 dX8_lasts_19 (by decide) ?_
    have hsub := aF_sub hS hA0 hA
    refine a_vvF (nn := 2) (As := [.ref (ad 23), .int (iI (0))]) (rest := []) hE hK hN hP hS hA0 hA (e_begin l D K ad v ar al hI _ (0) (by omega)) (x_recv hK hP 56 (by decide) (xG_2 rfl) rfl) rfl mw_1031 mw_1032 mw_1033 mw_120 mw_1034 (by decide +kernel) ⟨by decide, by decide⟩ hl.1 rfl (Nat.le_of_ble_eq_true rfl) ⟨Nat.le_of_ble_eq_true rfl, Nat.le_of_ble_eq_true rfl⟩ dX8_lasts_20 (fun u3 t3 H locs ht3 hp3 hb3 hS => ?_)
    obtain ⟨o3, v3, ar3, al3⟩ := u3
    obtain ⟨⟨ad1, ho3⟩, hI, hfb3⟩ := hp3
    have ho3 : o3 = some ad1 := ho3
    subst ho3
    have hI : XI v3 := hI
    obtain ⟨had, hN, hA1, hP⟩ := hb3
    have hP : va_P D xcl (wW ad1 (xG ad1 K (some (ad1 132))) 133 v3 ar3 al3) H := by rw [← ht3]; exact hP
    rw [← had 0 (by decide)] at hl
    replace hA : ∀ i, i < 133 → AF (ad1 i) := fun i hi => hsub _ (hA1 i hi)
    refine lv_aload_n hE.1 hE.2.1 dX8_lasts_23 rfl (lv_at hl 1 rfl) ?_
    refine x_get (x := .ref (ad1 56)) hE hK hP 0 (by decide) (xG_8 rfl) rfl hin8 7 (by decide) mw_487 rfl dX8_lasts_24 ?_
    refine a_vi (nn := 0) (As := []) (rest := []) hE hK hN hP hS hA (s_X2_turnsToEnd_56 l D K ad1  v3 ar3 al3 hI  ) (x_recv hK hP 56 (by decide) (xG_2 rfl) rfl) rfl mw_1077 mw_1078 mw_1079 mw_120 mw_1080 (by decide +kernel) ⟨by decide, by decide⟩ hl.1 rfl (Nat.le_of_ble_eq_true rfl) ⟨Nat.le_of_ble_eq_true rfl, Nat.le_of_ble_eq_true rfl⟩ dX8_lasts_27 (fun r4 v4 ar4 al4 H locs hq4 hP hS => ?_)
    obtain ⟨⟨z4, hz4, rfl⟩, hI, hq4⟩ := hq4
    have hI : XI v4 := hI
    exact kr1 _ ad1 v4 ar4 al4 _ _ _ _ rfl ⟨⟨z4, by omega, rfl⟩, hI, fun i j h => ((hq4 i j (fl_out (by decide) h)).trans (hfb3 i j h))⟩ had hN (fun i hi => hA i hi) hP hS dX8_lasts_30
  · skip
    refine lv_iload_n hE.1 hE.2.1 dX8_lasts_9 rfl (lv_at hl 0 rfl) ?_
    exact kr0 _ _ _ rfl ⟨⟨z1, by omega, rfl⟩, hI, fun _ _ _ => rfl⟩ dX8_lasts_10

set_option maxHeartbeats 4000000 in
set_option maxRecDepth 100000 in
theorem h_X8_good (l : Launch) (D : va_G) (K : Nat → ClassId) (ad : Nat → Nat) (v ar : sI) (al : sL) (hI : XI v) (H0 : Heap) : Met l yX8_good (wM yX8_good cX8_good 2 (some .int)) (rmC 26 1 36880) (va_Pc [.ref (ad 0)] (fPre2 D K ad H0 v ar al)) (va_Qi (fun (r : Int32) (u : Option (Nat → Nat) × sT) => (∃ z : Int, (-2147483648 ≤ z ∧ z ≤ 2147483647) ∧ r = iI z) ∧ XI u.2.1 ∧ FLs v u.2.1) (bF2 D K ad H0) (aF ad H0.size)) 1 36880 (aF ad H0.size) := by
  refine s_metF2 (by decide) (Nat.le_of_ble_eq_true rfl) ?_
  intro p e s m below meth c ls args Q hE hsz hB hl kr0 kr1
  subst hsz
  have hE : CallFix p m c cX8_good 2 s args tbG "TaleCourt" := hE
  obtain ⟨hP, hK, hN⟩ := hB
  obtain ⟨AF, hAF⟩ : ∃ A, A = aF ad s.heap.size := ⟨_, rfl⟩
  rw [← hAF] at kr1
  have hA : ∀ i, i < 132 → AF (ad i) := fun i hi => by rw [hAF]; exact Or.inl ⟨i, hi, rfl⟩
  have hA0 : ∀ q, s.heap.size ≤ q → AF q := fun q h => by rw [hAF]; exact Or.inr h
  have hS : va_S AF s.heap s.heap [] := va_S.rf
  have hl : lv_has ls 2 [(0, .ref (ad 0))] := hl
  refine lv_aload_n hE.1 hE.2.1 dX8_good_0 rfl (lv_at hl 0 rfl) ?_
  refine x_vp (nn := 0) (As := []) (rest := []) hE (s_X8_gameBar_0 l D K ad none 132 (by decide) v ar al hI  ) wPre_blind (wPre_now hK hN hP) (x_recv hK hP 0 (by decide) (xG_8 rfl) rfl) rfl mw_1027 mw_1029 mw_30 mw_114 mw_1030 (by decide +kernel) ⟨by decide, by decide⟩ hl.1 rfl (Nat.le_of_ble_eq_true rfl) ⟨Nat.le_of_ble_eq_true rfl, Nat.le_of_ble_eq_true rfl⟩ dX8_good_1 (fun r1 hr1 => ?_)
  obtain ⟨z1, hz1, rfl⟩ := hr1
  refine lv_istore_n (lv' := [(1, .int (iI (z1))), (0, .ref (ad 0))]) hE.1 hE.2.1 dX8_good_4 rfl hl (by decide) rfl (fun ls hl => ?_)
  refine lv_iload_n hE.1 hE.2.1 dX8_good_5 rfl (lv_at hl 0 rfl) ?_
  refine s_if_eq (a := z1) (tgt := 11) hE.1 hE.2.1 (by omega) dX8_good_6 (by decide) (fun c2 => ?_) (fun c2 => ?_)
  · skip
    refine lv_aload_n hE.1 hE.2.1 dX8_good_11 rfl (lv_at hl 1 rfl) ?_
    refine x_get (x := .ref (ad 56)) hE hK hP 0 (by decide) (xG_8 rfl) rfl hin8 7 (by decide) mw_487 rfl dX8_good_12 ?_
    refine lv_aload_n hE.1 hE.2.1 dX8_good_15 rfl (lv_at hl 1 rfl) ?_
    refine x_get (x := .ref (ad 23)) hE hK hP 0 (by decide) (xG_8 rfl) rfl hin8 3 (by decide) mw_483 rfl dX8_good_16 ?_
    refine lv_iconst (v := iI (1)) hE.1 hE.2.1 dX8_good_19 (by decide) ?_
    have hsub := aF_sub hS hA0 hA
    refine a_vvF (nn := 2) (As := [.ref (ad 23), .int (iI (1))]) (rest := []) hE hK hN hP hS hA0 hA (e_begin l D K ad v ar al hI _ (1) (by omega)) (x_recv hK hP 56 (by decide) (xG_2 rfl) rfl) rfl mw_1031 mw_1032 mw_1033 mw_120 mw_1034 (by decide +kernel) ⟨by decide, by decide⟩ hl.1 rfl (Nat.le_of_ble_eq_true rfl) ⟨Nat.le_of_ble_eq_true rfl, Nat.le_of_ble_eq_true rfl⟩ dX8_good_20 (fun u3 t3 H locs ht3 hp3 hb3 hS => ?_)
    obtain ⟨o3, v3, ar3, al3⟩ := u3
    obtain ⟨⟨ad1, ho3⟩, hI, hfb3⟩ := hp3
    have ho3 : o3 = some ad1 := ho3
    subst ho3
    have hI : XI v3 := hI
    obtain ⟨had, hN, hA1, hP⟩ := hb3
    have hP : va_P D xcl (wW ad1 (xG ad1 K (some (ad1 132))) 133 v3 ar3 al3) H := by rw [← ht3]; exact hP
    rw [← had 0 (by decide)] at hl
    replace hA : ∀ i, i < 133 → AF (ad1 i) := fun i hi => hsub _ (hA1 i hi)
    refine lv_aload_n hE.1 hE.2.1 dX8_good_23 rfl (lv_at hl 1 rfl) ?_
    refine x_get (x := .ref (ad1 56)) hE hK hP 0 (by decide) (xG_8 rfl) rfl hin8 7 (by decide) mw_487 rfl dX8_good_24 ?_
    refine a_vi (nn := 0) (As := []) (rest := []) hE hK hN hP hS hA (s_X2_winningMoves_56 l D K ad1  v3 ar3 al3 hI  ) (x_recv hK hP 56 (by decide) (xG_2 rfl) rfl) rfl mw_1068 mw_1069 mw_1070 mw_120 mw_1071 (by decide +kernel) ⟨by decide, by decide⟩ hl.1 rfl (Nat.le_of_ble_eq_true rfl) ⟨Nat.le_of_ble_eq_true rfl, Nat.le_of_ble_eq_true rfl⟩ dX8_good_27 (fun r4 v4 ar4 al4 H locs hq4 hP hS => ?_)
    obtain ⟨⟨z4, hz4, rfl⟩, hI, hq4⟩ := hq4
    have hI : XI v4 := hI
    exact kr1 _ ad1 v4 ar4 al4 _ _ _ _ rfl ⟨⟨z4, by omega, rfl⟩, hI, fun i j h => ((hq4 i j (fl_out (by decide) h)).trans (hfb3 i j h))⟩ had hN (fun i hi => hA i hi) hP hS dX8_good_30
  · skip
    refine lv_iload_n hE.1 hE.2.1 dX8_good_9 rfl (lv_at hl 0 rfl) ?_
    exact kr0 _ _ _ rfl ⟨⟨z1, by omega, rfl⟩, hI, fun _ _ _ => rfl⟩ dX8_good_10

set_option maxHeartbeats 4000000 in
set_option maxRecDepth 100000 in
theorem h_X8_kept (l : Launch) (D : va_G) (K : Nat → ClassId) (ad : Nat → Nat) (v ar : sI) (al : sL) (hI : XI v) (H0 : Heap) (z_1 : Int) (hz_1 : -2147483648 ≤ z_1 ∧ z_1 ≤ 2147483647) (z_2 : Int) (hz_2 : -2147483648 ≤ z_2 ∧ z_2 ≤ 2147483647) : Met l yX8_kept (wM yX8_kept cX8_kept 6 (some .int)) (rmC 25 1 36880) (va_Pc [.ref (ad 0), .int (iI (z_1)), .int (iI (z_2))] (fPre2 D K ad H0 v ar al)) (va_Qi (fun (r : Int32) (u : Option (Nat → Nat) × sT) => (∃ z : Int, (-2147483648 ≤ z ∧ z ≤ 2147483647) ∧ r = iI z) ∧ XI u.2.1 ∧ FLs v u.2.1) (bF2 D K ad H0) (aF ad H0.size)) 1 36880 (aF ad H0.size) := by
  refine s_metF2 (by decide) (Nat.le_of_ble_eq_true rfl) ?_
  intro p e s m below meth c ls args Q hE hsz hB hl kr0 kr1
  subst hsz
  have hE : CallFix p m c cX8_kept 6 s args tbG "TaleCourt" := hE
  obtain ⟨hP, hK, hN⟩ := hB
  obtain ⟨AF, hAF⟩ : ∃ A, A = aF ad s.heap.size := ⟨_, rfl⟩
  rw [← hAF] at kr1
  have hA : ∀ i, i < 132 → AF (ad i) := fun i hi => by rw [hAF]; exact Or.inl ⟨i, hi, rfl⟩
  have hA0 : ∀ q, s.heap.size ≤ q → AF q := fun q h => by rw [hAF]; exact Or.inr h
  have hS : va_S AF s.heap s.heap [] := va_S.rf
  have hl : lv_has ls 6 [(0, .ref (ad 0)), (1, .int (iI (z_1))), (2, .int (iI (z_2)))] := hl
  refine lv_aload_n hE.1 hE.2.1 dX8_kept_0 rfl (lv_at hl 0 rfl) ?_
  refine x_vp (nn := 0) (As := []) (rest := []) hE (s_X8_gameBar_0 l D K ad none 132 (by decide) v ar al hI  ) wPre_blind (wPre_now hK hN hP) (x_recv hK hP 0 (by decide) (xG_8 rfl) rfl) rfl mw_1027 mw_1029 mw_30 mw_114 mw_1030 (by decide +kernel) ⟨by decide, by decide⟩ hl.1 rfl (Nat.le_of_ble_eq_true rfl) ⟨Nat.le_of_ble_eq_true rfl, Nat.le_of_ble_eq_true rfl⟩ dX8_kept_1 (fun r1 hr1 => ?_)
  obtain ⟨z1, hz1, rfl⟩ := hr1
  refine lv_istore_n (lv' := [(3, .int (iI (z1))), (0, .ref (ad 0)), (1, .int (iI (z_1))), (2, .int (iI (z_2)))]) hE.1 hE.2.1 dX8_kept_4 rfl hl (by decide) rfl (fun ls hl => ?_)
  refine lv_iload_n hE.1 hE.2.1 dX8_kept_5 rfl (lv_at hl 0 rfl) ?_
  refine s_if_eq (a := z1) (tgt := 11) hE.1 hE.2.1 (by omega) dX8_kept_6 (by decide) (fun c2 => ?_) (fun c2 => ?_)
  · skip
    refine lv_aload_n hE.1 hE.2.1 dX8_kept_11 rfl (lv_at hl 1 rfl) ?_
    refine x_get (x := .ref (ad 3)) hE hK hP 0 (by decide) (xG_8 rfl) rfl hin8 1 (by decide) mw_481 rfl dX8_kept_12 ?_
    refine lv_iload_n hE.1 hE.2.1 dX8_kept_15 rfl (lv_at hl 2 rfl) ?_
    refine x_vp (nn := 1) (As := [.int (iI (z_1))]) (rest := []) hE (s_X1_hasMotif_3 l D K ad none 132 (by decide) v ar al hI  (z_1) (by omega)) wPre_blind (wPre_now hK hN hP) (x_recv hK hP 3 (by decide) (xG_1 rfl) rfl) rfl mw_694 mw_695 mw_696 mw_116 mw_697 (by decide +kernel) ⟨by decide, by decide⟩ hl.1 rfl (Nat.le_of_ble_eq_true rfl) ⟨Nat.le_of_ble_eq_true rfl, Nat.le_of_ble_eq_true rfl⟩ dX8_kept_16 (fun r3 hr3 => ?_)
    obtain ⟨z3, hz3, rfl⟩ := hr3
    refine s_if_eq (a := z3) (tgt := 33) hE.1 hE.2.1 (by omega) dX8_kept_19 (by decide) (fun c4 => ?_) (fun c4 => ?_)
    · skip
      refine lv_bipush (v := iI (-2)) hE.1 hE.2.1 dX8_kept_33 (by decide) ?_
      exact kr0 _ _ _ rfl ⟨⟨-2, by omega, rfl⟩, hI, fun _ _ _ => rfl⟩ dX8_kept_35
    · skip
      refine lv_aload_n hE.1 hE.2.1 dX8_kept_22 rfl (lv_at hl 1 rfl) ?_
      refine x_get (x := .ref (ad 3)) hE hK hP 0 (by decide) (xG_8 rfl) rfl hin8 1 (by decide) mw_481 rfl dX8_kept_23 ?_
      refine lv_iload_n hE.1 hE.2.1 dX8_kept_26 rfl (lv_at hl 3 rfl) ?_
      refine x_vp (nn := 1) (As := [.int (iI (z_2))]) (rest := []) hE (s_X1_mayKeep_3 l D K ad none 132 (by decide) v ar al hI  (z_2) (by omega)) wPre_blind (wPre_now hK hN hP) (x_recv hK hP 3 (by decide) (xG_1 rfl) rfl) rfl mw_1089 mw_1090 mw_1091 mw_116 mw_1092 (by decide +kernel) ⟨by decide, by decide⟩ hl.1 rfl (Nat.le_of_ble_eq_true rfl) ⟨Nat.le_of_ble_eq_true rfl, Nat.le_of_ble_eq_true rfl⟩ dX8_kept_27 (fun r5 hr5 => ?_)
      obtain ⟨z5, hz5, rfl⟩ := hr5
      refine s_if_ne (a := z5) (tgt := 36) hE.1 hE.2.1 (by omega) dX8_kept_30 (by decide) (fun c6 => ?_) (fun c6 => ?_)
      · skip
        refine lv_aload_n hE.1 hE.2.1 dX8_kept_36 rfl (lv_at hl 1 rfl) ?_
        refine x_get (x := .ref (ad 3)) hE hK hP 0 (by decide) (xG_8 rfl) rfl hin8 1 (by decide) mw_481 rfl dX8_kept_37 ?_
        refine x_get (x := .ref (ad 7)) hE hK hP 3 (by decide) (xG_1 rfl) rfl hin1 14 (by decide) mw_230 rfl dX8_kept_40 ?_
        refine lv_iload_n hE.1 hE.2.1 dX8_kept_43 rfl (lv_at hl 2 rfl) ?_
        refine x_iald (j := iI (z_1)) hE hK hP 7 (by decide) (xG_10 rfl) (iI_in (n := 9) (by omega)) dX8_kept_44 ?_
        obtain ⟨z8, hz8, ez8⟩ := iI_of (ar 7 (iI (z_1)).toNatClampNeg)
        refine x_top ez8 ?_
        refine lv_istore (lv' := [(4, .int (iI (z8))), (3, .int (iI (z1))), (0, .ref (ad 0)), (1, .int (iI (z_1))), (2, .int (iI (z_2)))]) hE.1 hE.2.1 dX8_kept_45 hl (by decide) rfl (fun ls hl => ?_)
        refine lv_aload_n hE.1 hE.2.1 dX8_kept_47 rfl (lv_at hl 2 rfl) ?_
        refine x_get (x := .ref (ad 3)) hE hK hP 0 (by decide) (xG_8 rfl) rfl hin8 1 (by decide) mw_481 rfl dX8_kept_48 ?_
        refine lv_iload_n hE.1 hE.2.1 dX8_kept_51 rfl (lv_at hl 3 rfl) ?_
        refine lv_iload_n hE.1 hE.2.1 dX8_kept_52 rfl (lv_at hl 4 rfl) ?_
        refine a_vv (nn := 2) (As := [.int (iI (z_1)), .int (iI (z_2))]) (rest := []) hE hK hN hP hS hA (s_X1_setKeeper_3 l D K ad none 132 (by decide) v ar al hI  (z_1) (by omega) (z_2) (by omega)) (x_recv hK hP 3 (by decide) (xG_1 rfl) rfl) rfl mw_1094 mw_664 mw_665 mw_116 mw_666 (by decide +kernel) ⟨by decide, by decide⟩ hl.1 rfl (Nat.le_of_ble_eq_true rfl) ⟨Nat.le_of_ble_eq_true rfl, Nat.le_of_ble_eq_true rfl⟩ dX8_kept_53 (fun v9 ar9 al9 H locs hq9 hP hS => ?_)
        obtain ⟨hI, hq9⟩ := hq9
        have hI : XI v9 := hI
        refine lv_aload_n hE.1 hE.2.1 dX8_kept_56 rfl (lv_at hl 2 rfl) ?_
        refine x_get (x := .ref (ad 56)) hE hK hP 0 (by decide) (xG_8 rfl) rfl hin8 7 (by decide) mw_487 rfl dX8_kept_57 ?_
        refine lv_aload_n hE.1 hE.2.1 dX8_kept_60 rfl (lv_at hl 2 rfl) ?_
        refine x_get (x := .ref (ad 23)) hE hK hP 0 (by decide) (xG_8 rfl) rfl hin8 3 (by decide) mw_483 rfl dX8_kept_61 ?_
        refine lv_iconst (v := iI (1)) hE.1 hE.2.1 dX8_kept_64 (by decide) ?_
        have hsub := aF_sub hS hA0 hA
        refine a_vvF (nn := 2) (As := [.ref (ad 23), .int (iI (1))]) (rest := []) hE hK hN hP hS hA0 hA (e_begin l D K ad v9 ar9 al9 hI _ (1) (by omega)) (x_recv hK hP 56 (by decide) (xG_2 rfl) rfl) rfl mw_1031 mw_1032 mw_1033 mw_120 mw_1034 (by decide +kernel) ⟨by decide, by decide⟩ hl.1 rfl (Nat.le_of_ble_eq_true rfl) ⟨Nat.le_of_ble_eq_true rfl, Nat.le_of_ble_eq_true rfl⟩ dX8_kept_65 (fun u10 t10 H locs ht10 hp10 hb10 hS => ?_)
        obtain ⟨o10, v10, ar10, al10⟩ := u10
        obtain ⟨⟨ad1, ho10⟩, hI, hfb10⟩ := hp10
        have ho10 : o10 = some ad1 := ho10
        subst ho10
        have hI : XI v10 := hI
        obtain ⟨had, hN, hA1, hP⟩ := hb10
        have hP : va_P D xcl (wW ad1 (xG ad1 K (some (ad1 132))) 133 v10 ar10 al10) H := by rw [← ht10]; exact hP
        rw [← had 0 (by decide)] at hl
        replace hA : ∀ i, i < 133 → AF (ad1 i) := fun i hi => hsub _ (hA1 i hi)
        refine lv_aload_n hE.1 hE.2.1 dX8_kept_68 rfl (lv_at hl 2 rfl) ?_
        refine x_get (x := .ref (ad1 56)) hE hK hP 0 (by decide) (xG_8 rfl) rfl hin8 7 (by decide) mw_487 rfl dX8_kept_69 ?_
        refine a_vi (nn := 0) (As := []) (rest := []) hE hK hN hP hS hA (s_X2_isWon_56 l D K ad1  v10 ar10 al10 hI  ) (x_recv hK hP 56 (by decide) (xG_2 rfl) rfl) rfl mw_1037 mw_1038 mw_1039 mw_120 mw_1040 (by decide +kernel) ⟨by decide, by decide⟩ hl.1 rfl (Nat.le_of_ble_eq_true rfl) ⟨Nat.le_of_ble_eq_true rfl, Nat.le_of_ble_eq_true rfl⟩ dX8_kept_72 (fun r11 v11 ar11 al11 H locs hq11 hP hS => ?_)
        obtain ⟨⟨z11, hz11, rfl⟩, hI, hq11⟩ := hq11
        have hI : XI v11 := hI
        refine lv_istore (lv' := [(5, .int (iI (z11))), (4, .int (iI (z8))), (3, .int (iI (z1))), (0, .ref (ad1 0)), (1, .int (iI (z_1))), (2, .int (iI (z_2)))]) hE.1 hE.2.1 dX8_kept_75 hl (by decide) rfl (fun ls hl => ?_)
        refine lv_aload_n hE.1 hE.2.1 dX8_kept_77 rfl (lv_at hl 3 rfl) ?_
        refine x_get (x := .ref (ad1 3)) hE hK hP 0 (by decide) (xG_8 rfl) rfl hin8 1 (by decide) mw_481 rfl dX8_kept_78 ?_
        refine lv_iload_n hE.1 hE.2.1 dX8_kept_81 rfl (lv_at hl 4 rfl) ?_
        refine lv_iload hE.1 hE.2.1 dX8_kept_82 (lv_at hl 1 rfl) ?_
        refine a_vv (nn := 2) (As := [.int (iI (z_1)), .int (iI (z8))]) (rest := []) hE hK hN hP hS hA (s_X1_setKeeper_3 l D K ad1 (some (ad1 132)) 133 (by decide) v11 ar11 al11 hI  (z_1) (by omega) (z8) (by omega)) (x_recv hK hP 3 (by decide) (xG_1 rfl) rfl) rfl mw_1094 mw_664 mw_665 mw_116 mw_666 (by decide +kernel) ⟨by decide, by decide⟩ hl.1 rfl (Nat.le_of_ble_eq_true rfl) ⟨Nat.le_of_ble_eq_true rfl, Nat.le_of_ble_eq_true rfl⟩ dX8_kept_84 (fun v12 ar12 al12 H locs hq12 hP hS => ?_)
        obtain ⟨hI, hq12⟩ := hq12
        have hI : XI v12 := hI
        refine lv_iload hE.1 hE.2.1 dX8_kept_87 (lv_at hl 0 rfl) ?_
        refine s_if_eq (a := z11) (tgt := 96) hE.1 hE.2.1 (by omega) dX8_kept_89 (by decide) (fun c13 => ?_) (fun c13 => ?_)
        · skip
          refine lv_iconst (v := iI (0)) hE.1 hE.2.1 dX8_kept_96 (by decide) ?_
          exact kr1 _ ad1 v12 ar12 al12 _ _ _ _ rfl ⟨⟨0, by omega, rfl⟩, hI, fun i j h => ((hq12 i j (fl_out (by decide) h)).trans ((hq11 i j (fl_out (by decide) h)).trans ((hfb10 i j h).trans (hq9 i j (fl_out (by decide) h)))))⟩ had hN (fun i hi => hA i hi) hP hS dX8_kept_97
        · skip
          refine lv_iconst (v := iI (1)) hE.1 hE.2.1 dX8_kept_92 (by decide) ?_
          refine lv_goto (tgt := 97) hE.1 hE.2.1 dX8_kept_93 (by decide) ?_
          exact kr1 _ ad1 v12 ar12 al12 _ _ _ _ rfl ⟨⟨1, by omega, rfl⟩, hI, fun i j h => ((hq12 i j (fl_out (by decide) h)).trans ((hq11 i j (fl_out (by decide) h)).trans ((hfb10 i j h).trans (hq9 i j (fl_out (by decide) h)))))⟩ had hN (fun i hi => hA i hi) hP hS dX8_kept_97
      · skip
        refine lv_bipush (v := iI (-2)) hE.1 hE.2.1 dX8_kept_33 (by decide) ?_
        exact kr0 _ _ _ rfl ⟨⟨-2, by omega, rfl⟩, hI, fun _ _ _ => rfl⟩ dX8_kept_35
  · skip
    refine lv_iload_n hE.1 hE.2.1 dX8_kept_9 rfl (lv_at hl 0 rfl) ?_
    exact kr0 _ _ _ rfl ⟨⟨z1, by omega, rfl⟩, hI, fun _ _ _ => rfl⟩ dX8_kept_10

set_option maxHeartbeats 4000000 in
set_option maxRecDepth 100000 in
theorem h_X8_trade (l : Launch) (D : va_G) (K : Nat → ClassId) (ad : Nat → Nat) (v ar : sI) (al : sL) (hI : XI v) (H0 : Heap) : Met l yX8_trade (wM yX8_trade cX8_trade 4 (some .int)) (rmC 26 1 36880) (va_Pc [.ref (ad 0)] (fPre2 D K ad H0 v ar al)) (va_Qi (fun (r : Int32) (u : Option (Nat → Nat) × sT) => (∃ z : Int, (-2147483648 ≤ z ∧ z ≤ 2147483647) ∧ r = iI z) ∧ XI u.2.1 ∧ FLs v u.2.1) (bF2 D K ad H0) (aF ad H0.size)) 1 36880 (aF ad H0.size) := by
  refine s_metF2 (by decide) (Nat.le_of_ble_eq_true rfl) ?_
  intro p e s m below meth c ls args Q hE hsz hB hl kr0 kr1
  subst hsz
  have hE : CallFix p m c cX8_trade 4 s args tbG "TaleCourt" := hE
  obtain ⟨hP, hK, hN⟩ := hB
  obtain ⟨AF, hAF⟩ : ∃ A, A = aF ad s.heap.size := ⟨_, rfl⟩
  rw [← hAF] at kr1
  have hA : ∀ i, i < 132 → AF (ad i) := fun i hi => by rw [hAF]; exact Or.inl ⟨i, hi, rfl⟩
  have hA0 : ∀ q, s.heap.size ≤ q → AF q := fun q h => by rw [hAF]; exact Or.inr h
  have hS : va_S AF s.heap s.heap [] := va_S.rf
  have hl : lv_has ls 4 [(0, .ref (ad 0))] := hl
  refine lv_aload_n hE.1 hE.2.1 dX8_trade_0 rfl (lv_at hl 0 rfl) ?_
  refine x_vp (nn := 0) (As := []) (rest := []) hE (s_X8_gameBar_0 l D K ad none 132 (by decide) v ar al hI  ) wPre_blind (wPre_now hK hN hP) (x_recv hK hP 0 (by decide) (xG_8 rfl) rfl) rfl mw_1027 mw_1029 mw_30 mw_114 mw_1030 (by decide +kernel) ⟨by decide, by decide⟩ hl.1 rfl (Nat.le_of_ble_eq_true rfl) ⟨Nat.le_of_ble_eq_true rfl, Nat.le_of_ble_eq_true rfl⟩ dX8_trade_1 (fun r1 hr1 => ?_)
  obtain ⟨z1, hz1, rfl⟩ := hr1
  refine lv_istore_n (lv' := [(1, .int (iI (z1))), (0, .ref (ad 0))]) hE.1 hE.2.1 dX8_trade_4 rfl hl (by decide) rfl (fun ls hl => ?_)
  refine lv_iload_n hE.1 hE.2.1 dX8_trade_5 rfl (lv_at hl 0 rfl) ?_
  refine s_if_eq (a := z1) (tgt := 11) hE.1 hE.2.1 (by omega) dX8_trade_6 (by decide) (fun c2 => ?_) (fun c2 => ?_)
  · skip
    refine lv_aload_n hE.1 hE.2.1 dX8_trade_11 rfl (lv_at hl 1 rfl) ?_
    refine x_get (x := .ref (ad 56)) hE hK hP 0 (by decide) (xG_8 rfl) rfl hin8 7 (by decide) mw_487 rfl dX8_trade_12 ?_
    refine lv_aload_n hE.1 hE.2.1 dX8_trade_15 rfl (lv_at hl 1 rfl) ?_
    refine x_get (x := .ref (ad 23)) hE hK hP 0 (by decide) (xG_8 rfl) rfl hin8 3 (by decide) mw_483 rfl dX8_trade_16 ?_
    refine lv_iconst (v := iI (1)) hE.1 hE.2.1 dX8_trade_19 (by decide) ?_
    have hsub := aF_sub hS hA0 hA
    refine a_vvF (nn := 2) (As := [.ref (ad 23), .int (iI (1))]) (rest := []) hE hK hN hP hS hA0 hA (e_begin l D K ad v ar al hI _ (1) (by omega)) (x_recv hK hP 56 (by decide) (xG_2 rfl) rfl) rfl mw_1031 mw_1032 mw_1033 mw_120 mw_1034 (by decide +kernel) ⟨by decide, by decide⟩ hl.1 rfl (Nat.le_of_ble_eq_true rfl) ⟨Nat.le_of_ble_eq_true rfl, Nat.le_of_ble_eq_true rfl⟩ dX8_trade_20 (fun u3 t3 H locs ht3 hp3 hb3 hS => ?_)
    obtain ⟨o3, v3, ar3, al3⟩ := u3
    obtain ⟨⟨ad1, ho3⟩, hI, hfb3⟩ := hp3
    have ho3 : o3 = some ad1 := ho3
    subst ho3
    have hI : XI v3 := hI
    obtain ⟨had, hN, hA1, hP⟩ := hb3
    have hP : va_P D xcl (wW ad1 (xG ad1 K (some (ad1 132))) 133 v3 ar3 al3) H := by rw [← ht3]; exact hP
    rw [← had 0 (by decide)] at hl
    replace hA : ∀ i, i < 133 → AF (ad1 i) := fun i hi => hsub _ (hA1 i hi)
    refine lv_aload_n hE.1 hE.2.1 dX8_trade_23 rfl (lv_at hl 1 rfl) ?_
    refine x_get (x := .ref (ad1 56)) hE hK hP 0 (by decide) (xG_8 rfl) rfl hin8 7 (by decide) mw_487 rfl dX8_trade_24 ?_
    refine a_vi (nn := 0) (As := []) (rest := []) hE hK hN hP hS hA (s_X2_isWon_56 l D K ad1  v3 ar3 al3 hI  ) (x_recv hK hP 56 (by decide) (xG_2 rfl) rfl) rfl mw_1037 mw_1038 mw_1039 mw_120 mw_1040 (by decide +kernel) ⟨by decide, by decide⟩ hl.1 rfl (Nat.le_of_ble_eq_true rfl) ⟨Nat.le_of_ble_eq_true rfl, Nat.le_of_ble_eq_true rfl⟩ dX8_trade_27 (fun r4 v4 ar4 al4 H locs hq4 hP hS => ?_)
    obtain ⟨⟨z4, hz4, rfl⟩, hI, hq4⟩ := hq4
    have hI : XI v4 := hI
    refine s_if_eq (a := z4) (tgt := 35) hE.1 hE.2.1 (by omega) dX8_trade_30 (by decide) (fun c5 => ?_) (fun c5 => ?_)
    · skip
      refine lv_iconst (v := iI (0)) hE.1 hE.2.1 dX8_trade_35 (by decide) ?_
      refine lv_istore_n (lv' := [(2, .int (iI (0))), (1, .int (iI (z1))), (0, .ref (ad1 0))]) hE.1 hE.2.1 dX8_trade_36 rfl hl (by decide) rfl (fun ls hl => ?_)
      have loop6 : ∀ (k6 : Nat) (y6_2 : Int) (vl6 arl6 : sI) (all6 : sL) (H : Heap) (locs : List Loc) (ls : Array Slot), (9 - y6_2).toNat = k6 → (0 ≤ y6_2 ∧ y6_2 ≤ 9) → XI vl6 → (∀ i j : Nat, (i, j) ∉ ([(56, 3), (56, 4), (57, 2), (57, 3), (57, 4), (57, 5), (57, 8), (57, 9)] : List (Nat × Nat)) → vl6 i j = v4 i j) → va_P D xcl (wW ad1 (xG ad1 K (some (ad1 132))) 133 vl6 arl6 all6) H → va_S AF s.heap H locs → lv_has ls 4 [(2, .int (iI (y6_2))), (1, .int (iI (z1))), (0, .ref (ad1 0))] → W p l e (rmC 26 1 36880) s m args below meth c H locs 1 36880 Q (F0 m 37 ls []) := by
        intro k6
        induction k6 using Nat.strongRecOn with
        | _ k6 ih6 =>
          intro y6_2 vl6 arl6 all6 H locs ls hk6 hb_y6_2 hI hfr6 hP hS hl
          refine lv_iload_n hE.1 hE.2.1 dX8_trade_37 rfl (lv_at hl 0 rfl) ?_
          refine lv_aload_n hE.1 hE.2.1 dX8_trade_38 rfl (lv_at hl 2 rfl) ?_
          refine x_get (x := .ref (ad1 3)) hE hK hP 0 (by decide) (xG_8 rfl) rfl hin8 1 (by decide) mw_481 rfl dX8_trade_39 ?_
          obtain ⟨z7, hz7, ez7⟩ := XI_get hI 3 2 0 9 (by decide)
          refine x_get (x := .int (vl6 3 2)) hE hK hP 3 (by decide) (xG_1 rfl) rfl hin1 2 (by decide) mw_189 rfl dX8_trade_42 ?_
          refine x_top (y := iI (z7)) ez7 ?_
          refine s_icmp_ge (a := y6_2) (b := z7) (tgt := 91) hE.1 hE.2.1 (by omega) (by omega) dX8_trade_45 (by decide) (fun c8 => ?_) (fun c8 => ?_)
          · skip
            refine lv_iconst (v := iI (-1)) hE.1 hE.2.1 dX8_trade_91 (by decide) ?_
            exact kr1 _ ad1 vl6 arl6 all6 _ _ _ _ rfl ⟨⟨-1, by omega, rfl⟩, hI, fun i j h => ((hfr6 i j (fl_out (by decide) h)).trans ((hq4 i j (fl_out (by decide) h)).trans (hfb3 i j h)))⟩ had hN (fun i hi => hA i hi) hP hS dX8_trade_92
          · skip
            refine lv_iload_n hE.1 hE.2.1 dX8_trade_48 rfl (lv_at hl 0 rfl) ?_
            refine lv_iconst (v := iI (1)) hE.1 hE.2.1 dX8_trade_49 (by decide) ?_
            refine lv_iadd hE.1 hE.2.1 dX8_trade_50 ?_
            refine x_top (y := iI (y6_2 + 1)) ((iI_add (y6_2) (1)).trans (congrArg iI (by omega))) ?_
            refine lv_istore_n (lv' := [(3, .int (iI (y6_2 + 1))), (2, .int (iI (y6_2))), (1, .int (iI (z1))), (0, .ref (ad1 0))]) hE.1 hE.2.1 dX8_trade_51 rfl hl (by decide) rfl (fun ls hl => ?_)
            have loop9 : ∀ (k9 : Nat) (y9_3 : Int) (vl9 arl9 : sI) (all9 : sL) (H : Heap) (locs : List Loc) (ls : Array Slot), (10 - y9_3).toNat = k9 → (1 ≤ y9_3 ∧ y9_3 ≤ 10) → XI vl9 → (∀ i j : Nat, (i, j) ∉ ([(56, 3), (56, 4), (57, 2), (57, 3), (57, 4), (57, 5), (57, 8), (57, 9)] : List (Nat × Nat)) → vl9 i j = vl6 i j) → va_P D xcl (wW ad1 (xG ad1 K (some (ad1 132))) 133 vl9 arl9 all9) H → va_S AF s.heap H locs → lv_has ls 4 [(3, .int (iI (y9_3))), (2, .int (iI (y6_2))), (1, .int (iI (z1))), (0, .ref (ad1 0))] → W p l e (rmC 26 1 36880) s m args below meth c H locs 1 36880 Q (F0 m 52 ls []) := by
              intro k9
              induction k9 using Nat.strongRecOn with
              | _ k9 ih9 =>
                intro y9_3 vl9 arl9 all9 H locs ls hk9 hb_y9_3 hI hfr9 hP hS hl
                refine lv_iload_n hE.1 hE.2.1 dX8_trade_52 rfl (lv_at hl 0 rfl) ?_
                refine lv_aload_n hE.1 hE.2.1 dX8_trade_53 rfl (lv_at hl 3 rfl) ?_
                refine x_get (x := .ref (ad1 3)) hE hK hP 0 (by decide) (xG_8 rfl) rfl hin8 1 (by decide) mw_481 rfl dX8_trade_54 ?_
                refine x_get (x := .int (vl9 3 2)) hE hK hP 3 (by decide) (xG_1 rfl) rfl hin1 2 (by decide) mw_189 rfl dX8_trade_57 ?_
                refine x_top (y := iI (z7)) ((hfr9 3 2 (by decide)).trans ez7) ?_
                refine s_icmp_ge (a := y9_3) (b := z7) (tgt := 85) hE.1 hE.2.1 (by omega) (by omega) dX8_trade_60 (by decide) (fun c10 => ?_) (fun c10 => ?_)
                · skip
                  refine lv_iinc (v := iI (y6_2 + 1)) (lv' := [(2, .int (iI (y6_2 + 1))), (3, .int (iI (y9_3))), (1, .int (iI (z1))), (0, .ref (ad1 0))]) hE.1 hE.2.1 dX8_trade_85 hl (k := 1) rfl ((iI_add (y6_2) (1)).trans (congrArg iI (by omega))) (by decide) rfl (fun ls hl => ?_)
                  refine lv_goto (tgt := 37) hE.1 hE.2.1 dX8_trade_88 (by decide) ?_
                  exact ih6 _ (by omega) (y6_2 + 1) vl9 arl9 all9 _ _ _ rfl (by omega) hI (fun i j h => ((hfr9 i j (fun q => h (mem_sub (by decide) q))).trans (hfr6 i j h))) hP hS (lv_sub hl [0, 2, 3] rfl)
                · skip
                  refine lv_aload_n hE.1 hE.2.1 dX8_trade_63 rfl (lv_at hl 3 rfl) ?_
                  refine lv_iload_n hE.1 hE.2.1 dX8_trade_64 rfl (lv_at hl 1 rfl) ?_
                  refine lv_iload_n hE.1 hE.2.1 dX8_trade_65 rfl (lv_at hl 0 rfl) ?_
                  refine a_vi (nn := 2) (As := [.int (iI (y6_2)), .int (iI (y9_3))]) (rest := []) hE hK hN hP hS hA (s_X8_tradeWins_0 l D K ad1  vl9 arl9 all9 hI  (y6_2) (by omega) (y9_3) (by omega)) (x_recv hK hP 0 (by decide) (xG_8 rfl) rfl) rfl mw_1099 mw_1101 mw_35 mw_114 mw_1102 (by decide +kernel) ⟨by decide, by decide⟩ hl.1 rfl (Nat.le_of_ble_eq_true rfl) ⟨Nat.le_of_ble_eq_true rfl, Nat.le_of_ble_eq_true rfl⟩ dX8_trade_66 (fun r11 v11 ar11 al11 H locs hq11 hP hS => ?_)
                  obtain ⟨⟨z11, hz11, rfl⟩, hI, hq11⟩ := hq11
                  have hI : XI v11 := hI
                  refine s_if_eq (a := z11) (tgt := 79) hE.1 hE.2.1 (by omega) dX8_trade_69 (by decide) (fun c12 => ?_) (fun c12 => ?_)
                  · skip
                    refine lv_iinc (v := iI (y9_3 + 1)) (lv' := [(3, .int (iI (y9_3 + 1))), (2, .int (iI (y6_2))), (1, .int (iI (z1))), (0, .ref (ad1 0))]) hE.1 hE.2.1 dX8_trade_79 hl (k := 0) rfl ((iI_add (y9_3) (1)).trans (congrArg iI (by omega))) (by decide) rfl (fun ls hl => ?_)
                    refine lv_goto (tgt := 52) hE.1 hE.2.1 dX8_trade_82 (by decide) ?_
                    exact ih9 _ (by omega) (y9_3 + 1) v11 ar11 al11 _ _ _ rfl (by omega) hI (fun i j h => ((hq11 i j (fun q => h (mem_sub (by decide) q))).trans (hfr9 i j h))) hP hS (lv_sub hl [0, 1, 2, 3] rfl)
                  · skip
                    refine lv_bipush (v := iI (10)) hE.1 hE.2.1 dX8_trade_72 (by decide) ?_
                    refine lv_iload_n hE.1 hE.2.1 dX8_trade_74 rfl (lv_at hl 1 rfl) ?_
                    refine lv_imul hE.1 hE.2.1 dX8_trade_75 ?_
                    refine x_top (y := iI (10 * y6_2)) ((iI_mul (10) (y6_2)).trans (congrArg iI (by omega))) ?_
                    refine lv_iload_n hE.1 hE.2.1 dX8_trade_76 rfl (lv_at hl 0 rfl) ?_
                    refine lv_iadd hE.1 hE.2.1 dX8_trade_77 ?_
                    refine x_top (y := iI (10 * y6_2 + y9_3)) ((iI_add (10 * y6_2) (y9_3)).trans (congrArg iI (by omega))) ?_
                    exact kr1 _ ad1 v11 ar11 al11 _ _ _ _ rfl ⟨⟨10 * y6_2 + y9_3, by omega, rfl⟩, hI, fun i j h => ((hq11 i j (fl_out (by decide) h)).trans ((hfr9 i j (fl_out (by decide) h)).trans ((hfr6 i j (fl_out (by decide) h)).trans ((hq4 i j (fl_out (by decide) h)).trans (hfb3 i j h)))))⟩ had hN (fun i hi => hA i hi) hP hS dX8_trade_78
            exact loop9 _ (y6_2 + 1) vl6 arl6 all6 _ _ _ rfl (by omega) hI (fun _ _ _ => rfl) hP hS hl
      exact loop6 _ (0) v4 ar4 al4 _ _ _ rfl (by omega) hI (fun _ _ _ => rfl) hP hS hl
    · skip
      refine lv_iconst (v := iI (-1)) hE.1 hE.2.1 dX8_trade_33 (by decide) ?_
      exact kr1 _ ad1 v4 ar4 al4 _ _ _ _ rfl ⟨⟨-1, by omega, rfl⟩, hI, fun i j h => ((hq4 i j (fl_out (by decide) h)).trans (hfb3 i j h))⟩ had hN (fun i hi => hA i hi) hP hS dX8_trade_34
  · skip
    refine lv_iload_n hE.1 hE.2.1 dX8_trade_9 rfl (lv_at hl 0 rfl) ?_
    exact kr0 _ _ _ rfl ⟨⟨z1, by omega, rfl⟩, hI, fun _ _ _ => rfl⟩ dX8_trade_10

set_option maxHeartbeats 4000000 in
set_option maxRecDepth 100000 in
theorem h_X8_blunder (l : Launch) (D : va_G) (K : Nat → ClassId) (ad : Nat → Nat) (v ar : sI) (al : sL) (hI : XI v) (H0 : Heap) : Met l yX8_blunder (wM yX8_blunder cX8_blunder 2 (some .int)) (rmC 26 1 36880) (va_Pc [.ref (ad 0)] (fPre2 D K ad H0 v ar al)) (va_Qi (fun (r : Int32) (u : Option (Nat → Nat) × sT) => (∃ z : Int, (-2147483648 ≤ z ∧ z ≤ 2147483647) ∧ r = iI z) ∧ XI u.2.1 ∧ FLs v u.2.1) (bF2 D K ad H0) (aF ad H0.size)) 1 36880 (aF ad H0.size) := by
  refine s_metF2 (by decide) (Nat.le_of_ble_eq_true rfl) ?_
  intro p e s m below meth c ls args Q hE hsz hB hl kr0 kr1
  subst hsz
  have hE : CallFix p m c cX8_blunder 2 s args tbG "TaleCourt" := hE
  obtain ⟨hP, hK, hN⟩ := hB
  obtain ⟨AF, hAF⟩ : ∃ A, A = aF ad s.heap.size := ⟨_, rfl⟩
  rw [← hAF] at kr1
  have hA : ∀ i, i < 132 → AF (ad i) := fun i hi => by rw [hAF]; exact Or.inl ⟨i, hi, rfl⟩
  have hA0 : ∀ q, s.heap.size ≤ q → AF q := fun q h => by rw [hAF]; exact Or.inr h
  have hS : va_S AF s.heap s.heap [] := va_S.rf
  have hl : lv_has ls 2 [(0, .ref (ad 0))] := hl
  refine lv_aload_n hE.1 hE.2.1 dX8_blunder_0 rfl (lv_at hl 0 rfl) ?_
  refine x_vp (nn := 0) (As := []) (rest := []) hE (s_X8_gameBar_0 l D K ad none 132 (by decide) v ar al hI  ) wPre_blind (wPre_now hK hN hP) (x_recv hK hP 0 (by decide) (xG_8 rfl) rfl) rfl mw_1027 mw_1029 mw_30 mw_114 mw_1030 (by decide +kernel) ⟨by decide, by decide⟩ hl.1 rfl (Nat.le_of_ble_eq_true rfl) ⟨Nat.le_of_ble_eq_true rfl, Nat.le_of_ble_eq_true rfl⟩ dX8_blunder_1 (fun r1 hr1 => ?_)
  obtain ⟨z1, hz1, rfl⟩ := hr1
  refine lv_istore_n (lv' := [(1, .int (iI (z1))), (0, .ref (ad 0))]) hE.1 hE.2.1 dX8_blunder_4 rfl hl (by decide) rfl (fun ls hl => ?_)
  refine lv_iload_n hE.1 hE.2.1 dX8_blunder_5 rfl (lv_at hl 0 rfl) ?_
  refine s_if_eq (a := z1) (tgt := 11) hE.1 hE.2.1 (by omega) dX8_blunder_6 (by decide) (fun c2 => ?_) (fun c2 => ?_)
  · skip
    refine lv_aload_n hE.1 hE.2.1 dX8_blunder_11 rfl (lv_at hl 1 rfl) ?_
    refine x_get (x := .ref (ad 56)) hE hK hP 0 (by decide) (xG_8 rfl) rfl hin8 7 (by decide) mw_487 rfl dX8_blunder_12 ?_
    refine lv_aload_n hE.1 hE.2.1 dX8_blunder_15 rfl (lv_at hl 1 rfl) ?_
    refine x_get (x := .ref (ad 23)) hE hK hP 0 (by decide) (xG_8 rfl) rfl hin8 3 (by decide) mw_483 rfl dX8_blunder_16 ?_
    have hsub := aF_sub hS hA0 hA
    refine a_viF (nn := 1) (As := [.ref (ad 23)]) (rest := []) hE hK hN hP hS hA0 hA (e_X2_firstBlunder l D K ad v ar al hI _ ) (x_recv hK hP 56 (by decide) (xG_2 rfl) rfl) rfl mw_1112 mw_1113 mw_1114 mw_120 mw_1115 (by decide +kernel) ⟨by decide, by decide⟩ hl.1 rfl (Nat.le_of_ble_eq_true rfl) ⟨Nat.le_of_ble_eq_true rfl, Nat.le_of_ble_eq_true rfl⟩ dX8_blunder_19 (fun r3 u3 t3 H locs ht3 hp3 hb3 hS => ?_)
    obtain ⟨o3, v3, ar3, al3⟩ := u3
    obtain ⟨⟨z3, hz3, rfl⟩, ⟨ad1, ho3⟩, hI, hfb3⟩ := hp3
    have ho3 : o3 = some ad1 := ho3
    subst ho3
    have hI : XI v3 := hI
    obtain ⟨had, hN, hA1, hP⟩ := hb3
    have hP : va_P D xcl (wW ad1 (xG ad1 K (some (ad1 132))) 133 v3 ar3 al3) H := by rw [← ht3]; exact hP
    rw [← had 0 (by decide)] at hl
    replace hA : ∀ i, i < 133 → AF (ad1 i) := fun i hi => hsub _ (hA1 i hi)
    exact kr1 _ ad1 v3 ar3 al3 _ _ _ _ rfl ⟨⟨z3, by omega, rfl⟩, hI, fun i j h => (hfb3 i j h)⟩ had hN (fun i hi => hA i hi) hP hS dX8_blunder_22
  · skip
    refine lv_iload_n hE.1 hE.2.1 dX8_blunder_9 rfl (lv_at hl 0 rfl) ?_
    exact kr0 _ _ _ rfl ⟨⟨z1, by omega, rfl⟩, hI, fun _ _ _ => rfl⟩ dX8_blunder_10

