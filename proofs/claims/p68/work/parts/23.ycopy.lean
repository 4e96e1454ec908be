def CPI (ar : sI) (P : Nat) (A B y : Int) (arl : sI) : Prop := (∀ i, i ≠ P → arl i = ar i) ∧ ∀ j : Nat, arl P j = if B ≤ (j : Int) ∧ (j : Int) < B + y then ar P (A + ((j : Int) - B)).toNat else ar P j
theorem CPI_0 (ar : sI) (P : Nat) (A B : Int) : CPI ar P A B 0 ar := ⟨fun _ _ => rfl, fun j => by rw [if_neg (by omega)]⟩
theorem cp_clamp {i : Int} (h : 0 ≤ i ∧ i ≤ 2147483647) : (iI i).toNatClampNeg = i.toNat := by
  have e : (iI i).toNatClampNeg = (iI i).toInt.toNat := rfl
  rw [e, iI_toInt (by omega)]
theorem CPI_step {ar arl ar' : sI} {P : Nat} {A B y z : Int} (h : CPI ar P A B y arl) {i1 i2 : Int} (ez : arl P (iI i1).toNatClampNeg = iI z) (ha : ar' = va_up arl P (upd (arl P) (iI i2).toNatClampNeg (iI z))) (h1 : i1 = A + y) (h2 : i2 = B + y) (hb : 0 ≤ A ∧ A ≤ 1000 ∧ 0 ≤ B ∧ B ≤ 1000 ∧ 0 ≤ y ∧ y ≤ 1000) (hd : A + y < B ∨ B ≤ A) : CPI ar P A B (y + 1) ar' := by
  subst h1 h2
  rw [cp_clamp (by omega)] at ez ha
  refine ⟨fun i hi => (upa_ne ha i hi).trans (h.1 i hi), fun j => ?_⟩
  by_cases q : j = (B + y).toNat
  · rw [upa_at ha q, if_pos (by omega), ← ez, h.2, if_neg (by omega)]
    congr 1
    omega
  · rw [upa_idx ha q, h.2]
    by_cases c : B ≤ (j : Int) ∧ (j : Int) < B + y
    · rw [if_pos c, if_pos (by omega)]
    · rw [if_neg c, if_neg (by omega)]
theorem gTold_congr {f g : Nat → Int32} : ∀ {n : Nat}, (∀ k, k < n → f k = g k) → gTold f n = gTold g n
  | 0, _ => rfl
  | n + 1, h => by
    show (if f n = 9 then gTold f n else gTold f n ||| 2 ^ (f n).toInt.toNat) = (if g n = 9 then gTold g n else gTold g n ||| 2 ^ (g n).toInt.toNat)
    rw [h n (by omega), gTold_congr (n := n) (fun k hk => h k (by omega))]
theorem gSil_congr {f g : Nat → Int32} {T t : Nat} : ∀ {n : Nat}, (∀ k, k < n → f k = g k) → gSil f T t n = gSil g T t n
  | 0, _ => rfl
  | n + 1, h => by
    show gSil f T t n + (if f n = 9 ∧ n % T = t then 1 else 0) = gSil g T t n + (if g n = 9 ∧ n % T = t then 1 else 0)
    rw [h n (by omega), gSil_congr (n := n) (fun k hk => h k (by omega))]
theorem gGood_congr {f g : Nat → Int32} {T S n : Nat} (h : ∀ k, k < n → f k = g k) (hg : gGood f T S n) : gGood g T S n := fun k hk => by
  have q := hg k hk
  rw [h k hk, gTold_congr (fun i hi => h i (by omega)), gSil_congr (fun i hi => h i (by omega))] at q
  exact q
theorem YI_v {v v' ar : sI} (h : YI v ar) (e : ∀ i j : Nat, v' i j = v i j) : YI v' ar := by
  have q : v' = v := funext fun i => funext fun j => e i j
  rw [q]; exact h
theorem YI_copy {v ar ar1 ar2 ar3 ar4 ar5 : sI} {a b : Int} (h : YI v ar) (h1 : CPI ar 6 (a) (b) 1 ar1) (h2 : CPI ar1 7 (6 * a) (6 * b) 6 ar2) (h3 : CPI ar2 8 (81 * a) (81 * b) 81 ar3) (h4 : CPI ar3 9 (16 * a) (16 * b) 16 ar4) (h5 : CPI ar4 10 (18 * a) (18 * b) 18 ar5) (ha : 0 ≤ a ∧ a ≤ 4) (hb : 0 ≤ b ∧ b ≤ 3) : YI v ar5 := by
  obtain ⟨a, rfl⟩ := Int.eq_ofNat_of_zero_le ha.1
  obtain ⟨b, rfl⟩ := Int.eq_ofNat_of_zero_le hb.1
  obtain ⟨x, ⟨b1, b2, b7, b10, b12⟩, c0, c⟩ := h
  have o : ∀ p, p ≠ 6 → p ≠ 7 → p ≠ 8 → p ≠ 9 → p ≠ 10 → ar5 p = ar p := fun p p6 p7 p8 p9 p10 => by
    rw [h5.1 p p10, h4.1 p p9, h3.1 p p8, h2.1 p p7, h1.1 p p6]
  have e6 : ∀ j, ar5 6 j = if j = b then ar 6 a else ar 6 j := fun j => by
    rw [h5.1 6 (by decide), h4.1 6 (by decide), h3.1 6 (by decide), h2.1 6 (by decide), h1.2]
    by_cases q : j = b
    · rw [if_pos q, if_pos (by omega)]; congr 1; omega
    · rw [if_neg q, if_neg (by omega)]
  have e7 : ∀ j, ar5 7 j = if 6 * b ≤ j ∧ j < 6 * b + 6 then ar 7 (6 * a + (j - 6 * b)) else ar 7 j := fun j => by
    rw [h5.1 7 (by decide), h4.1 7 (by decide), h3.1 7 (by decide), h2.2, h1.1 7 (by decide)]
    by_cases q : 6 * b ≤ j ∧ j < 6 * b + 6
    · rw [if_pos q, if_pos (by omega)]; congr 1; omega
    · rw [if_neg q, if_neg (by omega)]
  have e10 : ∀ j, ar5 10 j = if 18 * b ≤ j ∧ j < 18 * b + 18 then ar 10 (18 * a + (j - 18 * b)) else ar 10 j := fun j => by
    rw [h5.2, h4.1 10 (by decide), h3.1 10 (by decide), h2.1 10 (by decide), h1.1 10 (by decide)]
    by_cases q : 18 * b ≤ j ∧ j < 18 * b + 18
    · rw [if_pos q, if_pos (by omega)]; congr 1; omega
    · rw [if_neg q, if_neg (by omega)]
  refine ⟨x, ⟨by rw [o 1 (by decide) (by decide) (by decide) (by decide) (by decide)]; exact b1, by rw [o 2 (by decide) (by decide) (by decide) (by decide) (by decide)]; exact b2, fun j => ?_, fun j => ?_, by rw [o 12 (by decide) (by decide) (by decide) (by decide) (by decide)]; exact b12⟩, ?_, fun r hr => ?_⟩
  · rw [e7]
    by_cases q : 6 * b ≤ j ∧ j < 6 * b + 6
    · rw [if_pos q]
      have t := b7 (6 * a + (j - 6 * b))
      unfold hasB at t ⊢
      rw [show (6 * a + (j - 6 * b)) % 6 = j % 6 by omega] at t
      exact t
    · rw [if_neg q]; exact b7 j
  · rw [e10]
    by_cases q : 18 * b ≤ j ∧ j < 18 * b + 18
    · rw [if_pos q]; exact b10 _
    · rw [if_neg q]; exact b10 j
  · rw [e7, if_neg (by omega)]; exact c0
  · by_cases q : r = b
    · subst q
      have ca := c a (by omega)
      rw [e6, if_pos rfl, e7, if_pos (by omega), e7, if_pos (by omega), e7, if_pos (by omega), e7, if_pos (by omega)]
      rw [show 6 * a + (6 * r + 2 - 6 * r) = 6 * a + 2 by omega, show 6 * a + (6 * r + 5 - 6 * r) = 6 * a + 5 by omega, show 6 * a + (6 * r - 6 * r) = 6 * a by omega, show 6 * a + (6 * r + 1 - 6 * r) = 6 * a + 1 by omega]
      refine ⟨ca.1, gGood_congr (fun k hk => ?_) ca.2⟩
      have hn := (b7 (6 * a + 5)).2.2.2.2 (by omega)
      show ar 10 (18 * a + k) = ar5 10 (18 * r + k)
      rw [e10, if_pos (by omega), show 18 * a + (18 * r + k - 18 * r) = 18 * a + k by omega]
    · rw [e6, if_neg q, e7, if_neg (by omega), e7, if_neg (by omega), e7, if_neg (by omega), e7, if_neg (by omega)]
      have cr := c r hr
      refine ⟨cr.1, gGood_congr (fun k hk => ?_) cr.2⟩
      have hn := (b7 (6 * r + 5)).2.2.2.2 (by omega)
      show ar 10 (18 * r + k) = ar5 10 (18 * r + k)
      rw [e10, if_neg (by omega)]

theorem dX9_copyRow_0 : decode cX9_copyRow 0 = .ok (.iconst 0, 1) := by decide +kernel
theorem dX9_copyRow_1 : decode cX9_copyRow 1 = .ok (.istore 4, 2) := by decide +kernel
theorem dX9_copyRow_3 : decode cX9_copyRow 3 = .ok (.iload 4, 2) := by decide +kernel
theorem dX9_copyRow_5 : decode cX9_copyRow 5 = .ok (.iload_n 1, 1) := by decide +kernel
theorem dX9_copyRow_6 : decode cX9_copyRow 6 = .ok (.if_icmp .ge 25, 3) := by decide +kernel
theorem dX9_copyRow_9 : decode cX9_copyRow 9 = .ok (.aload_n 0, 1) := by decide +kernel
theorem dX9_copyRow_10 : decode cX9_copyRow 10 = .ok (.iload_n 1, 1) := by decide +kernel
theorem dX9_copyRow_11 : decode cX9_copyRow 11 = .ok (.iload_n 3, 1) := by decide +kernel
theorem dX9_copyRow_12 : decode cX9_copyRow 12 = .ok (.imul, 1) := by decide +kernel
theorem dX9_copyRow_13 : decode cX9_copyRow 13 = .ok (.iload 4, 2) := by decide +kernel
theorem dX9_copyRow_15 : decode cX9_copyRow 15 = .ok (.iadd, 1) := by decide +kernel
theorem dX9_copyRow_16 : decode cX9_copyRow 16 = .ok (.aload_n 0, 1) := by decide +kernel
theorem dX9_copyRow_17 : decode cX9_copyRow 17 = .ok (.iload_n 1, 1) := by decide +kernel
theorem dX9_copyRow_18 : decode cX9_copyRow 18 = .ok (.iload_n 2, 1) := by decide +kernel
theorem dX9_copyRow_19 : decode cX9_copyRow 19 = .ok (.imul, 1) := by decide +kernel
theorem dX9_copyRow_20 : decode cX9_copyRow 20 = .ok (.iload 4, 2) := by decide +kernel
theorem dX9_copyRow_22 : decode cX9_copyRow 22 = .ok (.iadd, 1) := by decide +kernel
theorem dX9_copyRow_23 : decode cX9_copyRow 23 = .ok (.iaload, 1) := by decide +kernel
theorem dX9_copyRow_24 : decode cX9_copyRow 24 = .ok (.iastore, 1) := by decide +kernel
theorem dX9_copyRow_25 : decode cX9_copyRow 25 = .ok (.iinc 4 1, 3) := by decide +kernel
theorem dX9_copyRow_28 : decode cX9_copyRow 28 = .ok (.goto (-25), 3) := by decide +kernel
theorem dX9_copyRow_31 : decode cX9_copyRow 31 = .ok (.return_, 1) := by decide +kernel
set_option maxHeartbeats 4000000 in
set_option maxRecDepth 100000 in
theorem s_X9_copyRow_6 (l : Launch) (D : va_G) (K : Nat → ClassId) (ad : Nat → Nat) (v ar : sI) (al : sL) (z_1 : Int) (hz_1 : 0 ≤ z_1 ∧ z_1 ≤ 4) (z_2 : Int) (hz_2 : 0 ≤ z_2 ∧ z_2 ≤ 4) (hyp : z_1 ≠ z_2) : Met l yX9_copyRow (wM yX9_copyRow cX9_copyRow 5 none) (rmD 0) (va_Pc [.ref (ad 6), .int (iI (1)), .int (iI (z_1)), .int (iI (z_2))] (wPre D K ad (yG ad K) 21 v ar al)) (va_Qv (fun u : sT => CPI ar 6 (z_1) (z_2) 1 u.2.1 ∧ (∀ i j : Nat, (i, j) ∉ ([] : List (Nat × Nat)) → u.1 i j = v i j) ∧ (∀ i : Nat, i ∉ ([6] : List Nat) → u.2.1 i = ar i) ∧ (∀ i : Nat, i ∉ ([] : List Nat) → u.2.2 i = al i)) (wB D ad (yG ad K) 21) (inW ad 21)) 0 0 (inW ad 21) := by
  refine s_metV (by decide) (Nat.le_of_ble_eq_true rfl) ?_
  intro p e s m below meth c ls args Q hE hB hl kr
  have hE : CallFix p m c cX9_copyRow 5 s args tbG "TaleCourtModel" := hE
  obtain ⟨hP, hK, hN⟩ := hB
  have hS : va_S (inW ad 21) s.heap s.heap [] := va_S.rf
  have hl : lv_has ls 5 [(0, .ref (ad 6)), (1, .int (iI (1))), (2, .int (iI (z_1))), (3, .int (iI (z_2)))] := hl
  have hI := CPI_0 ar 6 (z_1) (z_2)
  refine lv_iconst (v := iI (0)) hE.1 hE.2.1 dX9_copyRow_0 (by decide) ?_
  refine lv_istore (lv' := [(4, .int (iI (0))), (0, .ref (ad 6)), (1, .int (iI (1))), (2, .int (iI (z_1))), (3, .int (iI (z_2)))]) hE.1 hE.2.1 dX9_copyRow_1 hl (by decide) rfl (fun ls hl => ?_)
  have loop1 : ∀ (k1 : Nat) (y1_4 : Int) (vl1 arl1 : sI) (all1 : sL) (H : Heap) (locs : List Loc) (ls : Array Slot), (1 - y1_4).toNat = k1 → (0 ≤ y1_4 ∧ y1_4 ≤ 1) → CPI ar 6 (z_1) (z_2) y1_4 arl1 → (∀ i j : Nat, (i, j) ∉ ([] : List (Nat × Nat)) → vl1 i j = v i j) → (∀ i : Nat, i ∉ ([6] : List Nat) → arl1 i = ar i) → (∀ i : Nat, i ∉ ([] : List Nat) → all1 i = al i) → va_P D xcl (wW ad (yG ad K) 21 vl1 arl1 all1) H → va_S (inW ad 21) s.heap H locs → lv_has ls 5 [(4, .int (iI (y1_4))), (0, .ref (ad 6)), (1, .int (iI (1))), (2, .int (iI (z_1))), (3, .int (iI (z_2)))] → W p l e (rmD 0) s m args below meth c H locs 0 0 Q (F0 m 3 ls []) := by
    intro k1
    induction k1 using Nat.strongRecOn with
    | _ k1 ih1 =>
      intro y1_4  vl1 arl1 all1 H locs ls hk1 hb_y1_4 hI hfr1 hfa1 hfl1 hP hS hl
      refine lv_iload hE.1 hE.2.1 dX9_copyRow_3 (lv_at hl 0 rfl) ?_
      refine lv_iload_n hE.1 hE.2.1 dX9_copyRow_5 rfl (lv_at hl 2 rfl) ?_
      refine s_icmp_ge (a := y1_4) (b := 1) (tgt := 31) hE.1 hE.2.1 (by omega) (by omega) dX9_copyRow_6 (by decide) (fun c2 => ?_) (fun c2 => ?_)
      · skip
        have hy : y1_4 = 1 := by omega
        rw [hy] at hI
        exact kr vl1 arl1 all1 _ _ _ _ ⟨hI, fun i j h => (hfr1 i j (fun q => h (mem_sub (by decide) q))), fun i h => (hfa1 i (fun q => h (mem_subn (by decide) q))), fun i h => (hfl1 i (fun q => h (mem_subn (by decide) q)))⟩ hP hS dX9_copyRow_31
      · skip
        refine lv_aload_n hE.1 hE.2.1 dX9_copyRow_9 rfl (lv_at hl 1 rfl) ?_
        refine lv_iload_n hE.1 hE.2.1 dX9_copyRow_10 rfl (lv_at hl 2 rfl) ?_
        refine lv_iload_n hE.1 hE.2.1 dX9_copyRow_11 rfl (lv_at hl 4 rfl) ?_
        refine lv_imul hE.1 hE.2.1 dX9_copyRow_12 ?_
        refine x_top (y := iI (z_2)) ((iI_mul (1) (z_2)).trans (congrArg iI (by omega))) ?_
        refine lv_iload hE.1 hE.2.1 dX9_copyRow_13 (lv_at hl 0 rfl) ?_
        refine lv_iadd hE.1 hE.2.1 dX9_copyRow_15 ?_
        refine x_top (y := iI (y1_4 + z_2)) ((iI_add (z_2) (y1_4)).trans (congrArg iI (by omega))) ?_
        refine lv_aload_n hE.1 hE.2.1 dX9_copyRow_16 rfl (lv_at hl 1 rfl) ?_
        refine lv_iload_n hE.1 hE.2.1 dX9_copyRow_17 rfl (lv_at hl 2 rfl) ?_
        refine lv_iload_n hE.1 hE.2.1 dX9_copyRow_18 rfl (lv_at hl 3 rfl) ?_
        refine lv_imul hE.1 hE.2.1 dX9_copyRow_19 ?_
        refine x_top (y := iI (z_1)) ((iI_mul (1) (z_1)).trans (congrArg iI (by omega))) ?_
        refine lv_iload hE.1 hE.2.1 dX9_copyRow_20 (lv_at hl 0 rfl) ?_
        refine lv_iadd hE.1 hE.2.1 dX9_copyRow_22 ?_
        refine x_top (y := iI (y1_4 + z_1)) ((iI_add (z_1) (y1_4)).trans (congrArg iI (by omega))) ?_
        refine x_iald (j := iI (y1_4 + z_1)) hE hK hP 6 (by decide) (yG_10 rfl) (iI_in (n := 5) (by omega)) dX9_copyRow_23 ?_
        obtain ⟨z4, hz4, ez4⟩ := iI_of (arl1 6 (iI (y1_4 + z_1)).toNatClampNeg)
        refine x_top ez4 ?_
        refine x_iast (j := iI (y1_4 + z_2)) hE hK hN hP hS 6 (by decide) (fun _ => yG_10 rfl) (iI_in (n := 5) (by omega)) dX9_copyRow_24 (fun ar5 H locs ha5 hP hS => ?_)
        have hI := CPI_step hI ez4 ha5 (by omega) (by omega) (by omega) (by omega)
        refine lv_iinc (v := iI (y1_4 + 1)) (lv' := [(4, .int (iI (y1_4 + 1))), (0, .ref (ad 6)), (1, .int (iI (1))), (2, .int (iI (z_1))), (3, .int (iI (z_2)))]) hE.1 hE.2.1 dX9_copyRow_25 hl (k := 0) rfl ((iI_add (y1_4) (1)).trans (congrArg iI (by omega))) (by decide) rfl (fun ls hl => ?_)
        refine lv_goto (tgt := 3) hE.1 hE.2.1 dX9_copyRow_28 (by decide) ?_
        exact ih1 _ (by omega) (y1_4 + 1)  vl1 ar5 all1 _ _ _ rfl (by omega)  hI (fun i j h => (hfr1 i j h)) (fun i h => ((upx_ne ha5 i (fun q => h (by rw [q]; decide))).trans (hfa1 i h))) (fun i h => (hfl1 i h)) hP hS (lv_sub hl [0, 1, 2, 3, 4] rfl)
  exact loop1 _ (0)  v ar al _ _ _ rfl (by omega)  hI (fun _ _ _ => rfl) (fun _ _ => rfl) (fun _ _ => rfl) hP hS hl

set_option maxHeartbeats 4000000 in
set_option maxRecDepth 100000 in
theorem s_X9_copyRow_7 (l : Launch) (D : va_G) (K : Nat → ClassId) (ad : Nat → Nat) (v ar : sI) (al : sL) (z_1 : Int) (hz_1 : 0 ≤ z_1 ∧ z_1 ≤ 4) (z_2 : Int) (hz_2 : 0 ≤ z_2 ∧ z_2 ≤ 4) (hyp : z_1 ≠ z_2) : Met l yX9_copyRow (wM yX9_copyRow cX9_copyRow 5 none) (rmD 0) (va_Pc [.ref (ad 7), .int (iI (6)), .int (iI (z_1)), .int (iI (z_2))] (wPre D K ad (yG ad K) 21 v ar al)) (va_Qv (fun u : sT => CPI ar 7 (6 * z_1) (6 * z_2) 6 u.2.1 ∧ (∀ i j : Nat, (i, j) ∉ ([] : List (Nat × Nat)) → u.1 i j = v i j) ∧ (∀ i : Nat, i ∉ ([7] : List Nat) → u.2.1 i = ar i) ∧ (∀ i : Nat, i ∉ ([] : List Nat) → u.2.2 i = al i)) (wB D ad (yG ad K) 21) (inW ad 21)) 0 0 (inW ad 21) := by
  refine s_metV (by decide) (Nat.le_of_ble_eq_true rfl) ?_
  intro p e s m below meth c ls args Q hE hB hl kr
  have hE : CallFix p m c cX9_copyRow 5 s args tbG "TaleCourtModel" := hE
  obtain ⟨hP, hK, hN⟩ := hB
  have hS : va_S (inW ad 21) s.heap s.heap [] := va_S.rf
  have hl : lv_has ls 5 [(0, .ref (ad 7)), (1, .int (iI (6))), (2, .int (iI (z_1))), (3, .int (iI (z_2)))] := hl
  have hI := CPI_0 ar 7 (6 * z_1) (6 * z_2)
  refine lv_iconst (v := iI (0)) hE.1 hE.2.1 dX9_copyRow_0 (by decide) ?_
  refine lv_istore (lv' := [(4, .int (iI (0))), (0, .ref (ad 7)), (1, .int (iI (6))), (2, .int (iI (z_1))), (3, .int (iI (z_2)))]) hE.1 hE.2.1 dX9_copyRow_1 hl (by decide) rfl (fun ls hl => ?_)
  have loop1 : ∀ (k1 : Nat) (y1_4 : Int) (vl1 arl1 : sI) (all1 : sL) (H : Heap) (locs : List Loc) (ls : Array Slot), (6 - y1_4).toNat = k1 → (0 ≤ y1_4 ∧ y1_4 ≤ 6) → CPI ar 7 (6 * z_1) (6 * z_2) y1_4 arl1 → (∀ i j : Nat, (i, j) ∉ ([] : List (Nat × Nat)) → vl1 i j = v i j) → (∀ i : Nat, i ∉ ([7] : List Nat) → arl1 i = ar i) → (∀ i : Nat, i ∉ ([] : List Nat) → all1 i = al i) → va_P D xcl (wW ad (yG ad K) 21 vl1 arl1 all1) H → va_S (inW ad 21) s.heap H locs → lv_has ls 5 [(4, .int (iI (y1_4))), (0, .ref (ad 7)), (1, .int (iI (6))), (2, .int (iI (z_1))), (3, .int (iI (z_2)))] → W p l e (rmD 0) s m args below meth c H locs 0 0 Q (F0 m 3 ls []) := by
    intro k1
    induction k1 using Nat.strongRecOn with
    | _ k1 ih1 =>
      intro y1_4  vl1 arl1 all1 H locs ls hk1 hb_y1_4 hI hfr1 hfa1 hfl1 hP hS hl
      refine lv_iload hE.1 hE.2.1 dX9_copyRow_3 (lv_at hl 0 rfl) ?_
      refine lv_iload_n hE.1 hE.2.1 dX9_copyRow_5 rfl (lv_at hl 2 rfl) ?_
      refine s_icmp_ge (a := y1_4) (b := 6) (tgt := 31) hE.1 hE.2.1 (by omega) (by omega) dX9_copyRow_6 (by decide) (fun c2 => ?_) (fun c2 => ?_)
      · skip
        have hy : y1_4 = 6 := by omega
        rw [hy] at hI
        exact kr vl1 arl1 all1 _ _ _ _ ⟨hI, fun i j h => (hfr1 i j (fun q => h (mem_sub (by decide) q))), fun i h => (hfa1 i (fun q => h (mem_subn (by decide) q))), fun i h => (hfl1 i (fun q => h (mem_subn (by decide) q)))⟩ hP hS dX9_copyRow_31
      · skip
        refine lv_aload_n hE.1 hE.2.1 dX9_copyRow_9 rfl (lv_at hl 1 rfl) ?_
        refine lv_iload_n hE.1 hE.2.1 dX9_copyRow_10 rfl (lv_at hl 2 rfl) ?_
        refine lv_iload_n hE.1 hE.2.1 dX9_copyRow_11 rfl (lv_at hl 4 rfl) ?_
        refine lv_imul hE.1 hE.2.1 dX9_copyRow_12 ?_
        refine x_top (y := iI (6 * z_2)) ((iI_mul (6) (z_2)).trans (congrArg iI (by omega))) ?_
        refine lv_iload hE.1 hE.2.1 dX9_copyRow_13 (lv_at hl 0 rfl) ?_
        refine lv_iadd hE.1 hE.2.1 dX9_copyRow_15 ?_
        refine x_top (y := iI (y1_4 + 6 * z_2)) ((iI_add (6 * z_2) (y1_4)).trans (congrArg iI (by omega))) ?_
        refine lv_aload_n hE.1 hE.2.1 dX9_copyRow_16 rfl (lv_at hl 1 rfl) ?_
        refine lv_iload_n hE.1 hE.2.1 dX9_copyRow_17 rfl (lv_at hl 2 rfl) ?_
        refine lv_iload_n hE.1 hE.2.1 dX9_copyRow_18 rfl (lv_at hl 3 rfl) ?_
        refine lv_imul hE.1 hE.2.1 dX9_copyRow_19 ?_
        refine x_top (y := iI (6 * z_1)) ((iI_mul (6) (z_1)).trans (congrArg iI (by omega))) ?_
        refine lv_iload hE.1 hE.2.1 dX9_copyRow_20 (lv_at hl 0 rfl) ?_
        refine lv_iadd hE.1 hE.2.1 dX9_copyRow_22 ?_
        refine x_top (y := iI (y1_4 + 6 * z_1)) ((iI_add (6 * z_1) (y1_4)).trans (congrArg iI (by omega))) ?_
        refine x_iald (j := iI (y1_4 + 6 * z_1)) hE hK hP 7 (by decide) (yG_10 rfl) (iI_in (n := 30) (by omega)) dX9_copyRow_23 ?_
        obtain ⟨z4, hz4, ez4⟩ := iI_of (arl1 7 (iI (y1_4 + 6 * z_1)).toNatClampNeg)
        refine x_top ez4 ?_
        refine x_iast (j := iI (y1_4 + 6 * z_2)) hE hK hN hP hS 7 (by decide) (fun _ => yG_10 rfl) (iI_in (n := 30) (by omega)) dX9_copyRow_24 (fun ar5 H locs ha5 hP hS => ?_)
        have hI := CPI_step hI ez4 ha5 (by omega) (by omega) (by omega) (by omega)
        refine lv_iinc (v := iI (y1_4 + 1)) (lv' := [(4, .int (iI (y1_4 + 1))), (0, .ref (ad 7)), (1, .int (iI (6))), (2, .int (iI (z_1))), (3, .int (iI (z_2)))]) hE.1 hE.2.1 dX9_copyRow_25 hl (k := 0) rfl ((iI_add (y1_4) (1)).trans (congrArg iI (by omega))) (by decide) rfl (fun ls hl => ?_)
        refine lv_goto (tgt := 3) hE.1 hE.2.1 dX9_copyRow_28 (by decide) ?_
        exact ih1 _ (by omega) (y1_4 + 1)  vl1 ar5 all1 _ _ _ rfl (by omega)  hI (fun i j h => (hfr1 i j h)) (fun i h => ((upx_ne ha5 i (fun q => h (by rw [q]; decide))).trans (hfa1 i h))) (fun i h => (hfl1 i h)) hP hS (lv_sub hl [0, 1, 2, 3, 4] rfl)
  exact loop1 _ (0)  v ar al _ _ _ rfl (by omega)  hI (fun _ _ _ => rfl) (fun _ _ => rfl) (fun _ _ => rfl) hP hS hl

set_option maxHeartbeats 4000000 in
set_option maxRecDepth 100000 in
theorem s_X9_copyRow_8 (l : Launch) (D : va_G) (K : Nat → ClassId) (ad : Nat → Nat) (v ar : sI) (al : sL) (z_1 : Int) (hz_1 : 0 ≤ z_1 ∧ z_1 ≤ 4) (z_2 : Int) (hz_2 : 0 ≤ z_2 ∧ z_2 ≤ 4) (hyp : z_1 ≠ z_2) : Met l yX9_copyRow (wM yX9_copyRow cX9_copyRow 5 none) (rmD 0) (va_Pc [.ref (ad 8), .int (iI (81)), .int (iI (z_1)), .int (iI (z_2))] (wPre D K ad (yG ad K) 21 v ar al)) (va_Qv (fun u : sT => CPI ar 8 (81 * z_1) (81 * z_2) 81 u.2.1 ∧ (∀ i j : Nat, (i, j) ∉ ([] : List (Nat × Nat)) → u.1 i j = v i j) ∧ (∀ i : Nat, i ∉ ([8] : List Nat) → u.2.1 i = ar i) ∧ (∀ i : Nat, i ∉ ([] : List Nat) → u.2.2 i = al i)) (wB D ad (yG ad K) 21) (inW ad 21)) 0 0 (inW ad 21) := by
  refine s_metV (by decide) (Nat.le_of_ble_eq_true rfl) ?_
  intro p e s m below meth c ls args Q hE hB hl kr
  have hE : CallFix p m c cX9_copyRow 5 s args tbG "TaleCourtModel" := hE
  obtain ⟨hP, hK, hN⟩ := hB
  have hS : va_S (inW ad 21) s.heap s.heap [] := va_S.rf
  have hl : lv_has ls 5 [(0, .ref (ad 8)), (1, .int (iI (81))), (2, .int (iI (z_1))), (3, .int (iI (z_2)))] := hl
  have hI := CPI_0 ar 8 (81 * z_1) (81 * z_2)
  refine lv_iconst (v := iI (0)) hE.1 hE.2.1 dX9_copyRow_0 (by decide) ?_
  refine lv_istore (lv' := [(4, .int (iI (0))), (0, .ref (ad 8)), (1, .int (iI (81))), (2, .int (iI (z_1))), (3, .int (iI (z_2)))]) hE.1 hE.2.1 dX9_copyRow_1 hl (by decide) rfl (fun ls hl => ?_)
  have loop1 : ∀ (k1 : Nat) (y1_4 : Int) (vl1 arl1 : sI) (all1 : sL) (H : Heap) (locs : List Loc) (ls : Array Slot), (81 - y1_4).toNat = k1 → (0 ≤ y1_4 ∧ y1_4 ≤ 81) → CPI ar 8 (81 * z_1) (81 * z_2) y1_4 arl1 → (∀ i j : Nat, (i, j) ∉ ([] : List (Nat × Nat)) → vl1 i j = v i j) → (∀ i : Nat, i ∉ ([8] : List Nat) → arl1 i = ar i) → (∀ i : Nat, i ∉ ([] : List Nat) → all1 i = al i) → va_P D xcl (wW ad (yG ad K) 21 vl1 arl1 all1) H → va_S (inW ad 21) s.heap H locs → lv_has ls 5 [(4, .int (iI (y1_4))), (0, .ref (ad 8)), (1, .int (iI (81))), (2, .int (iI (z_1))), (3, .int (iI (z_2)))] → W p l e (rmD 0) s m args below meth c H locs 0 0 Q (F0 m 3 ls []) := by
    intro k1
    induction k1 using Nat.strongRecOn with
    | _ k1 ih1 =>
      intro y1_4  vl1 arl1 all1 H locs ls hk1 hb_y1_4 hI hfr1 hfa1 hfl1 hP hS hl
      refine lv_iload hE.1 hE.2.1 dX9_copyRow_3 (lv_at hl 0 rfl) ?_
      refine lv_iload_n hE.1 hE.2.1 dX9_copyRow_5 rfl (lv_at hl 2 rfl) ?_
      refine s_icmp_ge (a := y1_4) (b := 81) (tgt := 31) hE.1 hE.2.1 (by omega) (by omega) dX9_copyRow_6 (by decide) (fun c2 => ?_) (fun c2 => ?_)
      · skip
        have hy : y1_4 = 81 := by omega
        rw [hy] at hI
        exact kr vl1 arl1 all1 _ _ _ _ ⟨hI, fun i j h => (hfr1 i j (fun q => h (mem_sub (by decide) q))), fun i h => (hfa1 i (fun q => h (mem_subn (by decide) q))), fun i h => (hfl1 i (fun q => h (mem_subn (by decide) q)))⟩ hP hS dX9_copyRow_31
      · skip
        refine lv_aload_n hE.1 hE.2.1 dX9_copyRow_9 rfl (lv_at hl 1 rfl) ?_
        refine lv_iload_n hE.1 hE.2.1 dX9_copyRow_10 rfl (lv_at hl 2 rfl) ?_
        refine lv_iload_n hE.1 hE.2.1 dX9_copyRow_11 rfl (lv_at hl 4 rfl) ?_
        refine lv_imul hE.1 hE.2.1 dX9_copyRow_12 ?_
        refine x_top (y := iI (81 * z_2)) ((iI_mul (81) (z_2)).trans (congrArg iI (by omega))) ?_
        refine lv_iload hE.1 hE.2.1 dX9_copyRow_13 (lv_at hl 0 rfl) ?_
        refine lv_iadd hE.1 hE.2.1 dX9_copyRow_15 ?_
        refine x_top (y := iI (y1_4 + 81 * z_2)) ((iI_add (81 * z_2) (y1_4)).trans (congrArg iI (by omega))) ?_
        refine lv_aload_n hE.1 hE.2.1 dX9_copyRow_16 rfl (lv_at hl 1 rfl) ?_
        refine lv_iload_n hE.1 hE.2.1 dX9_copyRow_17 rfl (lv_at hl 2 rfl) ?_
        refine lv_iload_n hE.1 hE.2.1 dX9_copyRow_18 rfl (lv_at hl 3 rfl) ?_
        refine lv_imul hE.1 hE.2.1 dX9_copyRow_19 ?_
        refine x_top (y := iI (81 * z_1)) ((iI_mul (81) (z_1)).trans (congrArg iI (by omega))) ?_
        refine lv_iload hE.1 hE.2.1 dX9_copyRow_20 (lv_at hl 0 rfl) ?_
        refine lv_iadd hE.1 hE.2.1 dX9_copyRow_22 ?_
        refine x_top (y := iI (y1_4 + 81 * z_1)) ((iI_add (81 * z_1) (y1_4)).trans (congrArg iI (by omega))) ?_
        refine x_iald (j := iI (y1_4 + 81 * z_1)) hE hK hP 8 (by decide) (yG_10 rfl) (iI_in (n := 405) (by omega)) dX9_copyRow_23 ?_
        obtain ⟨z4, hz4, ez4⟩ := iI_of (arl1 8 (iI (y1_4 + 81 * z_1)).toNatClampNeg)
        refine x_top ez4 ?_
        refine x_iast (j := iI (y1_4 + 81 * z_2)) hE hK hN hP hS 8 (by decide) (fun _ => yG_10 rfl) (iI_in (n := 405) (by omega)) dX9_copyRow_24 (fun ar5 H locs ha5 hP hS => ?_)
        have hI := CPI_step hI ez4 ha5 (by omega) (by omega) (by omega) (by omega)
        refine lv_iinc (v := iI (y1_4 + 1)) (lv' := [(4, .int (iI (y1_4 + 1))), (0, .ref (ad 8)), (1, .int (iI (81))), (2, .int (iI (z_1))), (3, .int (iI (z_2)))]) hE.1 hE.2.1 dX9_copyRow_25 hl (k := 0) rfl ((iI_add (y1_4) (1)).trans (congrArg iI (by omega))) (by decide) rfl (fun ls hl => ?_)
        refine lv_goto (tgt := 3) hE.1 hE.2.1 dX9_copyRow_28 (by decide) ?_
        exact ih1 _ (by omega) (y1_4 + 1)  vl1 ar5 all1 _ _ _ rfl (by omega)  hI (fun i j h => (hfr1 i j h)) (fun i h => ((upx_ne ha5 i (fun q => h (by rw [q]; decide))).trans (hfa1 i h))) (fun i h => (hfl1 i h)) hP hS (lv_sub hl [0, 1, 2, 3, 4] rfl)
  exact loop1 _ (0)  v ar al _ _ _ rfl (by omega)  hI (fun _ _ _ => rfl) (fun _ _ => rfl) (fun _ _ => rfl) hP hS hl

set_option maxHeartbeats 4000000 in
set_option maxRecDepth 100000 in
theorem s_X9_copyRow_9 (l : Launch) (D : va_G) (K : Nat → ClassId) (ad : Nat → Nat) (v ar : sI) (al : sL) (z_1 : Int) (hz_1 : 0 ≤ z_1 ∧ z_1 ≤ 4) (z_2 : Int) (hz_2 : 0 ≤ z_2 ∧ z_2 ≤ 4) (hyp : z_1 ≠ z_2) : Met l yX9_copyRow (wM yX9_copyRow cX9_copyRow 5 none) (rmD 0) (va_Pc [.ref (ad 9), .int (iI (16)), .int (iI (z_1)), .int (iI (z_2))] (wPre D K ad (yG ad K) 21 v ar al)) (va_Qv (fun u : sT => CPI ar 9 (16 * z_1) (16 * z_2) 16 u.2.1 ∧ (∀ i j : Nat, (i, j) ∉ ([] : List (Nat × Nat)) → u.1 i j = v i j) ∧ (∀ i : Nat, i ∉ ([9] : List Nat) → u.2.1 i = ar i) ∧ (∀ i : Nat, i ∉ ([] : List Nat) → u.2.2 i = al i)) (wB D ad (yG ad K) 21) (inW ad 21)) 0 0 (inW ad 21) := by
  refine s_metV (by decide) (Nat.le_of_ble_eq_true rfl) ?_
  intro p e s m below meth c ls args Q hE hB hl kr
  have hE : CallFix p m c cX9_copyRow 5 s args tbG "TaleCourtModel" := hE
  obtain ⟨hP, hK, hN⟩ := hB
  have hS : va_S (inW ad 21) s.heap s.heap [] := va_S.rf
  have hl : lv_has ls 5 [(0, .ref (ad 9)), (1, .int (iI (16))), (2, .int (iI (z_1))), (3, .int (iI (z_2)))] := hl
  have hI := CPI_0 ar 9 (16 * z_1) (16 * z_2)
  refine lv_iconst (v := iI (0)) hE.1 hE.2.1 dX9_copyRow_0 (by decide) ?_
  refine lv_istore (lv' := [(4, .int (iI (0))), (0, .ref (ad 9)), (1, .int (iI (16))), (2, .int (iI (z_1))), (3, .int (iI (z_2)))]) hE.1 hE.2.1 dX9_copyRow_1 hl (by decide) rfl (fun ls hl => ?_)
  have loop1 : ∀ (k1 : Nat) (y1_4 : Int) (vl1 arl1 : sI) (all1 : sL) (H : Heap) (locs : List Loc) (ls : Array Slot), (16 - y1_4).toNat = k1 → (0 ≤ y1_4 ∧ y1_4 ≤ 16) → CPI ar 9 (16 * z_1) (16 * z_2) y1_4 arl1 → (∀ i j : Nat, (i, j) ∉ ([] : List (Nat × Nat)) → vl1 i j = v i j) → (∀ i : Nat, i ∉ ([9] : List Nat) → arl1 i = ar i) → (∀ i : Nat, i ∉ ([] : List Nat) → all1 i = al i) → va_P D xcl (wW ad (yG ad K) 21 vl1 arl1 all1) H → va_S (inW ad 21) s.heap H locs → lv_has ls 5 [(4, .int (iI (y1_4))), (0, .ref (ad 9)), (1, .int (iI (16))), (2, .int (iI (z_1))), (3, .int (iI (z_2)))] → W p l e (rmD 0) s m args below meth c H locs 0 0 Q (F0 m 3 ls []) := by
    intro k1
    induction k1 using Nat.strongRecOn with
    | _ k1 ih1 =>
      intro y1_4  vl1 arl1 all1 H locs ls hk1 hb_y1_4 hI hfr1 hfa1 hfl1 hP hS hl
      refine lv_iload hE.1 hE.2.1 dX9_copyRow_3 (lv_at hl 0 rfl) ?_
      refine lv_iload_n hE.1 hE.2.1 dX9_copyRow_5 rfl (lv_at hl 2 rfl) ?_
      refine s_icmp_ge (a := y1_4) (b := 16) (tgt := 31) hE.1 hE.2.1 (by omega) (by omega) dX9_copyRow_6 (by decide) (fun c2 => ?_) (fun c2 => ?_)
      · skip
        have hy : y1_4 = 16 := by omega
        rw [hy] at hI
        exact kr vl1 arl1 all1 _ _ _ _ ⟨hI, fun i j h => (hfr1 i j (fun q => h (mem_sub (by decide) q))), fun i h => (hfa1 i (fun q => h (mem_subn (by decide) q))), fun i h => (hfl1 i (fun q => h (mem_subn (by decide) q)))⟩ hP hS dX9_copyRow_31
      · skip
        refine lv_aload_n hE.1 hE.2.1 dX9_copyRow_9 rfl (lv_at hl 1 rfl) ?_
        refine lv_iload_n hE.1 hE.2.1 dX9_copyRow_10 rfl (lv_at hl 2 rfl) ?_
        refine lv_iload_n hE.1 hE.2.1 dX9_copyRow_11 rfl (lv_at hl 4 rfl) ?_
        refine lv_imul hE.1 hE.2.1 dX9_copyRow_12 ?_
        refine x_top (y := iI (16 * z_2)) ((iI_mul (16) (z_2)).trans (congrArg iI (by omega))) ?_
        refine lv_iload hE.1 hE.2.1 dX9_copyRow_13 (lv_at hl 0 rfl) ?_
        refine lv_iadd hE.1 hE.2.1 dX9_copyRow_15 ?_
        refine x_top (y := iI (y1_4 + 16 * z_2)) ((iI_add (16 * z_2) (y1_4)).trans (congrArg iI (by omega))) ?_
        refine lv_aload_n hE.1 hE.2.1 dX9_copyRow_16 rfl (lv_at hl 1 rfl) ?_
        refine lv_iload_n hE.1 hE.2.1 dX9_copyRow_17 rfl (lv_at hl 2 rfl) ?_
        refine lv_iload_n hE.1 hE.2.1 dX9_copyRow_18 rfl (lv_at hl 3 rfl) ?_
        refine lv_imul hE.1 hE.2.1 dX9_copyRow_19 ?_
        refine x_top (y := iI (16 * z_1)) ((iI_mul (16) (z_1)).trans (congrArg iI (by omega))) ?_
        refine lv_iload hE.1 hE.2.1 dX9_copyRow_20 (lv_at hl 0 rfl) ?_
        refine lv_iadd hE.1 hE.2.1 dX9_copyRow_22 ?_
        refine x_top (y := iI (y1_4 + 16 * z_1)) ((iI_add (16 * z_1) (y1_4)).trans (congrArg iI (by omega))) ?_
        refine x_iald (j := iI (y1_4 + 16 * z_1)) hE hK hP 9 (by decide) (yG_10 rfl) (iI_in (n := 80) (by omega)) dX9_copyRow_23 ?_
        obtain ⟨z4, hz4, ez4⟩ := iI_of (arl1 9 (iI (y1_4 + 16 * z_1)).toNatClampNeg)
        refine x_top ez4 ?_
        refine x_iast (j := iI (y1_4 + 16 * z_2)) hE hK hN hP hS 9 (by decide) (fun _ => yG_10 rfl) (iI_in (n := 80) (by omega)) dX9_copyRow_24 (fun ar5 H locs ha5 hP hS => ?_)
        have hI := CPI_step hI ez4 ha5 (by omega) (by omega) (by omega) (by omega)
        refine lv_iinc (v := iI (y1_4 + 1)) (lv' := [(4, .int (iI (y1_4 + 1))), (0, .ref (ad 9)), (1, .int (iI (16))), (2, .int (iI (z_1))), (3, .int (iI (z_2)))]) hE.1 hE.2.1 dX9_copyRow_25 hl (k := 0) rfl ((iI_add (y1_4) (1)).trans (congrArg iI (by omega))) (by decide) rfl (fun ls hl => ?_)
        refine lv_goto (tgt := 3) hE.1 hE.2.1 dX9_copyRow_28 (by decide) ?_
        exact ih1 _ (by omega) (y1_4 + 1)  vl1 ar5 all1 _ _ _ rfl (by omega)  hI (fun i j h => (hfr1 i j h)) (fun i h => ((upx_ne ha5 i (fun q => h (by rw [q]; decide))).trans (hfa1 i h))) (fun i h => (hfl1 i h)) hP hS (lv_sub hl [0, 1, 2, 3, 4] rfl)
  exact loop1 _ (0)  v ar al _ _ _ rfl (by omega)  hI (fun _ _ _ => rfl) (fun _ _ => rfl) (fun _ _ => rfl) hP hS hl

set_option maxHeartbeats 4000000 in
set_option maxRecDepth 100000 in
theorem s_X9_copyRow_10 (l : Launch) (D : va_G) (K : Nat → ClassId) (ad : Nat → Nat) (v ar : sI) (al : sL) (z_1 : Int) (hz_1 : 0 ≤ z_1 ∧ z_1 ≤ 4) (z_2 : Int) (hz_2 : 0 ≤ z_2 ∧ z_2 ≤ 4) (hyp : z_1 ≠ z_2) : Met l yX9_copyRow (wM yX9_copyRow cX9_copyRow 5 none) (rmD 0) (va_Pc [.ref (ad 10), .int (iI (18)), .int (iI (z_1)), .int (iI (z_2))] (wPre D K ad (yG ad K) 21 v ar al)) (va_Qv (fun u : sT => CPI ar 10 (18 * z_1) (18 * z_2) 18 u.2.1 ∧ (∀ i j : Nat, (i, j) ∉ ([] : List (Nat × Nat)) → u.1 i j = v i j) ∧ (∀ i : Nat, i ∉ ([10] : List Nat) → u.2.1 i = ar i) ∧ (∀ i : Nat, i ∉ ([] : List Nat) → u.2.2 i = al i)) (wB D ad (yG ad K) 21) (inW ad 21)) 0 0 (inW ad 21) := by
  refine s_metV (by decide) (Nat.le_of_ble_eq_true rfl) ?_
  intro p e s m below meth c ls args Q hE hB hl kr
  have hE : CallFix p m c cX9_copyRow 5 s args tbG "TaleCourtModel" := hE
  obtain ⟨hP, hK, hN⟩ := hB
  have hS : va_S (inW ad 21) s.heap s.heap [] := va_S.rf
  have hl : lv_has ls 5 [(0, .ref (ad 10)), (1, .int (iI (18))), (2, .int (iI (z_1))), (3, .int (iI (z_2)))] := hl
  have hI := CPI_0 ar 10 (18 * z_1) (18 * z_2)
  refine lv_iconst (v := iI (0)) hE.1 hE.2.1 dX9_copyRow_0 (by decide) ?_
  refine lv_istore (lv' := [(4, .int (iI (0))), (0, .ref (ad 10)), (1, .int (iI (18))), (2, .int (iI (z_1))), (3, .int (iI (z_2)))]) hE.1 hE.2.1 dX9_copyRow_1 hl (by decide) rfl (fun ls hl => ?_)
  have loop1 : ∀ (k1 : Nat) (y1_4 : Int) (vl1 arl1 : sI) (all1 : sL) (H : Heap) (locs : List Loc) (ls : Array Slot), (18 - y1_4).toNat = k1 → (0 ≤ y1_4 ∧ y1_4 ≤ 18) → CPI ar 10 (18 * z_1) (18 * z_2) y1_4 arl1 → (∀ i j : Nat, (i, j) ∉ ([] : List (Nat × Nat)) → vl1 i j = v i j) → (∀ i : Nat, i ∉ ([10] : List Nat) → arl1 i = ar i) → (∀ i : Nat, i ∉ ([] : List Nat) → all1 i = al i) → va_P D xcl (wW ad (yG ad K) 21 vl1 arl1 all1) H → va_S (inW ad 21) s.heap H locs → lv_has ls 5 [(4, .int (iI (y1_4))), (0, .ref (ad 10)), (1, .int (iI (18))), (2, .int (iI (z_1))), (3, .int (iI (z_2)))] → W p l e (rmD 0) s m args below meth c H locs 0 0 Q (F0 m 3 ls []) := by
    intro k1
    induction k1 using Nat.strongRecOn with
    | _ k1 ih1 =>
      intro y1_4  vl1 arl1 all1 H locs ls hk1 hb_y1_4 hI hfr1 hfa1 hfl1 hP hS hl
      refine lv_iload hE.1 hE.2.1 dX9_copyRow_3 (lv_at hl 0 rfl) ?_
      refine lv_iload_n hE.1 hE.2.1 dX9_copyRow_5 rfl (lv_at hl 2 rfl) ?_
      refine s_icmp_ge (a := y1_4) (b := 18) (tgt := 31) hE.1 hE.2.1 (by omega) (by omega) dX9_copyRow_6 (by decide) (fun c2 => ?_) (fun c2 => ?_)
      · skip
        have hy : y1_4 = 18 := by omega
        rw [hy] at hI
        exact kr vl1 arl1 all1 _ _ _ _ ⟨hI, fun i j h => (hfr1 i j (fun q => h (mem_sub (by decide) q))), fun i h => (hfa1 i (fun q => h (mem_subn (by decide) q))), fun i h => (hfl1 i (fun q => h (mem_subn (by decide) q)))⟩ hP hS dX9_copyRow_31
      · skip
        refine lv_aload_n hE.1 hE.2.1 dX9_copyRow_9 rfl (lv_at hl 1 rfl) ?_
        refine lv_iload_n hE.1 hE.2.1 dX9_copyRow_10 rfl (lv_at hl 2 rfl) ?_
        refine lv_iload_n hE.1 hE.2.1 dX9_copyRow_11 rfl (lv_at hl 4 rfl) ?_
        refine lv_imul hE.1 hE.2.1 dX9_copyRow_12 ?_
        refine x_top (y := iI (18 * z_2)) ((iI_mul (18) (z_2)).trans (congrArg iI (by omega))) ?_
        refine lv_iload hE.1 hE.2.1 dX9_copyRow_13 (lv_at hl 0 rfl) ?_
        refine lv_iadd hE.1 hE.2.1 dX9_copyRow_15 ?_
        refine x_top (y := iI (y1_4 + 18 * z_2)) ((iI_add (18 * z_2) (y1_4)).trans (congrArg iI (by omega))) ?_
        refine lv_aload_n hE.1 hE.2.1 dX9_copyRow_16 rfl (lv_at hl 1 rfl) ?_
        refine lv_iload_n hE.1 hE.2.1 dX9_copyRow_17 rfl (lv_at hl 2 rfl) ?_
        refine lv_iload_n hE.1 hE.2.1 dX9_copyRow_18 rfl (lv_at hl 3 rfl) ?_
        refine lv_imul hE.1 hE.2.1 dX9_copyRow_19 ?_
        refine x_top (y := iI (18 * z_1)) ((iI_mul (18) (z_1)).trans (congrArg iI (by omega))) ?_
        refine lv_iload hE.1 hE.2.1 dX9_copyRow_20 (lv_at hl 0 rfl) ?_
        refine lv_iadd hE.1 hE.2.1 dX9_copyRow_22 ?_
        refine x_top (y := iI (y1_4 + 18 * z_1)) ((iI_add (18 * z_1) (y1_4)).trans (congrArg iI (by omega))) ?_
        refine x_iald (j := iI (y1_4 + 18 * z_1)) hE hK hP 10 (by decide) (yG_10 rfl) (iI_in (n := 90) (by omega)) dX9_copyRow_23 ?_
        obtain ⟨z4, hz4, ez4⟩ := iI_of (arl1 10 (iI (y1_4 + 18 * z_1)).toNatClampNeg)
        refine x_top ez4 ?_
        refine x_iast (j := iI (y1_4 + 18 * z_2)) hE hK hN hP hS 10 (by decide) (fun _ => yG_10 rfl) (iI_in (n := 90) (by omega)) dX9_copyRow_24 (fun ar5 H locs ha5 hP hS => ?_)
        have hI := CPI_step hI ez4 ha5 (by omega) (by omega) (by omega) (by omega)
        refine lv_iinc (v := iI (y1_4 + 1)) (lv' := [(4, .int (iI (y1_4 + 1))), (0, .ref (ad 10)), (1, .int (iI (18))), (2, .int (iI (z_1))), (3, .int (iI (z_2)))]) hE.1 hE.2.1 dX9_copyRow_25 hl (k := 0) rfl ((iI_add (y1_4) (1)).trans (congrArg iI (by omega))) (by decide) rfl (fun ls hl => ?_)
        refine lv_goto (tgt := 3) hE.1 hE.2.1 dX9_copyRow_28 (by decide) ?_
        exact ih1 _ (by omega) (y1_4 + 1)  vl1 ar5 all1 _ _ _ rfl (by omega)  hI (fun i j h => (hfr1 i j h)) (fun i h => ((upx_ne ha5 i (fun q => h (by rw [q]; decide))).trans (hfa1 i h))) (fun i h => (hfl1 i h)) hP hS (lv_sub hl [0, 1, 2, 3, 4] rfl)
  exact loop1 _ (0)  v ar al _ _ _ rfl (by omega)  hI (fun _ _ _ => rfl) (fun _ _ => rfl) (fun _ _ => rfl) hP hS hl

theorem dX9_copyCourt_0 : decode cX9_copyCourt 0 = .ok (.aload_n 0, 1) := by decide +kernel
theorem dX9_copyCourt_1 : decode cX9_copyCourt 1 = .ok (.getfield 31, 3) := by decide +kernel
theorem dX9_copyCourt_4 : decode cX9_copyCourt 4 = .ok (.iconst 1, 1) := by decide +kernel
theorem dX9_copyCourt_5 : decode cX9_copyCourt 5 = .ok (.iload_n 1, 1) := by decide +kernel
theorem dX9_copyCourt_6 : decode cX9_copyCourt 6 = .ok (.iload_n 2, 1) := by decide +kernel
theorem dX9_copyCourt_7 : decode cX9_copyCourt 7 = .ok (.invokestatic 249, 3) := by decide +kernel
theorem dX9_copyCourt_10 : decode cX9_copyCourt 10 = .ok (.aload_n 0, 1) := by decide +kernel
theorem dX9_copyCourt_11 : decode cX9_copyCourt 11 = .ok (.getfield 34, 3) := by decide +kernel
theorem dX9_copyCourt_14 : decode cX9_copyCourt 14 = .ok (.bipush 6, 2) := by decide +kernel
theorem dX9_copyCourt_16 : decode cX9_copyCourt 16 = .ok (.iload_n 1, 1) := by decide +kernel
theorem dX9_copyCourt_17 : decode cX9_copyCourt 17 = .ok (.iload_n 2, 1) := by decide +kernel
theorem dX9_copyCourt_18 : decode cX9_copyCourt 18 = .ok (.invokestatic 249, 3) := by decide +kernel
theorem dX9_copyCourt_21 : decode cX9_copyCourt 21 = .ok (.aload_n 0, 1) := by decide +kernel
theorem dX9_copyCourt_22 : decode cX9_copyCourt 22 = .ok (.getfield 37, 3) := by decide +kernel
theorem dX9_copyCourt_25 : decode cX9_copyCourt 25 = .ok (.bipush 81, 2) := by decide +kernel
theorem dX9_copyCourt_27 : decode cX9_copyCourt 27 = .ok (.iload_n 1, 1) := by decide +kernel
theorem dX9_copyCourt_28 : decode cX9_copyCourt 28 = .ok (.iload_n 2, 1) := by decide +kernel
theorem dX9_copyCourt_29 : decode cX9_copyCourt 29 = .ok (.invokestatic 249, 3) := by decide +kernel
theorem dX9_copyCourt_32 : decode cX9_copyCourt 32 = .ok (.aload_n 0, 1) := by decide +kernel
theorem dX9_copyCourt_33 : decode cX9_copyCourt 33 = .ok (.getfield 40, 3) := by decide +kernel
theorem dX9_copyCourt_36 : decode cX9_copyCourt 36 = .ok (.bipush 16, 2) := by decide +kernel
theorem dX9_copyCourt_38 : decode cX9_copyCourt 38 = .ok (.iload_n 1, 1) := by decide +kernel
theorem dX9_copyCourt_39 : decode cX9_copyCourt 39 = .ok (.iload_n 2, 1) := by decide +kernel
theorem dX9_copyCourt_40 : decode cX9_copyCourt 40 = .ok (.invokestatic 249, 3) := by decide +kernel
theorem dX9_copyCourt_43 : decode cX9_copyCourt 43 = .ok (.aload_n 0, 1) := by decide +kernel
theorem dX9_copyCourt_44 : decode cX9_copyCourt 44 = .ok (.getfield 43, 3) := by decide +kernel
theorem dX9_copyCourt_47 : decode cX9_copyCourt 47 = .ok (.bipush 18, 2) := by decide +kernel
theorem dX9_copyCourt_49 : decode cX9_copyCourt 49 = .ok (.iload_n 1, 1) := by decide +kernel
theorem dX9_copyCourt_50 : decode cX9_copyCourt 50 = .ok (.iload_n 2, 1) := by decide +kernel
theorem dX9_copyCourt_51 : decode cX9_copyCourt 51 = .ok (.invokestatic 249, 3) := by decide +kernel
theorem dX9_copyCourt_54 : decode cX9_copyCourt 54 = .ok (.return_, 1) := by decide +kernel
set_option maxHeartbeats 4000000 in
set_option maxRecDepth 100000 in
theorem s_X9_copyCourt (l : Launch) (D : va_G) (K : Nat → ClassId) (ad : Nat → Nat) (v ar : sI) (al : sL) (hI : YI v ar) (z_1 : Int) (hz_1 : 0 ≤ z_1 ∧ z_1 ≤ 4) (z_2 : Int) (hz_2 : 0 ≤ z_2 ∧ z_2 ≤ 3) (hyp : z_1 ≠ z_2) : Met l yX9_copyCourt (wM yX9_copyCourt cX9_copyCourt 3 none) (rmD 1) (va_Pc [.ref (ad 0), .int (iI (z_1)), .int (iI (z_2))] (wPre D K ad (yG ad K) 21 v ar al)) (va_Qv (fun u : sT => YI u.1 u.2.1 ∧ (∀ i j : Nat, (i, j) ∉ ([] : List (Nat × Nat)) → u.1 i j = v i j) ∧ (∀ i : Nat, i ∉ ([6, 7, 8, 9, 10] : List Nat) → u.2.1 i = ar i) ∧ (∀ i : Nat, i ∉ ([] : List Nat) → u.2.2 i = al i)) (wB D ad (yG ad K) 21) (inW ad 21)) 0 0 (inW ad 21) := by
  refine s_metV (by decide) (Nat.le_of_ble_eq_true rfl) ?_
  intro p e s m below meth c ls args Q hE hB hl kr
  have hE : CallFix p m c cX9_copyCourt 3 s args tbG "TaleCourtModel" := hE
  obtain ⟨hP, hK, hN⟩ := hB
  have hS : va_S (inW ad 21) s.heap s.heap [] := va_S.rf
  have hl : lv_has ls 3 [(0, .ref (ad 0)), (1, .int (iI (z_1))), (2, .int (iI (z_2)))] := hl
  refine lv_aload_n hE.1 hE.2.1 dX9_copyCourt_0 rfl (lv_at hl 0 rfl) ?_
  refine x_get (x := .ref (ad 6)) hE hK hP 0 (by decide) (yG_9 rfl) rfl hin9 16 (by decide) mw_1350 rfl dX9_copyCourt_1 ?_
  refine lv_iconst (v := iI (1)) hE.1 hE.2.1 dX9_copyCourt_4 (by decide) ?_
  refine lv_iload_n hE.1 hE.2.1 dX9_copyCourt_5 rfl (lv_at hl 1 rfl) ?_
  refine lv_iload_n hE.1 hE.2.1 dX9_copyCourt_6 rfl (lv_at hl 2 rfl) ?_
  refine x_sv (nn := 4) (As := [.ref (ad 6), .int (iI (1)), .int (iI (z_1)), .int (iI (z_2))]) (rest := []) hE hK hN hP hS (s_X9_copyRow_6 l D K ad v ar al (z_1) (by omega) (z_2) (by omega) (by omega)) rfl mw_1635 mw_1636 mw_123 mw_1637 (by decide +kernel) ⟨by decide, by decide⟩ hl.1 rfl (Nat.le_of_ble_eq_true rfl) ⟨Nat.zero_le _, Nat.zero_le _⟩ dX9_copyCourt_7 (fun v1 ar1 al1 H locs hq1 hP hS => ?_)
  obtain ⟨hc1, hq1, hqa1, hql1⟩ := hq1
  refine lv_aload_n hE.1 hE.2.1 dX9_copyCourt_10 rfl (lv_at hl 0 rfl) ?_
  refine x_get (x := .ref (ad 7)) hE hK hP 0 (by decide) (yG_9 rfl) rfl hin9 17 (by decide) mw_1351 rfl dX9_copyCourt_11 ?_
  refine lv_bipush (v := iI (6)) hE.1 hE.2.1 dX9_copyCourt_14 (by decide) ?_
  refine lv_iload_n hE.1 hE.2.1 dX9_copyCourt_16 rfl (lv_at hl 1 rfl) ?_
  refine lv_iload_n hE.1 hE.2.1 dX9_copyCourt_17 rfl (lv_at hl 2 rfl) ?_
  refine x_sv (nn := 4) (As := [.ref (ad 7), .int (iI (6)), .int (iI (z_1)), .int (iI (z_2))]) (rest := []) hE hK hN hP hS (s_X9_copyRow_7 l D K ad v1 ar1 al1 (z_1) (by omega) (z_2) (by omega) (by omega)) rfl mw_1635 mw_1636 mw_123 mw_1637 (by decide +kernel) ⟨by decide, by decide⟩ hl.1 rfl (Nat.le_of_ble_eq_true rfl) ⟨Nat.zero_le _, Nat.zero_le _⟩ dX9_copyCourt_18 (fun v2 ar2 al2 H locs hq2 hP hS => ?_)
  obtain ⟨hc2, hq2, hqa2, hql2⟩ := hq2
  refine lv_aload_n hE.1 hE.2.1 dX9_copyCourt_21 rfl (lv_at hl 0 rfl) ?_
  refine x_get (x := .ref (ad 8)) hE hK hP 0 (by decide) (yG_9 rfl) rfl hin9 18 (by decide) mw_1352 rfl dX9_copyCourt_22 ?_
  refine lv_bipush (v := iI (81)) hE.1 hE.2.1 dX9_copyCourt_25 (by decide) ?_
  refine lv_iload_n hE.1 hE.2.1 dX9_copyCourt_27 rfl (lv_at hl 1 rfl) ?_
  refine lv_iload_n hE.1 hE.2.1 dX9_copyCourt_28 rfl (lv_at hl 2 rfl) ?_
  refine x_sv (nn := 4) (As := [.ref (ad 8), .int (iI (81)), .int (iI (z_1)), .int (iI (z_2))]) (rest := []) hE hK hN hP hS (s_X9_copyRow_8 l D K ad v2 ar2 al2 (z_1) (by omega) (z_2) (by omega) (by omega)) rfl mw_1635 mw_1636 mw_123 mw_1637 (by decide +kernel) ⟨by decide, by decide⟩ hl.1 rfl (Nat.le_of_ble_eq_true rfl) ⟨Nat.zero_le _, Nat.zero_le _⟩ dX9_copyCourt_29 (fun v3 ar3 al3 H locs hq3 hP hS => ?_)
  obtain ⟨hc3, hq3, hqa3, hql3⟩ := hq3
  refine lv_aload_n hE.1 hE.2.1 dX9_copyCourt_32 rfl (lv_at hl 0 rfl) ?_
  refine x_get (x := .ref (ad 9)) hE hK hP 0 (by decide) (yG_9 rfl) rfl hin9 19 (by decide) mw_1353 rfl dX9_copyCourt_33 ?_
  refine lv_bipush (v := iI (16)) hE.1 hE.2.1 dX9_copyCourt_36 (by decide) ?_
  refine lv_iload_n hE.1 hE.2.1 dX9_copyCourt_38 rfl (lv_at hl 1 rfl) ?_
  refine lv_iload_n hE.1 hE.2.1 dX9_copyCourt_39 rfl (lv_at hl 2 rfl) ?_
  refine x_sv (nn := 4) (As := [.ref (ad 9), .int (iI (16)), .int (iI (z_1)), .int (iI (z_2))]) (rest := []) hE hK hN hP hS (s_X9_copyRow_9 l D K ad v3 ar3 al3 (z_1) (by omega) (z_2) (by omega) (by omega)) rfl mw_1635 mw_1636 mw_123 mw_1637 (by decide +kernel) ⟨by decide, by decide⟩ hl.1 rfl (Nat.le_of_ble_eq_true rfl) ⟨Nat.zero_le _, Nat.zero_le _⟩ dX9_copyCourt_40 (fun v4 ar4 al4 H locs hq4 hP hS => ?_)
  obtain ⟨hc4, hq4, hqa4, hql4⟩ := hq4
  refine lv_aload_n hE.1 hE.2.1 dX9_copyCourt_43 rfl (lv_at hl 0 rfl) ?_
  refine x_get (x := .ref (ad 10)) hE hK hP 0 (by decide) (yG_9 rfl) rfl hin9 20 (by decide) mw_1354 rfl dX9_copyCourt_44 ?_
  refine lv_bipush (v := iI (18)) hE.1 hE.2.1 dX9_copyCourt_47 (by decide) ?_
  refine lv_iload_n hE.1 hE.2.1 dX9_copyCourt_49 rfl (lv_at hl 1 rfl) ?_
  refine lv_iload_n hE.1 hE.2.1 dX9_copyCourt_50 rfl (lv_at hl 2 rfl) ?_
  refine x_sv (nn := 4) (As := [.ref (ad 10), .int (iI (18)), .int (iI (z_1)), .int (iI (z_2))]) (rest := []) hE hK hN hP hS (s_X9_copyRow_10 l D K ad v4 ar4 al4 (z_1) (by omega) (z_2) (by omega) (by omega)) rfl mw_1635 mw_1636 mw_123 mw_1637 (by decide +kernel) ⟨by decide, by decide⟩ hl.1 rfl (Nat.le_of_ble_eq_true rfl) ⟨Nat.zero_le _, Nat.zero_le _⟩ dX9_copyCourt_51 (fun v5 ar5 al5 H locs hq5 hP hS => ?_)
  obtain ⟨hc5, hq5, hqa5, hql5⟩ := hq5
  have hI := YI_v (YI_copy hI hc1 hc2 hc3 hc4 hc5 (by omega) (by omega)) (v' := v5) (fun i j => ((hq5 i j List.not_mem_nil).trans ((hq4 i j List.not_mem_nil).trans ((hq3 i j List.not_mem_nil).trans ((hq2 i j List.not_mem_nil).trans (hq1 i j List.not_mem_nil))))))
  exact kr v5 ar5 al5 _ _ _ _ ⟨hI, fun i j h => ((hq5 i j (fun q => h (mem_sub (by decide) q))).trans ((hq4 i j (fun q => h (mem_sub (by decide) q))).trans ((hq3 i j (fun q => h (mem_sub (by decide) q))).trans ((hq2 i j (fun q => h (mem_sub (by decide) q))).trans (hq1 i j (fun q => h (mem_sub (by decide) q))))))), fun i h => ((hqa5 i (fun q => h (mem_subn (by decide) q))).trans ((hqa4 i (fun q => h (mem_subn (by decide) q))).trans ((hqa3 i (fun q => h (mem_subn (by decide) q))).trans ((hqa2 i (fun q => h (mem_subn (by decide) q))).trans (hqa1 i (fun q => h (mem_subn (by decide) q))))))), fun i h => ((hql5 i (fun q => h (mem_subn (by decide) q))).trans ((hql4 i (fun q => h (mem_subn (by decide) q))).trans ((hql3 i (fun q => h (mem_subn (by decide) q))).trans ((hql2 i (fun q => h (mem_subn (by decide) q))).trans (hql1 i (fun q => h (mem_subn (by decide) q)))))))⟩ hP hS dX9_copyCourt_54

theorem dX9_keep_0 : decode cX9_keep 0 = .ok (.aload_n 0, 1) := by decide +kernel
theorem dX9_keep_1 : decode cX9_keep 1 = .ok (.iconst 0, 1) := by decide +kernel
theorem dX9_keep_2 : decode cX9_keep 2 = .ok (.putfield 81, 3) := by decide +kernel
theorem dX9_keep_5 : decode cX9_keep 5 = .ok (.iload_n 1, 1) := by decide +kernel
theorem dX9_keep_6 : decode cX9_keep 6 = .ok (.i2l, 1) := by decide +kernel
theorem dX9_keep_7 : decode cX9_keep 7 = .ok (.lconst 0, 1) := by decide +kernel
theorem dX9_keep_8 : decode cX9_keep 8 = .ok (.ldc2_w 461, 3) := by decide +kernel
theorem dX9_keep_11 : decode cX9_keep 11 = .ok (.invokestatic 86, 3) := by decide +kernel
theorem dX9_keep_14 : decode cX9_keep 14 = .ok (.ifCond .ne 6, 3) := by decide +kernel
theorem dX9_keep_17 : decode cX9_keep 17 = .ok (.bipush (-2), 2) := by decide +kernel
theorem dX9_keep_19 : decode cX9_keep 19 = .ok (.ireturn, 1) := by decide +kernel
theorem dX9_keep_20 : decode cX9_keep 20 = .ok (.aload_n 0, 1) := by decide +kernel
theorem dX9_keep_21 : decode cX9_keep 21 = .ok (.iconst 0, 1) := by decide +kernel
theorem dX9_keep_22 : decode cX9_keep 22 = .ok (.iconst 1, 1) := by decide +kernel
theorem dX9_keep_23 : decode cX9_keep 23 = .ok (.iload_n 1, 1) := by decide +kernel
theorem dX9_keep_24 : decode cX9_keep 24 = .ok (.iadd, 1) := by decide +kernel
theorem dX9_keep_25 : decode cX9_keep 25 = .ok (.invokevirtual 242, 3) := by decide +kernel
theorem dX9_keep_28 : decode cX9_keep 28 = .ok (.aload_n 0, 1) := by decide +kernel
theorem dX9_keep_29 : decode cX9_keep 29 = .ok (.getfield 46, 3) := by decide +kernel
theorem dX9_keep_32 : decode cX9_keep 32 = .ok (.iload_n 1, 1) := by decide +kernel
theorem dX9_keep_33 : decode cX9_keep 33 = .ok (.iconst 1, 1) := by decide +kernel
theorem dX9_keep_34 : decode cX9_keep 34 = .ok (.bastore, 1) := by decide +kernel
theorem dX9_keep_35 : decode cX9_keep 35 = .ok (.iconst 0, 1) := by decide +kernel
theorem dX9_keep_36 : decode cX9_keep 36 = .ok (.ireturn, 1) := by decide +kernel
set_option maxHeartbeats 4000000 in
set_option maxRecDepth 100000 in
theorem s_X9_keep (l : Launch) (D : va_G) (K : Nat → ClassId) (ad : Nat → Nat) (v ar : sI) (al : sL) (hI : YI v ar) (z_1 : Int) (hz_1 : -2147483648 ≤ z_1 ∧ z_1 ≤ 2147483647) : Met l yX9_keep (wM yX9_keep cX9_keep 2 (some .int)) (rmD 2) (va_Pc [.ref (ad 0), .int (iI (z_1))] (wPre D K ad (yG ad K) 21 v ar al)) (va_Qi (fun (r : Int32) (u : sT) => (∃ z : Int, ((0 ≤ z_1 ∧ z_1 ≤ 2 ∧ z = 0) ∨ ((z_1 < 0 ∨ 2 < z_1) ∧ z = -2)) ∧ r = iI z) ∧ YI u.1 u.2.1 ∧ (∀ i j : Nat, (i, j) ∉ ([(0, 0)] : List (Nat × Nat)) → u.1 i j = v i j) ∧ (∀ i : Nat, i ∉ ([6, 7, 8, 9, 10, 11] : List Nat) → u.2.1 i = ar i) ∧ (∀ i : Nat, i ∉ ([] : List Nat) → u.2.2 i = al i)) (wB D ad (yG ad K) 21) (inW ad 21)) 0 0 (inW ad 21) := by
  refine s_metI (by decide) (Nat.le_of_ble_eq_true rfl) ?_
  intro p e s m below meth c ls args Q hE hB hl kr
  have hE : CallFix p m c cX9_keep 2 s args tbG "TaleCourtModel" := hE
  obtain ⟨hP, hK, hN⟩ := hB
  have hS : va_S (inW ad 21) s.heap s.heap [] := va_S.rf
  have hl : lv_has ls 2 [(0, .ref (ad 0)), (1, .int (iI (z_1)))] := hl
  refine lv_aload_n hE.1 hE.2.1 dX9_keep_0 rfl (lv_at hl 0 rfl) ?_
  refine lv_iconst (v := iI (0)) hE.1 hE.2.1 dX9_keep_1 (by decide) ?_
  refine x_put (x := iI (0)) hE hK hN hP hS 0 (by decide) (yG_9 rfl) rfl hin9 tyX9 tyX9_ok nmX9 0 (by decide) mw_1334 rfl rfl rfl (Nat.le_of_ble_eq_true rfl) (yG_9 rfl) dX9_keep_2 (fun v1 H locs hv1 hP hS => ?_)
  have hI := YI_putN hI hv1 (by decide)
  refine lv_iload_n hE.1 hE.2.1 dX9_keep_5 rfl (lv_at hl 1 rfl) ?_
  refine lv_i2l (v := lI (z_1)) hE.1 hE.2.1 dX9_keep_6 (iI_i2l (by omega)) ?_
  refine lv_lconst (v := lI (0)) hE.1 hE.2.1 dX9_keep_7 (by decide) ?_
  refine lv_ldc2 (v := 2) hE.1 hE.2.1 hE.2.2.2.1 (hE.2.2.2.2 _ mw_2046) dX9_keep_8 ?_
  refine x_topl (y := lI (2)) (by decide) ?_
  refine x_sp (nn := 3) (As := [.long (lI (z_1)), .long (lI (0)), .long (lI (2))]) (rest := []) hE (s_X9_in l (z_1) (by omega) (0) (by omega) (2) (by omega)) tt_blind (fun _ _ _ => trivial) rfl mw_1494 mw_1495 mw_123 mw_1496 (by decide +kernel) ⟨by decide, by decide⟩ hl.1 rfl (Nat.le_of_ble_eq_true rfl) ⟨Nat.zero_le _, Nat.zero_le _⟩ dX9_keep_11 (fun r2 hr2 => ?_)
  obtain ⟨z2, hz2, rfl⟩ := hr2
  refine s_if_ne (a := z2) (tgt := 20) hE.1 hE.2.1 (by omega) dX9_keep_14 (by decide) (fun c3 => ?_) (fun c3 => ?_)
  · skip
    refine lv_aload_n hE.1 hE.2.1 dX9_keep_20 rfl (lv_at hl 0 rfl) ?_
    refine lv_iconst (v := iI (0)) hE.1 hE.2.1 dX9_keep_21 (by decide) ?_
    refine lv_iconst (v := iI (1)) hE.1 hE.2.1 dX9_keep_22 (by decide) ?_
    refine lv_iload_n hE.1 hE.2.1 dX9_keep_23 rfl (lv_at hl 1 rfl) ?_
    refine lv_iadd hE.1 hE.2.1 dX9_keep_24 ?_
    refine x_top (y := iI (z_1 + 1)) ((iI_add (1) (z_1)).trans (congrArg iI (by omega))) ?_
    refine x_vv (nn := 2) (As := [.int (iI (0)), .int (iI (z_1 + 1))]) (rest := []) hE hK hN hP hS (s_X9_copyCourt l D K ad v1 ar al hI  (0) (by omega) (z_1 + 1) (by omega) (by omega)) (x_recv hK hP 0 (by decide) (yG_9 rfl) rfl) rfl mw_1631 mw_1633 mw_68 mw_123 mw_1634 (by decide +kernel) ⟨by decide, by decide⟩ hl.1 rfl (Nat.le_of_ble_eq_true rfl) ⟨Nat.zero_le _, Nat.zero_le _⟩ dX9_keep_25 (fun v4 ar4 al4 H locs hq4 hP hS => ?_)
    obtain ⟨hI, hq4, hqa4, hql4⟩ := hq4
    have hI : YI v4 ar4 := hI
    refine lv_aload_n hE.1 hE.2.1 dX9_keep_28 rfl (lv_at hl 0 rfl) ?_
    refine x_get (x := .ref (ad 11)) hE hK hP 0 (by decide) (yG_9 rfl) rfl hin9 21 (by decide) mw_1355 rfl dX9_keep_29 ?_
    refine lv_iload_n hE.1 hE.2.1 dX9_keep_32 rfl (lv_at hl 1 rfl) ?_
    refine lv_iconst (v := iI (1)) hE.1 hE.2.1 dX9_keep_33 (by decide) ?_
    refine x_zast (j := iI (z_1)) hE hK hN hP hS 11 (by decide) (fun _ => yG_15 rfl) (iI_in (n := 3) (by omega)) dX9_keep_34 (fun ar5 H locs ha5 hP hS => ?_)
    have hI := YI_ast hI ha5 (by decide)
    refine lv_iconst (v := iI (0)) hE.1 hE.2.1 dX9_keep_35 (by decide) ?_
    exact kr _ v4 ar5 al4 _ _ _ _ rfl ⟨⟨0, by omega, rfl⟩, hI, fun i j h => ((hq4 i j (fun q => h (mem_sub (by decide) q))).trans (up_oth hv1 (fun q => h (by rcases q with ⟨rfl, rfl⟩; decide)))), fun i h => ((upx_ne ha5 i (fun q => h (by rw [q]; decide))).trans (hqa4 i (fun q => h (mem_subn (by decide) q)))), fun i h => (hql4 i (fun q => h (mem_subn (by decide) q)))⟩ hP hS dX9_keep_36
  · skip
    refine lv_bipush (v := iI (-2)) hE.1 hE.2.1 dX9_keep_17 (by decide) ?_
    exact kr _ v1 ar al _ _ _ _ rfl ⟨⟨-2, by omega, rfl⟩, hI, fun i j h => (up_oth hv1 (fun q => h (by rcases q with ⟨rfl, rfl⟩; decide))), fun i h => rfl, fun i h => rfl⟩ hP hS dX9_keep_19

theorem dX9_back_0 : decode cX9_back 0 = .ok (.aload_n 0, 1) := by decide +kernel
theorem dX9_back_1 : decode cX9_back 1 = .ok (.iconst 0, 1) := by decide +kernel
theorem dX9_back_2 : decode cX9_back 2 = .ok (.putfield 81, 3) := by decide +kernel
theorem dX9_back_5 : decode cX9_back 5 = .ok (.iload_n 1, 1) := by decide +kernel
theorem dX9_back_6 : decode cX9_back 6 = .ok (.i2l, 1) := by decide +kernel
theorem dX9_back_7 : decode cX9_back 7 = .ok (.lconst 0, 1) := by decide +kernel
theorem dX9_back_8 : decode cX9_back 8 = .ok (.ldc2_w 461, 3) := by decide +kernel
theorem dX9_back_11 : decode cX9_back 11 = .ok (.invokestatic 86, 3) := by decide +kernel
theorem dX9_back_14 : decode cX9_back 14 = .ok (.ifCond .ne 6, 3) := by decide +kernel
theorem dX9_back_17 : decode cX9_back 17 = .ok (.bipush (-2), 2) := by decide +kernel
theorem dX9_back_19 : decode cX9_back 19 = .ok (.ireturn, 1) := by decide +kernel
theorem dX9_back_20 : decode cX9_back 20 = .ok (.aload_n 0, 1) := by decide +kernel
theorem dX9_back_21 : decode cX9_back 21 = .ok (.getfield 46, 3) := by decide +kernel
theorem dX9_back_24 : decode cX9_back 24 = .ok (.iload_n 1, 1) := by decide +kernel
theorem dX9_back_25 : decode cX9_back 25 = .ok (.baload, 1) := by decide +kernel
theorem dX9_back_26 : decode cX9_back 26 = .ok (.ifCond .ne 6, 3) := by decide +kernel
theorem dX9_back_29 : decode cX9_back 29 = .ok (.bipush (-6), 2) := by decide +kernel
theorem dX9_back_31 : decode cX9_back 31 = .ok (.ireturn, 1) := by decide +kernel
theorem dX9_back_32 : decode cX9_back 32 = .ok (.aload_n 0, 1) := by decide +kernel
theorem dX9_back_33 : decode cX9_back 33 = .ok (.iconst 1, 1) := by decide +kernel
theorem dX9_back_34 : decode cX9_back 34 = .ok (.iload_n 1, 1) := by decide +kernel
theorem dX9_back_35 : decode cX9_back 35 = .ok (.iadd, 1) := by decide +kernel
theorem dX9_back_36 : decode cX9_back 36 = .ok (.iconst 0, 1) := by decide +kernel
theorem dX9_back_37 : decode cX9_back 37 = .ok (.invokevirtual 242, 3) := by decide +kernel
theorem dX9_back_40 : decode cX9_back 40 = .ok (.iconst 0, 1) := by decide +kernel
theorem dX9_back_41 : decode cX9_back 41 = .ok (.ireturn, 1) := by decide +kernel
set_option maxHeartbeats 4000000 in
set_option maxRecDepth 100000 in
theorem s_X9_back (l : Launch) (D : va_G) (K : Nat → ClassId) (ad : Nat → Nat) (v ar : sI) (al : sL) (hI : YI v ar) (z_1 : Int) (hz_1 : -2147483648 ≤ z_1 ∧ z_1 ≤ 2147483647) : Met l yX9_back (wM yX9_back cX9_back 2 (some .int)) (rmD 2) (va_Pc [.ref (ad 0), .int (iI (z_1))] (wPre D K ad (yG ad K) 21 v ar al)) (va_Qi (fun (r : Int32) (u : sT) => (∃ z : Int, (-2147483648 ≤ z ∧ z ≤ 2147483647) ∧ r = iI z) ∧ YI u.1 u.2.1 ∧ (∀ i j : Nat, (i, j) ∉ ([(0, 0)] : List (Nat × Nat)) → u.1 i j = v i j) ∧ (∀ i : Nat, i ∉ ([6, 7, 8, 9, 10] : List Nat) → u.2.1 i = ar i) ∧ (∀ i : Nat, i ∉ ([] : List Nat) → u.2.2 i = al i)) (wB D ad (yG ad K) 21) (inW ad 21)) 0 0 (inW ad 21) := by
  refine s_metI (by decide) (Nat.le_of_ble_eq_true rfl) ?_
  intro p e s m below meth c ls args Q hE hB hl kr
  have hE : CallFix p m c cX9_back 2 s args tbG "TaleCourtModel" := hE
  obtain ⟨hP, hK, hN⟩ := hB
  have hS : va_S (inW ad 21) s.heap s.heap [] := va_S.rf
  have hl : lv_has ls 2 [(0, .ref (ad 0)), (1, .int (iI (z_1)))] := hl
  refine lv_aload_n hE.1 hE.2.1 dX9_back_0 rfl (lv_at hl 0 rfl) ?_
  refine lv_iconst (v := iI (0)) hE.1 hE.2.1 dX9_back_1 (by decide) ?_
  refine x_put (x := iI (0)) hE hK hN hP hS 0 (by decide) (yG_9 rfl) rfl hin9 tyX9 tyX9_ok nmX9 0 (by decide) mw_1334 rfl rfl rfl (Nat.le_of_ble_eq_true rfl) (yG_9 rfl) dX9_back_2 (fun v1 H locs hv1 hP hS => ?_)
  have hI := YI_putN hI hv1 (by decide)
  refine lv_iload_n hE.1 hE.2.1 dX9_back_5 rfl (lv_at hl 1 rfl) ?_
  refine lv_i2l (v := lI (z_1)) hE.1 hE.2.1 dX9_back_6 (iI_i2l (by omega)) ?_
  refine lv_lconst (v := lI (0)) hE.1 hE.2.1 dX9_back_7 (by decide) ?_
  refine lv_ldc2 (v := 2) hE.1 hE.2.1 hE.2.2.2.1 (hE.2.2.2.2 _ mw_2046) dX9_back_8 ?_
  refine x_topl (y := lI (2)) (by decide) ?_
  refine x_sp (nn := 3) (As := [.long (lI (z_1)), .long (lI (0)), .long (lI (2))]) (rest := []) hE (s_X9_in l (z_1) (by omega) (0) (by omega) (2) (by omega)) tt_blind (fun _ _ _ => trivial) rfl mw_1494 mw_1495 mw_123 mw_1496 (by decide +kernel) ⟨by decide, by decide⟩ hl.1 rfl (Nat.le_of_ble_eq_true rfl) ⟨Nat.zero_le _, Nat.zero_le _⟩ dX9_back_11 (fun r2 hr2 => ?_)
  obtain ⟨z2, hz2, rfl⟩ := hr2
  refine s_if_ne (a := z2) (tgt := 20) hE.1 hE.2.1 (by omega) dX9_back_14 (by decide) (fun c3 => ?_) (fun c3 => ?_)
  · skip
    refine lv_aload_n hE.1 hE.2.1 dX9_back_20 rfl (lv_at hl 0 rfl) ?_
    refine x_get (x := .ref (ad 11)) hE hK hP 0 (by decide) (yG_9 rfl) rfl hin9 21 (by decide) mw_1355 rfl dX9_back_21 ?_
    refine lv_iload_n hE.1 hE.2.1 dX9_back_24 rfl (lv_at hl 1 rfl) ?_
    refine x_zald (j := iI (z_1)) hE hK hP 11 (by decide) (yG_15 rfl) (iI_in (n := 3) (by omega)) dX9_back_25 ?_
    obtain ⟨z6, hz6, ez6⟩ := iI_of (ar 11 (iI (z_1)).toNatClampNeg)
    refine x_top ez6 ?_
    refine s_if_ne (a := z6) (tgt := 32) hE.1 hE.2.1 (by omega) dX9_back_26 (by decide) (fun c7 => ?_) (fun c7 => ?_)
    · skip
      refine lv_aload_n hE.1 hE.2.1 dX9_back_32 rfl (lv_at hl 0 rfl) ?_
      refine lv_iconst (v := iI (1)) hE.1 hE.2.1 dX9_back_33 (by decide) ?_
      refine lv_iload_n hE.1 hE.2.1 dX9_back_34 rfl (lv_at hl 1 rfl) ?_
      refine lv_iadd hE.1 hE.2.1 dX9_back_35 ?_
      refine x_top (y := iI (z_1 + 1)) ((iI_add (1) (z_1)).trans (congrArg iI (by omega))) ?_
      refine lv_iconst (v := iI (0)) hE.1 hE.2.1 dX9_back_36 (by decide) ?_
      refine x_vv (nn := 2) (As := [.int (iI (z_1 + 1)), .int (iI (0))]) (rest := []) hE hK hN hP hS (s_X9_copyCourt l D K ad v1 ar al hI  (z_1 + 1) (by omega) (0) (by omega) (by omega)) (x_recv hK hP 0 (by decide) (yG_9 rfl) rfl) rfl mw_1631 mw_1633 mw_68 mw_123 mw_1634 (by decide +kernel) ⟨by decide, by decide⟩ hl.1 rfl (Nat.le_of_ble_eq_true rfl) ⟨Nat.zero_le _, Nat.zero_le _⟩ dX9_back_37 (fun v8 ar8 al8 H locs hq8 hP hS => ?_)
      obtain ⟨hI, hq8, hqa8, hql8⟩ := hq8
      have hI : YI v8 ar8 := hI
      refine lv_iconst (v := iI (0)) hE.1 hE.2.1 dX9_back_40 (by decide) ?_
      exact kr _ v8 ar8 al8 _ _ _ _ rfl ⟨⟨0, by omega, rfl⟩, hI, fun i j h => ((hq8 i j (fun q => h (mem_sub (by decide) q))).trans (up_oth hv1 (fun q => h (by rcases q with ⟨rfl, rfl⟩; decide)))), fun i h => (hqa8 i (fun q => h (mem_subn (by decide) q))), fun i h => (hql8 i (fun q => h (mem_subn (by decide) q)))⟩ hP hS dX9_back_41
    · skip
      refine lv_bipush (v := iI (-6)) hE.1 hE.2.1 dX9_back_29 (by decide) ?_
      exact kr _ v1 ar al _ _ _ _ rfl ⟨⟨-6, by omega, rfl⟩, hI, fun i j h => (up_oth hv1 (fun q => h (by rcases q with ⟨rfl, rfl⟩; decide))), fun i h => rfl, fun i h => rfl⟩ hP hS dX9_back_31
  · skip
    refine lv_bipush (v := iI (-2)) hE.1 hE.2.1 dX9_back_17 (by decide) ?_
    exact kr _ v1 ar al _ _ _ _ rfl ⟨⟨-2, by omega, rfl⟩, hI, fun i j h => (up_oth hv1 (fun q => h (by rcases q with ⟨rfl, rfl⟩; decide))), fun i h => rfl, fun i h => rfl⟩ hP hS dX9_back_19
