theorem up_eq {v v' : sI} {i k : Nat} {x : Int32} (h : v' = va_up v i (upd (v i) k x)) : v' i k = x := by subst h; simp [va_up, upd]
theorem up_oth {v v' : sI} {i k i' k' : Nat} {x : Int32} (h : v' = va_up v i (upd (v i) k x)) (hne : ¬ (i' = i ∧ k' = k)) : v' i' k' = v i' k' := by
  subst h
  by_cases h1 : i' = i
  · subst h1
    have h2 : ¬ k' = k := fun q => hne ⟨rfl, q⟩
    simp [va_up, upd, h2]
  · simp [va_up, h1]
theorem upl_same {v : sL} {i k : Nat} {x : Int64} (h : v i k = x) : va_up v i (vp_updL (v i) k x) = v := by
  funext a b
  by_cases ha : a = i
  · subst ha
    by_cases hb : b = k
    · subst hb; simp [va_up, vp_updL, h]
    · simp [va_up, vp_updL, hb]
  · simp [va_up, ha]
theorem mem_sub {L' L : List (Nat × Nat)} (hs : ∀ x ∈ L', x ∈ L) {x : Nat × Nat} (q : x ∈ L') : x ∈ L := hs x q
section XR3
variable {p : Program} {l : Launch} {e : Env} {R : Room} {s : State} {m : MethodId} {args : Array Value} {below : List Frame} {meth : Method} {c : Code} {cc : ByteArray} {H : Heap} {locs : List Loc} {cells slots : Nat} {Q : State → Prop} {pc nL : Nat} {ls : Array Slot} {rest st : List Value} {D : va_G} {K : Nat → ClassId} {ad : Nat → Nat} {G : gT} {N : Nat} {v ar : sI} {al : sL} {own : String}
theorem x_zast (hE : CallFix p m c cc nL s args tbG own) (hK : va_K D xcl (xty K) s) (hN : apart ad N) (hP : va_P D xcl (wW ad G N v ar al) H) (hS : va_S (inW ad N) s.heap H locs) (i : Nat) (hi : i < N) {n : Nat} (hf : ∀ g : Nat → Int32, G i (v i) g (al i) = .inl (K 3, n, .inl g)) {j x : Int32} (hin : vp_in j n) (hdg : decode cc pc = .ok (.bastore, 1))
    (kk : ∀ (ar' : sI) (H1 : Heap) (locs1 : List Loc), ar' = va_up ar i (upd (ar i) j.toNatClampNeg (vp_nar .boolean x)) → va_P D xcl (wW ad G N v ar' al) H1 → va_S (inW ad N) s.heap H1 locs1 → W p l e R s m args below meth c H1 locs1 cells slots Q (F0 m (pc + 1) ls rest)) : W p l e R s m args below meth c H locs cells slots Q (F0 m pc ls (.int x :: .int j :: .ref (ad i) :: rest)) := by
  refine va_zast hE.1 hE.2.1 hK hP (pw_D hN (fun i hi => ⟨i, hi, rfl⟩)) hS i 3 (wW_at hi (hf _)) rfl hin hdg (fun H1 locs1 h1 _ h3 => ?_)
  rw [wW_a (hf _)] at h1
  exact kk _ H1 locs1 rfl h1 h3
theorem x_aald (hE : CallFix p m c cc nL s args tbG own) (hK : va_K D xcl (xty K) s) (hP : va_P D xcl (wW ad G N v ar al) H) (i t0 : Nat) (hi : i < N) {cA : ClassId} {C : String} {n : Nat} {f : Nat → Option Nat} (hf : G i (v i) (ar i) (al i) = .inl (cA, n, .inr (.inr (.inr (.inr f))))) (ht : (xty K)[t0]? = some (cA, .object C)) {j : Int32} (hin : vp_in j n) {r : Value} (hr : va_rf (f j.toNatClampNeg) = r) (hdg : decode cc pc = .ok (.aaload, 1))
    (kk : W p l e R s m args below meth c H locs cells slots Q (F0 m (pc + 1) ls (r :: rest))) : W p l e R s m args below meth c H locs cells slots Q (F0 m pc ls (.int j :: .ref (ad i) :: rest)) := by
  subst hr
  exact va_aldq hE.1 hE.2.1 hK hP i t0 (wW_at hi hf) ht hin hdg kk
end XR3
/-! Arrays.fill -/
theorem dJ7_fill_53178_0 : decode cJ7_fill_53178 0 = .ok (.iconst 0, 1) := by decide +kernel
theorem dJ7_fill_53178_1 : decode cJ7_fill_53178 1 = .ok (.istore_n 2, 1) := by decide +kernel
theorem dJ7_fill_53178_2 : decode cJ7_fill_53178 2 = .ok (.aload_n 0, 1) := by decide +kernel
theorem dJ7_fill_53178_3 : decode cJ7_fill_53178 3 = .ok (.arraylength, 1) := by decide +kernel
theorem dJ7_fill_53178_4 : decode cJ7_fill_53178 4 = .ok (.istore_n 3, 1) := by decide +kernel
theorem dJ7_fill_53178_5 : decode cJ7_fill_53178 5 = .ok (.iload_n 2, 1) := by decide +kernel
theorem dJ7_fill_53178_6 : decode cJ7_fill_53178 6 = .ok (.iload_n 3, 1) := by decide +kernel
theorem dJ7_fill_53178_7 : decode cJ7_fill_53178 7 = .ok (.if_icmp .ge 13, 3) := by decide +kernel
theorem dJ7_fill_53178_10 : decode cJ7_fill_53178 10 = .ok (.aload_n 0, 1) := by decide +kernel
theorem dJ7_fill_53178_11 : decode cJ7_fill_53178 11 = .ok (.iload_n 2, 1) := by decide +kernel
theorem dJ7_fill_53178_12 : decode cJ7_fill_53178 12 = .ok (.iload_n 1, 1) := by decide +kernel
theorem dJ7_fill_53178_13 : decode cJ7_fill_53178 13 = .ok (.iastore, 1) := by decide +kernel
theorem dJ7_fill_53178_14 : decode cJ7_fill_53178 14 = .ok (.iinc 2 1, 3) := by decide +kernel
theorem dJ7_fill_53178_17 : decode cJ7_fill_53178 17 = .ok (.goto (-12), 3) := by decide +kernel
theorem dJ7_fill_53178_20 : decode cJ7_fill_53178 20 = .ok (.return_, 1) := by decide +kernel
set_option maxHeartbeats 4000000 in
set_option maxRecDepth 100000 in
theorem k_fillI (l : Launch) (D : va_G) (K : Nat → ClassId) (ad : Nat → Nat) {G : gT} {N : Nat} (v ar : sI) (al : sL) (i n : Nat) (hi : i < N) (hf : ∀ g : Nat → Int32, G i (v i) g (al i) = .inl (K 0, n, .inl g)) (hn : n < 2 ^ 31) (x : Int32) : Met l yJ7_fill_53178 (wM yJ7_fill_53178 cJ7_fill_53178 4 none) (rmD 0) (va_Pc [.ref (ad i), .int x] (wPre D K ad G N v ar al)) (va_Qv (fun u : sT => u.1 = v ∧ u.2.2 = al ∧ (∀ k, k ≠ i → u.2.1 k = ar k) ∧ ∀ k, k < n → u.2.1 i k = x) (wB D ad G N) (inW ad N)) 0 0 (inW ad N) := by
  refine x_met (by decide) (Nat.le_of_ble_eq_true rfl) ?_
  intro p e s m below meth c ls hE hr hlo hnm hB hl
  have hE : CallFix p m c cJ7_fill_53178 4 s _ tbG "java/util/Arrays" := hE
  obtain ⟨hP, hK, hN⟩ := hB
  have hS : va_S (inW ad N) s.heap s.heap [] := va_S.rf
  have hl : lv_has ls 4 [(0, .ref (ad i)), (1, .int x)] := hl
  have loop : ∀ (r j : Nat) (ar1 : sI) (H : Heap) (locs : List Loc) (ls : Array Slot), j + r = n → (∀ k, k ≠ i → ar1 k = ar k) → (∀ k, k < j → ar1 i k = x) → va_P D xcl (wW ad G N v ar1 al) H → va_S (inW ad N) s.heap H locs → lv_has ls 4 [(3, .int (nI n)), (2, .int (nI j)), (0, .ref (ad i)), (1, .int x)] → W p l e (rmD 0) s m #[Value.ref (ad i), Value.int x] below meth c H locs 0 0 (MQ below (va_Qv (fun u : sT => u.1 = v ∧ u.2.2 = al ∧ (∀ k, k ≠ i → u.2.1 k = ar k) ∧ ∀ k, k < n → u.2.1 i k = x) (wB D ad G N) (inW ad N)) #[Value.ref (ad i), Value.int x] s 0 0 (inW ad N)) (F0 m 5 ls []) := by
    intro r
    induction r with
    | zero =>
      intro j ar1 H locs ls hj h1 h2 hP hS hl
      have hj : j = n := by omega
      subst hj
      refine lv_iload_n hE.1 hE.2.1 dJ7_fill_53178_5 rfl (lv_at hl 1 rfl) ?_
      refine lv_iload_n hE.1 hE.2.1 dJ7_fill_53178_6 rfl (lv_at hl 0 rfl) ?_
      refine lv_icmp_ge (tgt := 20) hE.1 hE.2.1 dJ7_fill_53178_7 (by decide) (fun _ => ?_) (fun h => absurd (nI_le (Nat.le_refl _) hn) h)
      exact x_wv hE hr hlo hP hS ⟨rfl, rfl, h1, h2⟩ dJ7_fill_53178_20
    | succ r ih =>
      intro j ar1 H locs ls hj h1 h2 hP hS hl
      refine lv_iload_n hE.1 hE.2.1 dJ7_fill_53178_5 rfl (lv_at hl 1 rfl) ?_
      refine lv_iload_n hE.1 hE.2.1 dJ7_fill_53178_6 rfl (lv_at hl 0 rfl) ?_
      refine lv_icmp_ge (tgt := 20) hE.1 hE.2.1 dJ7_fill_53178_7 (by decide) (fun h => absurd h (nI_ge (by omega) hn)) (fun _ => ?_)
      refine lv_aload_n hE.1 hE.2.1 dJ7_fill_53178_10 rfl (lv_at hl 2 rfl) ?_
      refine lv_iload_n hE.1 hE.2.1 dJ7_fill_53178_11 rfl (lv_at hl 1 rfl) ?_
      refine lv_iload_n hE.1 hE.2.1 dJ7_fill_53178_12 rfl (lv_at hl 3 rfl) ?_
      refine x_iast hE hK hN hP hS i hi hf (vp_in_nI (by omega) hn) dJ7_fill_53178_13 (fun ar2 H locs har hP hS => ?_)
      rw [nI_clamp (by omega)] at har
      refine lv_iinc (v := nI (j + 1)) (lv' := [(2, .int (nI (j + 1))), (3, .int (nI n)), (0, .ref (ad i)), (1, .int x)]) hE.1 hE.2.1 dJ7_fill_53178_14 hl (k := 1) rfl (nI_1 j) (by decide) rfl (fun ls hl => ?_)
      refine lv_goto (tgt := 5) hE.1 hE.2.1 dJ7_fill_53178_17 (by decide) ?_
      refine ih (j + 1) ar2 H locs ls (by omega) (fun k hk => ?_) (fun k hk => ?_) hP hS (lv_sub hl [1, 0, 2, 3] rfl)
      · rw [har]; simp [va_up, hk, h1 k hk]
      · rw [har]
        by_cases hkj : k = j
        · subst hkj; simp [va_up, upd]
        · simp [va_up, upd, hkj, h2 k (by omega)]
  refine lv_iconst (v := 0) hE.1 hE.2.1 dJ7_fill_53178_0 (by decide) ?_
  refine lv_istore_n (lv' := [(2, .int 0), (0, .ref (ad i)), (1, .int x)]) hE.1 hE.2.1 dJ7_fill_53178_1 rfl hl (by decide) rfl (fun ls hl => ?_)
  refine lv_aload_n hE.1 hE.2.1 dJ7_fill_53178_2 rfl (lv_at hl 1 rfl) ?_
  refine x_alen (w := nI n) hE hK hP i 0 hi (hf _) rfl rfl dJ7_fill_53178_3 ?_
  refine lv_istore_n (lv' := [(3, .int (nI n)), (2, .int 0), (0, .ref (ad i)), (1, .int x)]) hE.1 hE.2.1 dJ7_fill_53178_4 rfl hl (by decide) rfl (fun ls hl => ?_)
  exact loop n 0 ar _ _ _ (by omega) (fun _ _ => rfl) (fun k hk => absurd hk (Nat.not_lt_zero k)) hP hS hl
theorem dJ7_fill_d0a16_0 : decode cJ7_fill_d0a16 0 = .ok (.iconst 0, 1) := by decide +kernel
theorem dJ7_fill_d0a16_1 : decode cJ7_fill_d0a16 1 = .ok (.istore_n 3, 1) := by decide +kernel
theorem dJ7_fill_d0a16_2 : decode cJ7_fill_d0a16 2 = .ok (.aload_n 0, 1) := by decide +kernel
theorem dJ7_fill_d0a16_3 : decode cJ7_fill_d0a16 3 = .ok (.arraylength, 1) := by decide +kernel
theorem dJ7_fill_d0a16_4 : decode cJ7_fill_d0a16 4 = .ok (.istore 4, 2) := by decide +kernel
theorem dJ7_fill_d0a16_6 : decode cJ7_fill_d0a16 6 = .ok (.iload_n 3, 1) := by decide +kernel
theorem dJ7_fill_d0a16_7 : decode cJ7_fill_d0a16 7 = .ok (.iload 4, 2) := by decide +kernel
theorem dJ7_fill_d0a16_9 : decode cJ7_fill_d0a16 9 = .ok (.if_icmp .ge 13, 3) := by decide +kernel
theorem dJ7_fill_d0a16_12 : decode cJ7_fill_d0a16 12 = .ok (.aload_n 0, 1) := by decide +kernel
theorem dJ7_fill_d0a16_13 : decode cJ7_fill_d0a16 13 = .ok (.iload_n 3, 1) := by decide +kernel
theorem dJ7_fill_d0a16_14 : decode cJ7_fill_d0a16 14 = .ok (.lload_n 1, 1) := by decide +kernel
theorem dJ7_fill_d0a16_15 : decode cJ7_fill_d0a16 15 = .ok (.lastore, 1) := by decide +kernel
theorem dJ7_fill_d0a16_16 : decode cJ7_fill_d0a16 16 = .ok (.iinc 3 1, 3) := by decide +kernel
theorem dJ7_fill_d0a16_19 : decode cJ7_fill_d0a16 19 = .ok (.goto (-13), 3) := by decide +kernel
theorem dJ7_fill_d0a16_22 : decode cJ7_fill_d0a16 22 = .ok (.return_, 1) := by decide +kernel
set_option maxHeartbeats 4000000 in
set_option maxRecDepth 100000 in
theorem k_fillL (l : Launch) (D : va_G) (K : Nat → ClassId) (ad : Nat → Nat) {G : gT} {N : Nat} (v ar : sI) (al : sL) (i n : Nat) (hi : i < N) (hf : ∀ g : Nat → Int64, G i (v i) (ar i) g = .inl (K 1, n, .inr (.inl g))) (hn : n < 2 ^ 31) (x : Int64) : Met l yJ7_fill_d0a16 (wM yJ7_fill_d0a16 cJ7_fill_d0a16 5 none) (rmD 0) (va_Pc [.ref (ad i), .long x] (wPre D K ad G N v ar al)) (va_Qv (fun u : sT => u.1 = v ∧ u.2.1 = ar ∧ (∀ k, k ≠ i → u.2.2 k = al k) ∧ ∀ k, k < n → u.2.2 i k = x) (wB D ad G N) (inW ad N)) 0 0 (inW ad N) := by
  refine x_met (by decide) (Nat.le_of_ble_eq_true rfl) ?_
  intro p e s m below meth c ls hE hr hlo hnm hB hl
  have hE : CallFix p m c cJ7_fill_d0a16 5 s _ tbG "java/util/Arrays" := hE
  obtain ⟨hP, hK, hN⟩ := hB
  have hS : va_S (inW ad N) s.heap s.heap [] := va_S.rf
  have hl : lv_has ls 5 [(0, .ref (ad i)), (1, .long x)] := hl
  have loop : ∀ (r j : Nat) (al1 : sL) (H : Heap) (locs : List Loc) (ls : Array Slot), j + r = n → (∀ k, k ≠ i → al1 k = al k) → (∀ k, k < j → al1 i k = x) → va_P D xcl (wW ad G N v ar al1) H → va_S (inW ad N) s.heap H locs → lv_has ls 5 [(4, .int (nI n)), (3, .int (nI j)), (0, .ref (ad i)), (1, .long x)] → W p l e (rmD 0) s m #[Value.ref (ad i), Value.long x] below meth c H locs 0 0 (MQ below (va_Qv (fun u : sT => u.1 = v ∧ u.2.1 = ar ∧ (∀ k, k ≠ i → u.2.2 k = al k) ∧ ∀ k, k < n → u.2.2 i k = x) (wB D ad G N) (inW ad N)) #[Value.ref (ad i), Value.long x] s 0 0 (inW ad N)) (F0 m 6 ls []) := by
    intro r
    induction r with
    | zero =>
      intro j al1 H locs ls hj h1 h2 hP hS hl
      have hj : j = n := by omega
      subst hj
      refine lv_iload_n hE.1 hE.2.1 dJ7_fill_d0a16_6 rfl (lv_at hl 1 rfl) ?_
      refine lv_iload hE.1 hE.2.1 dJ7_fill_d0a16_7 (lv_at hl 0 rfl) ?_
      refine lv_icmp_ge (tgt := 22) hE.1 hE.2.1 dJ7_fill_d0a16_9 (by decide) (fun _ => ?_) (fun h => absurd (nI_le (Nat.le_refl _) hn) h)
      exact x_wv hE hr hlo hP hS ⟨rfl, rfl, h1, h2⟩ dJ7_fill_d0a16_22
    | succ r ih =>
      intro j al1 H locs ls hj h1 h2 hP hS hl
      refine lv_iload_n hE.1 hE.2.1 dJ7_fill_d0a16_6 rfl (lv_at hl 1 rfl) ?_
      refine lv_iload hE.1 hE.2.1 dJ7_fill_d0a16_7 (lv_at hl 0 rfl) ?_
      refine lv_icmp_ge (tgt := 22) hE.1 hE.2.1 dJ7_fill_d0a16_9 (by decide) (fun h => absurd h (nI_ge (by omega) hn)) (fun _ => ?_)
      refine lv_aload_n hE.1 hE.2.1 dJ7_fill_d0a16_12 rfl (lv_at hl 2 rfl) ?_
      refine lv_iload_n hE.1 hE.2.1 dJ7_fill_d0a16_13 rfl (lv_at hl 1 rfl) ?_
      refine lv_lload_n hE.1 hE.2.1 dJ7_fill_d0a16_14 rfl (lv_at hl 3 rfl) ?_
      refine x_last hE hK hN hP hS i hi hf (vp_in_nI (by omega) hn) dJ7_fill_d0a16_15 (fun al2 H locs har hP hS => ?_)
      rw [nI_clamp (by omega)] at har
      refine lv_iinc (v := nI (j + 1)) (lv' := [(3, .int (nI (j + 1))), (4, .int (nI n)), (0, .ref (ad i)), (1, .long x)]) hE.1 hE.2.1 dJ7_fill_d0a16_16 hl (k := 1) rfl (nI_1 j) (by decide) rfl (fun ls hl => ?_)
      refine lv_goto (tgt := 6) hE.1 hE.2.1 dJ7_fill_d0a16_19 (by decide) ?_
      refine ih (j + 1) al2 H locs ls (by omega) (fun k hk => ?_) (fun k hk => ?_) hP hS (lv_sub hl [1, 0, 2, 3] rfl)
      · rw [har]; simp [va_up, hk, h1 k hk]
      · rw [har]
        by_cases hkj : k = j
        · subst hkj; simp [va_up, vp_updL]
        · simp [va_up, vp_updL, hkj, h2 k (by omega)]
  refine lv_iconst (v := 0) hE.1 hE.2.1 dJ7_fill_d0a16_0 (by decide) ?_
  refine lv_istore_n (lv' := [(3, .int 0), (0, .ref (ad i)), (1, .long x)]) hE.1 hE.2.1 dJ7_fill_d0a16_1 rfl hl (by decide) rfl (fun ls hl => ?_)
  refine lv_aload_n hE.1 hE.2.1 dJ7_fill_d0a16_2 rfl (lv_at hl 1 rfl) ?_
  refine x_alen (w := nI n) hE hK hP i 1 hi (hf _) rfl rfl dJ7_fill_d0a16_3 ?_
  refine lv_istore (lv' := [(4, .int (nI n)), (3, .int 0), (0, .ref (ad i)), (1, .long x)]) hE.1 hE.2.1 dJ7_fill_d0a16_4 hl (by decide) rfl (fun ls hl => ?_)
  exact loop n 0 al _ _ _ (by omega) (fun _ _ => rfl) (fun k hk => absurd hk (Nat.not_lt_zero k)) hP hS hl
/-! the reference's copyRow, where the row is all 0 -/
theorem dX9_copyRow_0 : decode cX9_copyRow 0 = .ok (.iconst 0, 1) := by decide +kernel
theorem dX9_copyRow_1 : decode cX9_copyRow 1 = .ok (.istore 4, 2) := by decide +kernel
theorem dX9_copyRow_3 : decode cX9_copyRow 3 = .ok (.iload 4, 2) := by decide +kernel
theorem dX9_copyRow_5 : decode cX9_copyRow 5 = .ok (.iload_n 1, 1) := by decide +kernel
theorem dX9_copyRow_6 : decode cX9_copyRow 6 = .ok (.if_icmp .ge 25, 3) := by decide +kernel
theorem dX9_copyRow_9 : decode cX9_copyRow 9 = .ok (.aload_n 0, 1) := by decide +kernel
theorem dX9_copyRow_10 : decode cX9_copyRow 10 = .ok (.iload_n 1, 1) := by decide +kernel
theorem dX9_copyRow_11 : decode cX9_copyRow 11 = .ok (.iload_n 3, 1) := by decide +kernel
theorem dX9_copyRow_12 : decode cX9_copyRow 12 = .ok (.imul, 1) := by decide +kernel
theorem dX9_copyRow_13 : decode cX9_copyRow 13 = .ok (.iload 4, 2) := by decide +kernel
theorem dX9_copyRow_15 : decode cX9_copyRow 15 = .ok (.iadd, 1) := by decide +kernel
theorem dX9_copyRow_16 : decode cX9_copyRow 16 = .ok (.aload_n 0, 1) := by decide +kernel
theorem dX9_copyRow_17 : decode cX9_copyRow 17 = .ok (.iload_n 1, 1) := by decide +kernel
theorem dX9_copyRow_18 : decode cX9_copyRow 18 = .ok (.iload_n 2, 1) := by decide +kernel
theorem dX9_copyRow_19 : decode cX9_copyRow 19 = .ok (.imul, 1) := by decide +kernel
theorem dX9_copyRow_20 : decode cX9_copyRow 20 = .ok (.iload 4, 2) := by decide +kernel
theorem dX9_copyRow_22 : decode cX9_copyRow 22 = .ok (.iadd, 1) := by decide +kernel
theorem dX9_copyRow_23 : decode cX9_copyRow 23 = .ok (.iaload, 1) := by decide +kernel
theorem dX9_copyRow_24 : decode cX9_copyRow 24 = .ok (.iastore, 1) := by decide +kernel
theorem dX9_copyRow_25 : decode cX9_copyRow 25 = .ok (.iinc 4 1, 3) := by decide +kernel
theorem dX9_copyRow_28 : decode cX9_copyRow 28 = .ok (.goto (-25), 3) := by decide +kernel
theorem dX9_copyRow_31 : decode cX9_copyRow 31 = .ok (.return_, 1) := by decide +kernel
set_option maxHeartbeats 4000000 in
set_option maxRecDepth 100000 in
theorem k_copyRow (l : Launch) (D : va_G) (K : Nat → ClassId) (ad : Nat → Nat) {G : gT} {N : Nat} (v ar : sI) (al : sL) (i n : Nat) (hi : i < N) (hf : ∀ g : Nat → Int32, G i (v i) g (al i) = .inl (K 0, n, .inl g)) (hz : ar i = fun _ => 0) (hn : n < 2 ^ 31) (q a b : Nat) (ha : q * a + q ≤ n) (hb : q * b + q ≤ n) : Met l yX9_copyRow (wM yX9_copyRow cX9_copyRow 5 none) (rmD 0) (va_Pc [.ref (ad i), .int (nI q), .int (nI a), .int (nI b)] (wPre D K ad G N v ar al)) (va_Qv (fun u : sT => u.1 = v ∧ u.2.1 = ar ∧ u.2.2 = al) (wB D ad G N) (inW ad N)) 0 0 (inW ad N) := by
  refine x_met (by decide) (Nat.le_of_ble_eq_true rfl) ?_
  intro p e s m below meth c ls hE hr hlo hnm hB hl
  have hE : CallFix p m c cX9_copyRow 5 s _ tbG "TaleCourtModel" := hE
  obtain ⟨hP, hK, hN⟩ := hB
  have hS : va_S (inW ad N) s.heap s.heap [] := va_S.rf
  have hl : lv_has ls 5 [(0, .ref (ad i)), (1, .int (nI q)), (2, .int (nI a)), (3, .int (nI b))] := hl
  have loop : ∀ (r j : Nat) (H : Heap) (locs : List Loc) (ls : Array Slot), j + r = q → va_P D xcl (wW ad G N v ar al) H → va_S (inW ad N) s.heap H locs → lv_has ls 5 [(4, .int (nI j)), (0, .ref (ad i)), (1, .int (nI q)), (2, .int (nI a)), (3, .int (nI b))] → W p l e (rmD 0) s m #[Value.ref (ad i), Value.int (nI q), Value.int (nI a), Value.int (nI b)] below meth c H locs 0 0 (MQ below (va_Qv (fun u : sT => u.1 = v ∧ u.2.1 = ar ∧ u.2.2 = al) (wB D ad G N) (inW ad N)) #[Value.ref (ad i), Value.int (nI q), Value.int (nI a), Value.int (nI b)] s 0 0 (inW ad N)) (F0 m 3 ls []) := by
    intro r
    induction r with
    | zero =>
      intro j H locs ls hj hP hS hl
      have hj : j = q := by omega
      subst hj
      refine lv_iload hE.1 hE.2.1 dX9_copyRow_3 (lv_at hl 0 rfl) ?_
      refine lv_iload_n hE.1 hE.2.1 dX9_copyRow_5 rfl (lv_at hl 2 rfl) ?_
      refine lv_icmp_ge (tgt := 31) hE.1 hE.2.1 dX9_copyRow_6 (by decide) (fun _ => ?_) (fun h => absurd (nI_le (Nat.le_refl _) (by omega)) h)
      exact x_wv hE hr hlo hP hS ⟨rfl, rfl, rfl⟩ dX9_copyRow_31
    | succ r ih =>
      intro j H locs ls hj hP hS hl
      have e1 : nI q * nI b + nI j = nI (q * b + j) := by rw [pk_mul, nI_add]
      have e2 : nI q * nI a + nI j = nI (q * a + j) := by rw [pk_mul, nI_add]
      refine lv_iload hE.1 hE.2.1 dX9_copyRow_3 (lv_at hl 0 rfl) ?_
      refine lv_iload_n hE.1 hE.2.1 dX9_copyRow_5 rfl (lv_at hl 2 rfl) ?_
      refine lv_icmp_ge (tgt := 31) hE.1 hE.2.1 dX9_copyRow_6 (by decide) (fun h => absurd h (nI_ge (by omega) (by omega))) (fun _ => ?_)
      refine lv_aload_n hE.1 hE.2.1 dX9_copyRow_9 rfl (lv_at hl 1 rfl) ?_
      refine lv_iload_n hE.1 hE.2.1 dX9_copyRow_10 rfl (lv_at hl 2 rfl) ?_
      refine lv_iload_n hE.1 hE.2.1 dX9_copyRow_11 rfl (lv_at hl 4 rfl) ?_
      refine lv_imul hE.1 hE.2.1 dX9_copyRow_12 ?_
      refine lv_iload hE.1 hE.2.1 dX9_copyRow_13 (lv_at hl 0 rfl) ?_
      refine lv_iadd hE.1 hE.2.1 dX9_copyRow_15 ?_
      refine x_top e1 ?_
      refine lv_aload_n hE.1 hE.2.1 dX9_copyRow_16 rfl (lv_at hl 1 rfl) ?_
      refine lv_iload_n hE.1 hE.2.1 dX9_copyRow_17 rfl (lv_at hl 2 rfl) ?_
      refine lv_iload_n hE.1 hE.2.1 dX9_copyRow_18 rfl (lv_at hl 3 rfl) ?_
      refine lv_imul hE.1 hE.2.1 dX9_copyRow_19 ?_
      refine lv_iload hE.1 hE.2.1 dX9_copyRow_20 (lv_at hl 0 rfl) ?_
      refine lv_iadd hE.1 hE.2.1 dX9_copyRow_22 ?_
      refine x_top e2 ?_
      refine x_iald hE hK hP i hi (hf _) (vp_in_nI (by omega) hn) dX9_copyRow_23 ?_
      refine x_top (y := 0) (by rw [hz]) ?_
      refine x_iast hE hK hN hP hS i hi hf (vp_in_nI (by omega) hn) dX9_copyRow_24 (fun ar2 H locs har hP hS => ?_)
      rw [har.trans (up_same (by rw [hz]))] at hP
      refine lv_iinc (v := nI (j + 1)) (lv' := [(4, .int (nI (j + 1))), (0, .ref (ad i)), (1, .int (nI q)), (2, .int (nI a)), (3, .int (nI b))]) hE.1 hE.2.1 dX9_copyRow_25 hl (k := 0) rfl (nI_1 j) (by decide) rfl (fun ls hl => ?_)
      refine lv_goto (tgt := 3) hE.1 hE.2.1 dX9_copyRow_28 (by decide) ?_
      exact ih (j + 1) H locs ls (by omega) hP hS hl
  refine lv_iconst (v := 0) hE.1 hE.2.1 dX9_copyRow_0 (by decide) ?_
  refine lv_istore (lv' := [(4, .int 0), (0, .ref (ad i)), (1, .int (nI q)), (2, .int (nI a)), (3, .int (nI b))]) hE.1 hE.2.1 dX9_copyRow_1 hl (by decide) rfl (fun ls hl => ?_)
  exact loop q 0 _ _ _ (by omega) hP hS hl
/-! what a fresh object answers -/
def imB (x : Int32) : Int32 := if x < 0 then 0 else if x < 3 then 1 else 0
theorem i64lt (x y : Int32) : x.toInt64 < y.toInt64 ↔ x < y := by rw [Int64.lt_iff_toInt_lt, Int32.lt_iff_toInt_lt, Int32.toInt_toInt64, Int32.toInt_toInt64]
theorem inL_img (x : Int32) : inL x.toInt64 0 2 = imB x := by
  unfold inL imB
  have h0 : (0 : Int64) = (0 : Int32).toInt64 := by decide
  have h2 : (2 : Int64) = (2 : Int32).toInt64 := by decide
  rw [h0, h2]
  simp only [i64lt]
  by_cases h : x < 0
  · rw [if_pos h, if_pos h]
  · rw [if_neg h, if_neg h]
    by_cases h3 : x < 3
    · rw [if_pos h3, if_neg]
      intro q
      rw [Int32.lt_iff_toInt_lt] at q h3
      have e2 : (2 : Int32).toInt = 2 := by decide
      have e3 : (3 : Int32).toInt = 3 := by decide
      omega
    · rw [if_neg h3, if_pos]
      rw [Int32.lt_iff_toInt_lt] at h3 ⊢
      have e2 : (2 : Int32).toInt = 2 := by decide
      have e3 : (3 : Int32).toInt = 3 := by decide
      omega
theorem i32c {x : Int32} {n : Int32} (h : x.toInt = n.toInt) : x = n := Int32.toInt_inj.mp h
theorem slB_cases {x : Int32} (h : ¬ slB x = 0) : x = 0 ∨ x = 1 ∨ x = 2 ∨ x = 3 := by
  unfold slB at h
  by_cases h0 : x < 0
  · rw [if_pos h0] at h; exact absurd rfl h
  · rw [if_neg h0] at h
    by_cases h4 : 4 ≤ x
    · rw [if_pos h4] at h; exact absurd rfl h
    · rw [Int32.lt_iff_toInt_lt] at h0
      rw [Int32.le_iff_toInt_le] at h4
      have e0 : (0 : Int32).toInt = 0 := by decide
      have e1 : (1 : Int32).toInt = 1 := by decide
      have e2 : (2 : Int32).toInt = 2 := by decide
      have e3 : (3 : Int32).toInt = 3 := by decide
      have e4 : (4 : Int32).toInt = 4 := by decide
      rcases (show x.toInt = 0 ∨ x.toInt = 1 ∨ x.toInt = 2 ∨ x.toInt = 3 by omega) with q | q | q | q
      · exact Or.inl (i32c (q.trans e0.symm))
      · exact Or.inr (Or.inl (i32c (q.trans e1.symm)))
      · exact Or.inr (Or.inr (Or.inl (i32c (q.trans e2.symm))))
      · exact Or.inr (Or.inr (Or.inr (i32c (q.trans e3.symm))))
theorem im_cases {x : Int32} (h0 : ¬ x < 0) (h3 : x < 3) : x = 0 ∨ x = 1 ∨ x = 2 := by
  rw [Int32.lt_iff_toInt_lt] at h0 h3
  have e0 : (0 : Int32).toInt = 0 := by decide
  have e1 : (1 : Int32).toInt = 1 := by decide
  have e2 : (2 : Int32).toInt = 2 := by decide
  have e3 : (3 : Int32).toInt = 3 := by decide
  rcases (show x.toInt = 0 ∨ x.toInt = 1 ∨ x.toInt = 2 by omega) with q | q | q
  · exact Or.inl (i32c (q.trans e0.symm))
  · exact Or.inr (Or.inl (i32c (q.trans e1.symm)))
  · exact Or.inr (Or.inr (i32c (q.trans e2.symm)))
theorem imB_cases {x : Int32} (h : ¬ imB x = 0) : x = 0 ∨ x = 1 ∨ x = 2 := by
  unfold imB at h
  by_cases h0 : x < 0
  · rw [if_pos h0] at h; exact absurd rfl h
  · rw [if_neg h0] at h
    by_cases h3 : x < 3
    · exact im_cases h0 h3
    · rw [if_neg h3] at h; exact absurd rfl h
theorem slB_neg {x : Int32} (h : x < 0) : slB x = 0 := if_pos h
theorem slB_big {x : Int32} (h : 4 ≤ x) : slB x = 0 := by
  unfold slB
  split
  · rfl
  · rfl
theorem slB_in {x : Int32} (h : ¬ x < 0) (h4 : ¬ 4 ≤ x) : ¬ slB x = 0 := by
  unfold slB
  rw [if_neg h, if_neg h4]
  decide
theorem imB_neg {x : Int32} (h : x < 0) : imB x = 0 := if_pos h
theorem imB_big {x : Int32} (h : ¬ x < 0) (h3 : ¬ x < 3) : imB x = 0 := (if_neg h).trans (if_neg h3)
theorem imB_in {x : Int32} (h : ¬ x < 0) (h3 : x < 3) : ¬ imB x = 0 := by
  unfold imB
  rw [if_neg h, if_pos h3]
  decide
def fEnd (n : Int32) : Int32 := if n = 0 then 0 else -1
def fFault (w : Int32) : Int32 := if w = 0 then 0 else -1
def fCount (w : Int32) : Int32 := if 0 ≤ w ∧ w ≤ 9 then 0 else -1
def fKeep (k : Int32) : Int32 := if imB k = 0 then -2 else 0
def fBack (k : Int32) : Int32 := if imB k = 0 then -2 else -6
def fRow (s w n : Int32) : Int32 := if slB s = 0 then -2 else if slB w = 0 then -2 else if n ≤ 60 then if n < 0 then -3 else 0 else -2
def fWrite (s : Int32) : Int32 := if slB s = 0 then -2 else -6
def fPaste (s t : Int32) : Int32 := if slB s = 0 then -2 else if slB t = 0 then -2 else -6
theorem fEnd_neg {n : Int32} (h : n < 0) : -1 = fEnd n := (if_neg (fun q => by rw [q] at h; exact absurd h (by decide))).symm
theorem fEnd_pos {n : Int32} (h : ¬ n ≤ 0) : -1 = fEnd n := (if_neg (fun q => by rw [q] at h; exact absurd (by decide) h)).symm
theorem fEnd_zero {n : Int32} (h : ¬ n < 0) (h2 : n ≤ 0) : n = 0 := by
  rw [Int32.lt_iff_toInt_lt] at h
  rw [Int32.le_iff_toInt_le] at h2
  have e0 : (0 : Int32).toInt = 0 := by decide
  exact i32c (by omega)
theorem inL_zero {x : Int32} (h : ¬ inL x.toInt64 0 0 = 0) : x = 0 := by
  unfold inL at h
  have h0 : (0 : Int64) = (0 : Int32).toInt64 := by decide
  rw [h0] at h
  simp only [i64lt] at h
  by_cases h1 : x < 0
  · rw [if_pos h1] at h; exact absurd rfl h
  · rw [if_neg h1] at h
    by_cases h2 : 0 < x
    · rw [if_pos h2] at h; exact absurd rfl h
    · rw [Int32.lt_iff_toInt_lt] at h1 h2
      have e0 : (0 : Int32).toInt = 0 := by decide
      exact i32c (by omega)
theorem inL_nz {x : Int32} (h : inL x.toInt64 0 0 = 0) : -1 = fEnd x := by
  refine (if_neg (fun q => ?_)).symm
  subst q
  exact absurd h (by decide)
theorem fCount_in {w : Int32} (h1 : ¬ w.toInt < 0) (h2 : ¬ 9 < w.toInt) : fCount w = 0 := by
  refine if_pos ⟨?_, ?_⟩
  · rw [Int32.le_iff_toInt_le]
    have e0 : (0 : Int32).toInt = 0 := by decide
    omega
  · rw [Int32.le_iff_toInt_le]
    have e9 : (9 : Int32).toInt = 9 := by decide
    omega
theorem fCount_out {w : Int32} (h : w.toInt < 0 ∨ 9 < w.toInt) : fCount w = -1 := by
  refine if_neg (fun q => ?_)
  have q1 := q.1
  have q2 := q.2
  rw [Int32.le_iff_toInt_le] at q1 q2
  have e0 : (0 : Int32).toInt = 0 := by decide
  have e9 : (9 : Int32).toInt = 9 := by decide
  omega
theorem t10 {w : Int32} (h1 : ¬ w.toInt < 0) (h2 : ¬ 9 < w.toInt) : w = 0 ∨ w = 1 ∨ w = 2 ∨ w = 3 ∨ w = 4 ∨ w = 5 ∨ w = 6 ∨ w = 7 ∨ w = 8 ∨ w = 9 := by
  rcases (show w.toInt = 0 ∨ w.toInt = 1 ∨ w.toInt = 2 ∨ w.toInt = 3 ∨ w.toInt = 4 ∨ w.toInt = 5 ∨ w.toInt = 6 ∨ w.toInt = 7 ∨ w.toInt = 8 ∨ w.toInt = 9 by omega) with q | q | q | q | q | q | q | q | q | q
  · exact Or.inl (i32c (q.trans (by decide)))
  · exact Or.inr (Or.inl (i32c (q.trans (by decide))))
  · exact Or.inr (Or.inr (Or.inl (i32c (q.trans (by decide)))))
  · exact Or.inr (Or.inr (Or.inr (Or.inl (i32c (q.trans (by decide))))))
  · exact Or.inr (Or.inr (Or.inr (Or.inr (Or.inl (i32c (q.trans (by decide)))))))
  · exact Or.inr (Or.inr (Or.inr (Or.inr (Or.inr (Or.inl (i32c (q.trans (by decide))))))))
  · exact Or.inr (Or.inr (Or.inr (Or.inr (Or.inr (Or.inr (Or.inl (i32c (q.trans (by decide)))))))))
  · exact Or.inr (Or.inr (Or.inr (Or.inr (Or.inr (Or.inr (Or.inr (Or.inl (i32c (q.trans (by decide))))))))))
  · exact Or.inr (Or.inr (Or.inr (Or.inr (Or.inr (Or.inr (Or.inr (Or.inr (Or.inl (i32c (q.trans (by decide)))))))))))
  · exact Or.inr (Or.inr (Or.inr (Or.inr (Or.inr (Or.inr (Or.inr (Or.inr (Or.inr (i32c (q.trans (by decide)))))))))))
