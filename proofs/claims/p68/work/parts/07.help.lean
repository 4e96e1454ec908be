theorem iI_or {a b : Int} (ha : 0 ≤ a ∧ a ≤ 2147483647) (hb : 0 ≤ b ∧ b ≤ 2147483647) : ∃ z : Int, (0 ≤ z ∧ z ≤ 2147483647) ∧ iI a ||| iI b = iI z := by
  obtain ⟨z, hz, ez⟩ := iI_of (iI a ||| iI b)
  refine ⟨z, ⟨?_, hz.2⟩, ez⟩
  have h1 : (iI a ||| iI b).toInt = z := by rw [ez, iI_toInt hz]
  have e1 : (iI a).toBitVec.msb = false := by
    rw [BitVec.msb_eq_toInt]
    have : (iI a).toBitVec.toInt = a := iI_toInt (by omega)
    rw [this]
    simp; omega
  have e2 : (iI b).toBitVec.msb = false := by
    rw [BitVec.msb_eq_toInt]
    have : (iI b).toBitVec.toInt = b := iI_toInt (by omega)
    rw [this]
    simp; omega
  have e3 : (iI a ||| iI b).toBitVec.msb = false := by
    rw [Int32.toBitVec_or, BitVec.msb_or, e1, e2]; rfl
  rw [BitVec.msb_eq_toInt] at e3
  have e4 : (iI a ||| iI b).toBitVec.toInt = z := h1
  rw [e4] at e3
  simp at e3
  exact e3
theorem iI_shl1 {a : Int} (ha : 0 ≤ a ∧ a ≤ 9) : ∃ z : Int, (1 ≤ z ∧ z ≤ 512) ∧ iI 1 <<< (iI a &&& 31) = iI z := by
  rcases (show a = 0 ∨ a = 1 ∨ a = 2 ∨ a = 3 ∨ a = 4 ∨ a = 5 ∨ a = 6 ∨ a = 7 ∨ a = 8 ∨ a = 9 by omega) with rfl | rfl | rfl | rfl | rfl | rfl | rfl | rfl | rfl | rfl
  · exact ⟨1, by omega, by decide⟩
  · exact ⟨2, by omega, by decide⟩
  · exact ⟨4, by omega, by decide⟩
  · exact ⟨8, by omega, by decide⟩
  · exact ⟨16, by omega, by decide⟩
  · exact ⟨32, by omega, by decide⟩
  · exact ⟨64, by omega, by decide⟩
  · exact ⟨128, by omega, by decide⟩
  · exact ⟨256, by omega, by decide⟩
  · exact ⟨512, by omega, by decide⟩
theorem iI_nn {a : Int} (h : 0 ≤ a ∧ a ≤ 2147483647) : ¬ iI a < 0 := by
  rw [show (0 : Int32) = iI 0 from rfl, iI_lt (by omega) (by omega)]
  omega
theorem iI_cc {a b : Int} {n : Nat} (h : 0 ≤ a ∧ a ≤ 2147483647 ∧ 0 ≤ b ∧ b ≤ 2147483647 ∧ a + b ≤ n) : (iI a).toNatClampNeg + (iI b).toNatClampNeg ≤ n := by
  rw [iI_clamp (by omega), iI_clamp (by omega)]
  omega
section XR3
variable {p : Program} {l : Launch} {e : Env} {R : Room} {s : State} {m : MethodId} {args : Array Value} {below : List Frame} {meth : Method} {c : Code} {cc : ByteArray} {H : Heap} {locs : List Loc} {cells slots : Nat} {Q : State → Prop} {pc nL : Nat} {ls : Array Slot} {rest st : List Value} {D : va_G} {K : Nat → ClassId} {ad : Nat → Nat} {G : gT} {N : Nat} {v ar : sI} {al : sL} {own : String}
theorem x_zast (hE : CallFix p m c cc nL s args tbG own) (hK : va_K D xcl (xty K) s) (hN : apart ad N) (hP : va_P D xcl (wW ad G N v ar al) H) (hS : va_S (inW ad N) s.heap H locs) (i : Nat) (hi : i < N) {n : Nat} (hf : ∀ g : Nat → Int32, G i (v i) g (al i) = .inl (K 3, n, .inl g)) {j x : Int32} (hin : vp_in j n) (hdg : decode cc pc = .ok (.bastore, 1))
    (kk : ∀ (ar' : sI) (H1 : Heap) (locs1 : List Loc), ar' = va_up ar i (upd (ar i) j.toNatClampNeg (vp_nar .boolean x)) → va_P D xcl (wW ad G N v ar' al) H1 → va_S (inW ad N) s.heap H1 locs1 → W p l e R s m args below meth c H1 locs1 cells slots Q (F0 m (pc + 1) ls rest)) : W p l e R s m args below meth c H locs cells slots Q (F0 m pc ls (.int x :: .int j :: .ref (ad i) :: rest)) := by
  refine va_zast hE.1 hE.2.1 hK hP (pw_D hN (fun i hi => ⟨i, hi, rfl⟩)) hS i 3 (wW_at hi (hf _)) rfl hin hdg (fun H1 locs1 h1 _ h3 => ?_)
  rw [wW_a (hf _)] at h1
  exact kk _ H1 locs1 rfl h1 h3
theorem x_aald (hE : CallFix p m c cc nL s args tbG own) (hK : va_K D xcl (xty K) s) (hP : va_P D xcl (wW ad G N v ar al) H) (i t0 : Nat) (hi : i < N) {cA : ClassId} {C : String} {n : Nat} {f : Nat → Option Nat} (hf : G i (v i) (ar i) (al i) = .inl (cA, n, .inr (.inr (.inr (.inr f))))) (ht : (xty K)[t0]? = some (cA, .object C)) {j : Int32} (hin : vp_in j n) {r : Value} (hr : va_rf (f j.toNatClampNeg) = r) (hdg : decode cc pc = .ok (.aaload, 1))
    (kk : W p l e R s m args below meth c H locs cells slots Q (F0 m (pc + 1) ls (r :: rest))) : W p l e R s m args below meth c H locs cells slots Q (F0 m pc ls (.int j :: .ref (ad i) :: rest)) := by
  subst hr
  exact va_aldq hE.1 hE.2.1 hK hP i t0 (wW_at hi hf) ht hin hdg kk
end XR3
/-! Arrays.fill -/
theorem dJ7_fill_53178_0 : decode cJ7_fill_53178 0 = .ok (.iconst 0, 1) := by decide +kernel
theorem dJ7_fill_53178_1 : decode cJ7_fill_53178 1 = .ok (.istore_n 2, 1) := by decide +kernel
theorem dJ7_fill_53178_2 : decode cJ7_fill_53178 2 = .ok (.aload_n 0, 1) := by decide +kernel
theorem dJ7_fill_53178_3 : decode cJ7_fill_53178 3 = .ok (.arraylength, 1) := by decide +kernel
theorem dJ7_fill_53178_4 : decode cJ7_fill_53178 4 = .ok (.istore_n 3, 1) := by decide +kernel
theorem dJ7_fill_53178_5 : decode cJ7_fill_53178 5 = .ok (.iload_n 2, 1) := by decide +kernel
theorem dJ7_fill_53178_6 : decode cJ7_fill_53178 6 = .ok (.iload_n 3, 1) := by decide +kernel
theorem dJ7_fill_53178_7 : decode cJ7_fill_53178 7 = .ok (.if_icmp .ge 13, 3) := by decide +kernel
theorem dJ7_fill_53178_10 : decode cJ7_fill_53178 10 = .ok (.aload_n 0, 1) := by decide +kernel
theorem dJ7_fill_53178_11 : decode cJ7_fill_53178 11 = .ok (.iload_n 2, 1) := by decide +kernel
theorem dJ7_fill_53178_12 : decode cJ7_fill_53178 12 = .ok (.iload_n 1, 1) := by decide +kernel
theorem dJ7_fill_53178_13 : decode cJ7_fill_53178 13 = .ok (.iastore, 1) := by decide +kernel
theorem dJ7_fill_53178_14 : decode cJ7_fill_53178 14 = .ok (.iinc 2 1, 3) := by decide +kernel
theorem dJ7_fill_53178_17 : decode cJ7_fill_53178 17 = .ok (.goto (-12), 3) := by decide +kernel
theorem dJ7_fill_53178_20 : decode cJ7_fill_53178 20 = .ok (.return_, 1) := by decide +kernel
set_option maxHeartbeats 4000000 in
set_option maxRecDepth 100000 in
theorem k_fillI (l : Launch) (D : va_G) (K : Nat → ClassId) (ad : Nat → Nat) {G : gT} {N : Nat} (v ar : sI) (al : sL) (i n : Nat) (hi : i < N) (hf : ∀ g : Nat → Int32, G i (v i) g (al i) = .inl (K 0, n, .inl g)) (hn : n < 2 ^ 31) (x : Int32) : Met l yJ7_fill_53178 (wM yJ7_fill_53178 cJ7_fill_53178 4 none) (rmD 0) (va_Pc [.ref (ad i), .int x] (wPre D K ad G N v ar al)) (va_Qv (fun u : sT => u.1 = v ∧ u.2.2 = al ∧ (∀ k, k ≠ i → u.2.1 k = ar k) ∧ ∀ k, k < n → u.2.1 i k = x) (wB D ad G N) (inW ad N)) 0 0 (inW ad N) := by
  refine x_met (by decide) (Nat.le_of_ble_eq_true rfl) ?_
  intro p e s m below meth c ls hE hr hlo hnm hB hl
  have hE : CallFix p m c cJ7_fill_53178 4 s _ tbG "java/util/Arrays" := hE
  obtain ⟨hP, hK, hN⟩ := hB
  have hS : va_S (inW ad N) s.heap s.heap [] := va_S.rf
  have hl : lv_has ls 4 [(0, .ref (ad i)), (1, .int x)] := hl
  have loop : ∀ (r j : Nat) (ar1 : sI) (H : Heap) (locs : List Loc) (ls : Array Slot), j + r = n → (∀ k, k ≠ i → ar1 k = ar k) → (∀ k, k < j → ar1 i k = x) → va_P D xcl (wW ad G N v ar1 al) H → va_S (inW ad N) s.heap H locs → lv_has ls 4 [(3, .int (nI n)), (2, .int (nI j)), (0, .ref (ad i)), (1, .int x)] → W p l e (rmD 0) s m #[Value.ref (ad i), Value.int x] below meth c H locs 0 0 (MQ below (va_Qv (fun u : sT => u.1 = v ∧ u.2.2 = al ∧ (∀ k, k ≠ i → u.2.1 k = ar k) ∧ ∀ k, k < n → u.2.1 i k = x) (wB D ad G N) (inW ad N)) #[Value.ref (ad i), Value.int x] s 0 0 (inW ad N)) (F0 m 5 ls []) := by
    intro r
    induction r with
    | zero =>
      intro j ar1 H locs ls hj h1 h2 hP hS hl
      have hj : j = n := by omega
      subst hj
      refine lv_iload_n hE.1 hE.2.1 dJ7_fill_53178_5 rfl (lv_at hl 1 rfl) ?_
      refine lv_iload_n hE.1 hE.2.1 dJ7_fill_53178_6 rfl (lv_at hl 0 rfl) ?_
      refine lv_icmp_ge (tgt := 20) hE.1 hE.2.1 dJ7_fill_53178_7 (by decide) (fun _ => ?_) (fun h => absurd (nI_le (Nat.le_refl _) hn) h)
      exact x_wv hE hr hlo hP hS ⟨rfl, rfl, h1, h2⟩ dJ7_fill_53178_20
    | succ r ih =>
      intro j ar1 H locs ls hj h1 h2 hP hS hl
      refine lv_iload_n hE.1 hE.2.1 dJ7_fill_53178_5 rfl (lv_at hl 1 rfl) ?_
      refine lv_iload_n hE.1 hE.2.1 dJ7_fill_53178_6 rfl (lv_at hl 0 rfl) ?_
      refine lv_icmp_ge (tgt := 20) hE.1 hE.2.1 dJ7_fill_53178_7 (by decide) (fun h => absurd h (nI_ge (by omega) hn)) (fun _ => ?_)
      refine lv_aload_n hE.1 hE.2.1 dJ7_fill_53178_10 rfl (lv_at hl 2 rfl) ?_
      refine lv_iload_n hE.1 hE.2.1 dJ7_fill_53178_11 rfl (lv_at hl 1 rfl) ?_
      refine lv_iload_n hE.1 hE.2.1 dJ7_fill_53178_12 rfl (lv_at hl 3 rfl) ?_
      refine x_iast hE hK hN hP hS i hi hf (vp_in_nI (by omega) hn) dJ7_fill_53178_13 (fun ar2 H locs har hP hS => ?_)
      rw [nI_clamp (by omega)] at har
      refine lv_iinc (v := nI (j + 1)) (lv' := [(2, .int (nI (j + 1))), (3, .int (nI n)), (0, .ref (ad i)), (1, .int x)]) hE.1 hE.2.1 dJ7_fill_53178_14 hl (k := 1) rfl (nI_1 j) (by decide) rfl (fun ls hl => ?_)
      refine lv_goto (tgt := 5) hE.1 hE.2.1 dJ7_fill_53178_17 (by decide) ?_
      refine ih (j + 1) ar2 H locs ls (by omega) (fun k hk => ?_) (fun k hk => ?_) hP hS (lv_sub hl [1, 0, 2, 3] rfl)
      · rw [har]; simp [va_up, hk, h1 k hk]
      · rw [har]
        by_cases hkj : k = j
        · subst hkj; simp [va_up, upd]
        · simp [va_up, upd, hkj, h2 k (by omega)]
  refine lv_iconst (v := 0) hE.1 hE.2.1 dJ7_fill_53178_0 (by decide) ?_
  refine lv_istore_n (lv' := [(2, .int 0), (0, .ref (ad i)), (1, .int x)]) hE.1 hE.2.1 dJ7_fill_53178_1 rfl hl (by decide) rfl (fun ls hl => ?_)
  refine lv_aload_n hE.1 hE.2.1 dJ7_fill_53178_2 rfl (lv_at hl 1 rfl) ?_
  refine x_alen (w := nI n) hE hK hP i 0 hi (hf _) rfl rfl dJ7_fill_53178_3 ?_
  refine lv_istore_n (lv' := [(3, .int (nI n)), (2, .int 0), (0, .ref (ad i)), (1, .int x)]) hE.1 hE.2.1 dJ7_fill_53178_4 rfl hl (by decide) rfl (fun ls hl => ?_)
  exact loop n 0 ar _ _ _ (by omega) (fun _ _ => rfl) (fun k hk => absurd hk (Nat.not_lt_zero k)) hP hS hl
theorem dJ7_fill_d0a16_0 : decode cJ7_fill_d0a16 0 = .ok (.iconst 0, 1) := by decide +kernel
theorem dJ7_fill_d0a16_1 : decode cJ7_fill_d0a16 1 = .ok (.istore_n 3, 1) := by decide +kernel
theorem dJ7_fill_d0a16_2 : decode cJ7_fill_d0a16 2 = .ok (.aload_n 0, 1) := by decide +kernel
theorem dJ7_fill_d0a16_3 : decode cJ7_fill_d0a16 3 = .ok (.arraylength, 1) := by decide +kernel
theorem dJ7_fill_d0a16_4 : decode cJ7_fill_d0a16 4 = .ok (.istore 4, 2) := by decide +kernel
theorem dJ7_fill_d0a16_6 : decode cJ7_fill_d0a16 6 = .ok (.iload_n 3, 1) := by decide +kernel
theorem dJ7_fill_d0a16_7 : decode cJ7_fill_d0a16 7 = .ok (.iload 4, 2) := by decide +kernel
theorem dJ7_fill_d0a16_9 : decode cJ7_fill_d0a16 9 = .ok (.if_icmp .ge 13, 3) := by decide +kernel
theorem dJ7_fill_d0a16_12 : decode cJ7_fill_d0a16 12 = .ok (.aload_n 0, 1) := by decide +kernel
theorem dJ7_fill_d0a16_13 : decode cJ7_fill_d0a16 13 = .ok (.iload_n 3, 1) := by decide +kernel
theorem dJ7_fill_d0a16_14 : decode cJ7_fill_d0a16 14 = .ok (.lload_n 1, 1) := by decide +kernel
theorem dJ7_fill_d0a16_15 : decode cJ7_fill_d0a16 15 = .ok (.lastore, 1) := by decide +kernel
theorem dJ7_fill_d0a16_16 : decode cJ7_fill_d0a16 16 = .ok (.iinc 3 1, 3) := by decide +kernel
theorem dJ7_fill_d0a16_19 : decode cJ7_fill_d0a16 19 = .ok (.goto (-13), 3) := by decide +kernel
theorem dJ7_fill_d0a16_22 : decode cJ7_fill_d0a16 22 = .ok (.return_, 1) := by decide +kernel
set_option maxHeartbeats 4000000 in
set_option maxRecDepth 100000 in
theorem k_fillL (l : Launch) (D : va_G) (K : Nat → ClassId) (ad : Nat → Nat) {G : gT} {N : Nat} (v ar : sI) (al : sL) (i n : Nat) (hi : i < N) (hf : ∀ g : Nat → Int64, G i (v i) (ar i) g = .inl (K 1, n, .inr (.inl g))) (hn : n < 2 ^ 31) (x : Int64) : Met l yJ7_fill_d0a16 (wM yJ7_fill_d0a16 cJ7_fill_d0a16 5 none) (rmD 0) (va_Pc [.ref (ad i), .long x] (wPre D K ad G N v ar al)) (va_Qv (fun u : sT => u.1 = v ∧ u.2.1 = ar ∧ (∀ k, k ≠ i → u.2.2 k = al k) ∧ ∀ k, k < n → u.2.2 i k = x) (wB D ad G N) (inW ad N)) 0 0 (inW ad N) := by
  refine x_met (by decide) (Nat.le_of_ble_eq_true rfl) ?_
  intro p e s m below meth c ls hE hr hlo hnm hB hl
  have hE : CallFix p m c cJ7_fill_d0a16 5 s _ tbG "java/util/Arrays" := hE
  obtain ⟨hP, hK, hN⟩ := hB
  have hS : va_S (inW ad N) s.heap s.heap [] := va_S.rf
  have hl : lv_has ls 5 [(0, .ref (ad i)), (1, .long x)] := hl
  have loop : ∀ (r j : Nat) (al1 : sL) (H : Heap) (locs : List Loc) (ls : Array Slot), j + r = n → (∀ k, k ≠ i → al1 k = al k) → (∀ k, k < j → al1 i k = x) → va_P D xcl (wW ad G N v ar al1) H → va_S (inW ad N) s.heap H locs → lv_has ls 5 [(4, .int (nI n)), (3, .int (nI j)), (0, .ref (ad i)), (1, .long x)] → W p l e (rmD 0) s m #[Value.ref (ad i), Value.long x] below meth c H locs 0 0 (MQ below (va_Qv (fun u : sT => u.1 = v ∧ u.2.1 = ar ∧ (∀ k, k ≠ i → u.2.2 k = al k) ∧ ∀ k, k < n → u.2.2 i k = x) (wB D ad G N) (inW ad N)) #[Value.ref (ad i), Value.long x] s 0 0 (inW ad N)) (F0 m 6 ls []) := by
    intro r
    induction r with
    | zero =>
      intro j al1 H locs ls hj h1 h2 hP hS hl
      have hj : j = n := by omega
      subst hj
      refine lv_iload_n hE.1 hE.2.1 dJ7_fill_d0a16_6 rfl (lv_at hl 1 rfl) ?_
      refine lv_iload hE.1 hE.2.1 dJ7_fill_d0a16_7 (lv_at hl 0 rfl) ?_
      refine lv_icmp_ge (tgt := 22) hE.1 hE.2.1 dJ7_fill_d0a16_9 (by decide) (fun _ => ?_) (fun h => absurd (nI_le (Nat.le_refl _) hn) h)
      exact x_wv hE hr hlo hP hS ⟨rfl, rfl, h1, h2⟩ dJ7_fill_d0a16_22
    | succ r ih =>
      intro j al1 H locs ls hj h1 h2 hP hS hl
      refine lv_iload_n hE.1 hE.2.1 dJ7_fill_d0a16_6 rfl (lv_at hl 1 rfl) ?_
      refine lv_iload hE.1 hE.2.1 dJ7_fill_d0a16_7 (lv_at hl 0 rfl) ?_
      refine lv_icmp_ge (tgt := 22) hE.1 hE.2.1 dJ7_fill_d0a16_9 (by decide) (fun h => absurd h (nI_ge (by omega) hn)) (fun _ => ?_)
      refine lv_aload_n hE.1 hE.2.1 dJ7_fill_d0a16_12 rfl (lv_at hl 2 rfl) ?_
      refine lv_iload_n hE.1 hE.2.1 dJ7_fill_d0a16_13 rfl (lv_at hl 1 rfl) ?_
      refine lv_lload_n hE.1 hE.2.1 dJ7_fill_d0a16_14 rfl (lv_at hl 3 rfl) ?_
      refine x_last hE hK hN hP hS i hi hf (vp_in_nI (by omega) hn) dJ7_fill_d0a16_15 (fun al2 H locs har hP hS => ?_)
      rw [nI_clamp (by omega)] at har
      refine lv_iinc (v := nI (j + 1)) (lv' := [(3, .int (nI (j + 1))), (4, .int (nI n)), (0, .ref (ad i)), (1, .long x)]) hE.1 hE.2.1 dJ7_fill_d0a16_16 hl (k := 1) rfl (nI_1 j) (by decide) rfl (fun ls hl => ?_)
      refine lv_goto (tgt := 6) hE.1 hE.2.1 dJ7_fill_d0a16_19 (by decide) ?_
      refine ih (j + 1) al2 H locs ls (by omega) (fun k hk => ?_) (fun k hk => ?_) hP hS (lv_sub hl [1, 0, 2, 3] rfl)
      · rw [har]; simp [va_up, hk, h1 k hk]
      · rw [har]
        by_cases hkj : k = j
        · subst hkj; simp [va_up, vp_updL]
        · simp [va_up, vp_updL, hkj, h2 k (by omega)]
  refine lv_iconst (v := 0) hE.1 hE.2.1 dJ7_fill_d0a16_0 (by decide) ?_
  refine lv_istore_n (lv' := [(3, .int 0), (0, .ref (ad i)), (1, .long x)]) hE.1 hE.2.1 dJ7_fill_d0a16_1 rfl hl (by decide) rfl (fun ls hl => ?_)
  refine lv_aload_n hE.1 hE.2.1 dJ7_fill_d0a16_2 rfl (lv_at hl 1 rfl) ?_
  refine x_alen (w := nI n) hE hK hP i 1 hi (hf _) rfl rfl dJ7_fill_d0a16_3 ?_
  refine lv_istore (lv' := [(4, .int (nI n)), (3, .int 0), (0, .ref (ad i)), (1, .long x)]) hE.1 hE.2.1 dJ7_fill_d0a16_4 hl (by decide) rfl (fun ls hl => ?_)
  exact loop n 0 al _ _ _ (by omega) (fun _ _ => rfl) (fun k hk => absurd hk (Nat.not_lt_zero k)) hP hS hl
section XR4
variable {p : Program} {l : Launch} {e : Env} {R : Room} {s : State} {m : MethodId} {args : Array Value} {below : List Frame} {meth : Method} {c : Code} {cc : ByteArray} {H : Heap} {locs : List Loc} {cells slots : Nat} {Q : State → Prop} {pc nL : Nat} {ls : Array Slot} {rest st : List Value} {D : va_G} {K : Nat → ClassId} {ad : Nat → Nat} {G : gT} {N : Nat} {v ar : sI} {al : sL} {own : String}
theorem x_copyl (hE : CallFix p m c cc nL s args tbG own) (hls : ls.size = nL) (hK : va_K D xcl (xty K) s) (hN : apart ad N) (hP : va_P D xcl (wW ad G N v ar al) H) (hS : va_S (inW ad N) s.heap H locs) {index : Nat} (hlink : Cond.methodLink own index arraycopyName ∈ tbG) (hnat : Cond.native arraycopyName ∈ tbG) (hstat : Cond.static arraycopyName ∈ tbG) (hini : Cond.initialized "java/lang/System" ∈ tbG) (i k : Nat) (hi : i < N) (hk : k < N) {n0 n1 : Nat} (hf : G i (v i) (ar i) (al i) = .inl (K 1, n0, .inr (.inl (al i)))) (hg : ∀ g : Nat → Int64, G k (v k) (ar k) g = .inl (K 1, n1, .inr (.inl g))) {sp dp n : Int32} (h1 : ¬ sp < 0) (h2 : ¬ dp < 0) (h3 : ¬ n < 0) (h4 : sp.toNatClampNeg + n.toNatClampNeg ≤ n0) (h5 : dp.toNatClampNeg + n.toNatClampNeg ≤ n1) (hfr : 1 ≤ R.frames) (hlo : (rest.map fun v => v.category).sum + (nativeFrameWords "java/lang/System" "arraycopy" 5 + 11) ≤ R.locals) (hdg : decode cc pc = .ok (.invokestatic index, 3))
    (kk : ∀ (al' : sL) (H1 : Heap) (locs1 : List Loc), al' = va_up al k (va_cpy (al i) (al k) sp.toNatClampNeg dp.toNatClampNeg n.toNatClampNeg) → va_P D xcl (wW ad G N v ar al') H1 → va_S (inW ad N) s.heap H1 locs1 → W p l e R s m args below meth c H1 locs1 cells slots Q (F0 m (pc + 3) ls rest)) : W p l e R s m args below meth c H locs cells slots Q (F0 m pc ls (.int n :: .int dp :: .ref (ad k) :: .int sp :: .ref (ad i) :: rest)) := by
  refine va_copyl hE.1 hE.2.1 (hE.2.2.1.trans hls.symm) hE.2.2.2.1 (hE.2.2.2.2 _ hlink) (hE.2.2.2.2 _ hnat) (hE.2.2.2.2 _ hstat) (hE.2.2.2.2 _ hini) hK hP (pw_D hN (fun i hi => ⟨i, hi, rfl⟩)) hS i k 1 1 (wW_at hi hf) (wW_at hk (hg _)) rfl rfl rfl h1 h2 h3 h4 h5 (fun _ _ => rfl) hfr hlo hdg (fun H1 locs1 a1 _ a3 => ?_)
  rw [wW_l (hg _)] at a1
  exact kk _ H1 locs1 rfl a1 a3
end XR4
theorem iI_max {a b : Int} (ha : -2147483648 ≤ a ∧ a ≤ 2147483647) (hb : -2147483648 ≤ b ∧ b ≤ 2147483647) : ∃ z : Int, ((z = a ∨ z = b) ∧ a ≤ z ∧ b ≤ z) ∧ (if iI a < iI b then iI b else iI a) = iI z := by
  by_cases h : iI a < iI b
  · rw [if_pos h]
    rw [iI_lt ha hb] at h
    exact ⟨b, by omega, rfl⟩
  · rw [if_neg h]
    rw [iI_lt ha hb] at h
    exact ⟨a, by omega, rfl⟩
theorem iI_min {a b : Int} (ha : -2147483648 ≤ a ∧ a ≤ 2147483647) (hb : -2147483648 ≤ b ∧ b ≤ 2147483647) : ∃ z : Int, ((z = a ∨ z = b) ∧ z ≤ a ∧ z ≤ b) ∧ (if iI b < iI a then iI b else iI a) = iI z := by
  by_cases h : iI b < iI a
  · rw [if_pos h]
    rw [iI_lt hb ha] at h
    exact ⟨b, by omega, rfl⟩
  · rw [if_neg h]
    rw [iI_lt hb ha] at h
    exact ⟨a, by omega, rfl⟩
