def iI (z : Int) : Int32 := Int32.ofInt z
def lI (z : Int) : Int64 := Int64.ofInt z
theorem iI_toInt {z : Int} (h : -2147483648 ≤ z ∧ z ≤ 2147483647) : (iI z).toInt = z := Int32.toInt_ofInt_of_le (by omega) (by omega)
theorem lI_toInt {z : Int} (h : -9223372036854775808 ≤ z ∧ z ≤ 9223372036854775807) : (lI z).toInt = z := Int64.toInt_ofInt_of_le (by omega) (by omega)
theorem iI_of (x : Int32) : ∃ z : Int, (-2147483648 ≤ z ∧ z ≤ 2147483647) ∧ x = iI z := ⟨x.toInt, ⟨by have := x.le_toInt; omega, by have := x.toInt_lt; omega⟩, (Int32.ofInt_toInt x).symm⟩
theorem lI_of (x : Int64) : ∃ z : Int, (-9223372036854775808 ≤ z ∧ z ≤ 9223372036854775807) ∧ x = lI z := ⟨x.toInt, ⟨by have := x.le_toInt; omega, by have := x.toInt_lt; omega⟩, (Int64.ofInt_toInt x).symm⟩
theorem iI_add (a b : Int) : iI a + iI b = iI (a + b) := (Int32.ofInt_add a b).symm
theorem iI_sub (a b : Int) : iI a - iI b = iI (a - b) := (Int32.ofInt_sub a b).symm
theorem iI_mul (a b : Int) : iI a * iI b = iI (a * b) := (Int32.ofInt_mul a b).symm
theorem iI_lt {a b : Int} (ha : -2147483648 ≤ a ∧ a ≤ 2147483647) (hb : -2147483648 ≤ b ∧ b ≤ 2147483647) : iI a < iI b ↔ a < b := by rw [Int32.lt_iff_toInt_lt, iI_toInt ha, iI_toInt hb]
theorem iI_le {a b : Int} (ha : -2147483648 ≤ a ∧ a ≤ 2147483647) (hb : -2147483648 ≤ b ∧ b ≤ 2147483647) : iI a ≤ iI b ↔ a ≤ b := by rw [Int32.le_iff_toInt_le, iI_toInt ha, iI_toInt hb]
theorem iI_eq {a b : Int} (ha : -2147483648 ≤ a ∧ a ≤ 2147483647) (hb : -2147483648 ≤ b ∧ b ≤ 2147483647) : iI a = iI b ↔ a = b := by rw [← Int32.toInt_inj, iI_toInt ha, iI_toInt hb]
theorem iI_clamp {z : Int} (h : 0 ≤ z ∧ z ≤ 2147483647) : (iI z).toNatClampNeg = z.toNat := by unfold Int32.toNatClampNeg; rw [iI_toInt (by omega)]
theorem iI_in {z : Int} {n : Nat} (h : 0 ≤ z ∧ z < n ∧ z ≤ 2147483647) : vp_in (iI z) n := by
  unfold vp_in
  rw [iI_clamp (by omega)]
  intro q
  rcases q with q | q
  · rw [show (0 : Int32) = iI 0 from rfl, iI_lt (by omega) (by omega)] at q
    omega
  · omega
theorem iI_nI (n : Nat) : nI n = iI n := by
  unfold nI iI
  exact (Int32.ofInt_eq_ofNat).symm
theorem iI_and (x : Int32) (m : Int32) (k : Nat) (hm : m.toBitVec.toNat = 2 ^ k - 1) : ∃ z : Int, (0 ≤ z ∧ z < 2 ^ k) ∧ x &&& m = iI z := by
  obtain ⟨j, hj, e⟩ := pk_andE x (m := m) k hm
  exact ⟨j, ⟨by omega, by exact_mod_cast hj⟩, by rw [e, iI_nI]⟩
theorem iI_rem {a b : Int} (ha : 0 ≤ a ∧ a ≤ 2147483647) (hb : 0 < b ∧ b ≤ 2147483647) : iI a - iI a / iI b * iI b = iI (a % b) := by
  obtain ⟨n, rfl⟩ := Int.eq_ofNat_of_zero_le ha.1
  obtain ⟨d, rfl⟩ := Int.eq_ofNat_of_zero_le (show (0 : Int) ≤ b by omega)
  rw [← iI_nI, ← iI_nI, pk_rem (by omega) (by omega) (by omega), iI_nI]
  rfl
theorem iI_i2l {z : Int} (h : -2147483648 ≤ z ∧ z ≤ 2147483647) : (iI z).toInt64 = lI z := by
  apply Int64.toInt_inj.mp
  rw [Int32.toInt_toInt64, iI_toInt h, lI_toInt (by omega)]
theorem lI_l2i (z : Int) : (lI z).toInt32 = iI z := Int64.toInt32_ofInt
theorem lcmp_of {a b : Int} (ha : -9223372036854775808 ≤ a ∧ a ≤ 9223372036854775807) (hb : -9223372036854775808 ≤ b ∧ b ≤ 9223372036854775807) : ∃ z : Int, ((z = -1 ∧ a < b) ∨ (z = 0 ∧ a = b) ∨ (z = 1 ∧ b < a)) ∧ lg_cmp (lI a) (lI b) = iI z := by
  unfold lg_cmp
  by_cases h : lI a > lI b
  · refine ⟨1, Or.inr (Or.inr ⟨rfl, ?_⟩), by rw [if_pos h]; rfl⟩
    have h2 : lI b < lI a := h
    rw [Int64.lt_iff_toInt_lt, lI_toInt ha, lI_toInt hb] at h2
    exact h2
  · by_cases h1 : lI a = lI b
    · refine ⟨0, Or.inr (Or.inl ⟨rfl, ?_⟩), by rw [if_neg h, if_pos h1]; rfl⟩
      rw [← Int64.toInt_inj, lI_toInt ha, lI_toInt hb] at h1
      exact h1
    · refine ⟨-1, Or.inl ⟨rfl, ?_⟩, by rw [if_neg h, if_neg h1]; rfl⟩
      have h2 : ¬ lI b < lI a := h
      rw [Int64.lt_iff_toInt_lt, lI_toInt ha, lI_toInt hb] at h2
      rw [← Int64.toInt_inj, lI_toInt ha, lI_toInt hb] at h1
      omega
theorem lI_ne0 {z : Int} (h : -9223372036854775808 ≤ z ∧ z ≤ 9223372036854775807) (h0 : z ≠ 0) : ¬ lI z = 0 := by
  intro q
  rw [← Int64.toInt_inj, lI_toInt h] at q
  exact h0 q
theorem iI_ne0 {z : Int} (h : -2147483648 ≤ z ∧ z ≤ 2147483647) (h0 : z ≠ 0) : ¬ iI z = 0 := by
  intro q
  rw [← Int32.toInt_inj, iI_toInt h] at q
  exact h0 q
theorem nar01 {z : Int} (h : 0 ≤ z ∧ z ≤ 1) : narrow .boolean (.int (iI z)) = .int (iI z) := by
  rcases (show z = 0 ∨ z = 1 by omega) with rfl | rfl <;> rfl
section SR
variable {p : Program} {l : Launch} {e : Env} {R : Room} {s : State} {m : MethodId} {args : Array Value} {below : List Frame} {meth : Method} {c : Code} {cc : ByteArray} {H : Heap} {locs : List Loc} {cells slots : Nat} {Q : State → Prop} {pc nL : Nat} {ls : Array Slot} {rest st : List Value}
theorem s_icmp_eq (hx : p.tables.exec = Jvm.exec) (hc : c.code = cc) {a b : Int} (ha : -2147483648 ≤ a ∧ a ≤ 2147483647) (hb : -2147483648 ≤ b ∧ b ≤ 2147483647) {off : Int} {tgt : Nat} (hdg : decode cc pc = .ok (.if_icmp .eq off, 3)) (ht : (pc : Int) + off = (tgt : Int)) (kt : a = b → W p l e R s m args below meth c H locs cells slots Q (F0 m tgt ls rest)) (kf : a ≠ b → W p l e R s m args below meth c H locs cells slots Q (F0 m (pc + 3) ls rest)) : W p l e R s m args below meth c H locs cells slots Q (F0 m pc ls (.int (iI b) :: .int (iI a) :: rest)) :=
  lv_icmp_eq hx hc hdg ht (fun q => kt ((iI_eq ha hb).mp q)) (fun q => kf (fun z => q ((iI_eq ha hb).mpr z)))
theorem s_if_eq (hx : p.tables.exec = Jvm.exec) (hc : c.code = cc) {a : Int} (ha : -2147483648 ≤ a ∧ a ≤ 2147483647) {off : Int} {tgt : Nat} (hdg : decode cc pc = .ok (.ifCond .eq off, 3)) (ht : (pc : Int) + off = (tgt : Int)) (kt : a = 0 → W p l e R s m args below meth c H locs cells slots Q (F0 m tgt ls rest)) (kf : a ≠ 0 → W p l e R s m args below meth c H locs cells slots Q (F0 m (pc + 3) ls rest)) : W p l e R s m args below meth c H locs cells slots Q (F0 m pc ls (.int (iI a) :: rest)) := by
  have hb : (-2147483648 : Int) ≤ 0 ∧ (0 : Int) ≤ 2147483647 := by omega
  exact lv_if_eq hx hc hdg ht (fun q => kt ((iI_eq ha hb).mp q)) (fun q => kf (fun z => q ((iI_eq ha hb).mpr z)))
theorem s_icmp_ne (hx : p.tables.exec = Jvm.exec) (hc : c.code = cc) {a b : Int} (ha : -2147483648 ≤ a ∧ a ≤ 2147483647) (hb : -2147483648 ≤ b ∧ b ≤ 2147483647) {off : Int} {tgt : Nat} (hdg : decode cc pc = .ok (.if_icmp .ne off, 3)) (ht : (pc : Int) + off = (tgt : Int)) (kt : a ≠ b → W p l e R s m args below meth c H locs cells slots Q (F0 m tgt ls rest)) (kf : a = b → W p l e R s m args below meth c H locs cells slots Q (F0 m (pc + 3) ls rest)) : W p l e R s m args below meth c H locs cells slots Q (F0 m pc ls (.int (iI b) :: .int (iI a) :: rest)) :=
  lv_icmp_ne hx hc hdg ht (fun q => kt (fun z => q ((iI_eq ha hb).mpr z))) (fun q => kf ((iI_eq ha hb).mp q))
theorem s_if_ne (hx : p.tables.exec = Jvm.exec) (hc : c.code = cc) {a : Int} (ha : -2147483648 ≤ a ∧ a ≤ 2147483647) {off : Int} {tgt : Nat} (hdg : decode cc pc = .ok (.ifCond .ne off, 3)) (ht : (pc : Int) + off = (tgt : Int)) (kt : a ≠ 0 → W p l e R s m args below meth c H locs cells slots Q (F0 m tgt ls rest)) (kf : a = 0 → W p l e R s m args below meth c H locs cells slots Q (F0 m (pc + 3) ls rest)) : W p l e R s m args below meth c H locs cells slots Q (F0 m pc ls (.int (iI a) :: rest)) := by
  have hb : (-2147483648 : Int) ≤ 0 ∧ (0 : Int) ≤ 2147483647 := by omega
  exact lv_if_ne hx hc hdg ht (fun q => kt (fun z => q ((iI_eq ha hb).mpr z))) (fun q => kf ((iI_eq ha hb).mp q))
theorem s_icmp_lt (hx : p.tables.exec = Jvm.exec) (hc : c.code = cc) {a b : Int} (ha : -2147483648 ≤ a ∧ a ≤ 2147483647) (hb : -2147483648 ≤ b ∧ b ≤ 2147483647) {off : Int} {tgt : Nat} (hdg : decode cc pc = .ok (.if_icmp .lt off, 3)) (ht : (pc : Int) + off = (tgt : Int)) (kt : a < b → W p l e R s m args below meth c H locs cells slots Q (F0 m tgt ls rest)) (kf : b ≤ a → W p l e R s m args below meth c H locs cells slots Q (F0 m (pc + 3) ls rest)) : W p l e R s m args below meth c H locs cells slots Q (F0 m pc ls (.int (iI b) :: .int (iI a) :: rest)) :=
  lv_icmp_lt hx hc hdg ht (fun q => kt ((iI_lt ha hb).mp q)) (fun q => kf (by have := mt (iI_lt ha hb).mpr q; omega))
theorem s_if_lt (hx : p.tables.exec = Jvm.exec) (hc : c.code = cc) {a : Int} (ha : -2147483648 ≤ a ∧ a ≤ 2147483647) {off : Int} {tgt : Nat} (hdg : decode cc pc = .ok (.ifCond .lt off, 3)) (ht : (pc : Int) + off = (tgt : Int)) (kt : a < 0 → W p l e R s m args below meth c H locs cells slots Q (F0 m tgt ls rest)) (kf : 0 ≤ a → W p l e R s m args below meth c H locs cells slots Q (F0 m (pc + 3) ls rest)) : W p l e R s m args below meth c H locs cells slots Q (F0 m pc ls (.int (iI a) :: rest)) := by
  have hb : (-2147483648 : Int) ≤ 0 ∧ (0 : Int) ≤ 2147483647 := by omega
  exact lv_if_lt hx hc hdg ht (fun q => kt ((iI_lt ha hb).mp q)) (fun q => kf (by have := mt (iI_lt ha hb).mpr q; omega))
theorem s_icmp_ge (hx : p.tables.exec = Jvm.exec) (hc : c.code = cc) {a b : Int} (ha : -2147483648 ≤ a ∧ a ≤ 2147483647) (hb : -2147483648 ≤ b ∧ b ≤ 2147483647) {off : Int} {tgt : Nat} (hdg : decode cc pc = .ok (.if_icmp .ge off, 3)) (ht : (pc : Int) + off = (tgt : Int)) (kt : b ≤ a → W p l e R s m args below meth c H locs cells slots Q (F0 m tgt ls rest)) (kf : a < b → W p l e R s m args below meth c H locs cells slots Q (F0 m (pc + 3) ls rest)) : W p l e R s m args below meth c H locs cells slots Q (F0 m pc ls (.int (iI b) :: .int (iI a) :: rest)) :=
  lv_icmp_ge hx hc hdg ht (fun q => kt ((iI_le hb ha).mp q)) (fun q => kf (by have := mt (iI_le hb ha).mpr q; omega))
theorem s_if_ge (hx : p.tables.exec = Jvm.exec) (hc : c.code = cc) {a : Int} (ha : -2147483648 ≤ a ∧ a ≤ 2147483647) {off : Int} {tgt : Nat} (hdg : decode cc pc = .ok (.ifCond .ge off, 3)) (ht : (pc : Int) + off = (tgt : Int)) (kt : 0 ≤ a → W p l e R s m args below meth c H locs cells slots Q (F0 m tgt ls rest)) (kf : a < 0 → W p l e R s m args below meth c H locs cells slots Q (F0 m (pc + 3) ls rest)) : W p l e R s m args below meth c H locs cells slots Q (F0 m pc ls (.int (iI a) :: rest)) := by
  have hb : (-2147483648 : Int) ≤ 0 ∧ (0 : Int) ≤ 2147483647 := by omega
  exact lv_if_ge hx hc hdg ht (fun q => kt ((iI_le hb ha).mp q)) (fun q => kf (by have := mt (iI_le hb ha).mpr q; omega))
theorem s_icmp_gt (hx : p.tables.exec = Jvm.exec) (hc : c.code = cc) {a b : Int} (ha : -2147483648 ≤ a ∧ a ≤ 2147483647) (hb : -2147483648 ≤ b ∧ b ≤ 2147483647) {off : Int} {tgt : Nat} (hdg : decode cc pc = .ok (.if_icmp .gt off, 3)) (ht : (pc : Int) + off = (tgt : Int)) (kt : b < a → W p l e R s m args below meth c H locs cells slots Q (F0 m tgt ls rest)) (kf : a ≤ b → W p l e R s m args below meth c H locs cells slots Q (F0 m (pc + 3) ls rest)) : W p l e R s m args below meth c H locs cells slots Q (F0 m pc ls (.int (iI b) :: .int (iI a) :: rest)) :=
  lv_icmp_gt hx hc hdg ht (fun q => kt ((iI_lt hb ha).mp q)) (fun q => kf (by have := mt (iI_lt hb ha).mpr q; omega))
theorem s_if_gt (hx : p.tables.exec = Jvm.exec) (hc : c.code = cc) {a : Int} (ha : -2147483648 ≤ a ∧ a ≤ 2147483647) {off : Int} {tgt : Nat} (hdg : decode cc pc = .ok (.ifCond .gt off, 3)) (ht : (pc : Int) + off = (tgt : Int)) (kt : 0 < a → W p l e R s m args below meth c H locs cells slots Q (F0 m tgt ls rest)) (kf : a ≤ 0 → W p l e R s m args below meth c H locs cells slots Q (F0 m (pc + 3) ls rest)) : W p l e R s m args below meth c H locs cells slots Q (F0 m pc ls (.int (iI a) :: rest)) := by
  have hb : (-2147483648 : Int) ≤ 0 ∧ (0 : Int) ≤ 2147483647 := by omega
  exact lv_if_gt hx hc hdg ht (fun q => kt ((iI_lt hb ha).mp q)) (fun q => kf (by have := mt (iI_lt hb ha).mpr q; omega))
theorem s_icmp_le (hx : p.tables.exec = Jvm.exec) (hc : c.code = cc) {a b : Int} (ha : -2147483648 ≤ a ∧ a ≤ 2147483647) (hb : -2147483648 ≤ b ∧ b ≤ 2147483647) {off : Int} {tgt : Nat} (hdg : decode cc pc = .ok (.if_icmp .le off, 3)) (ht : (pc : Int) + off = (tgt : Int)) (kt : a ≤ b → W p l e R s m args below meth c H locs cells slots Q (F0 m tgt ls rest)) (kf : b < a → W p l e R s m args below meth c H locs cells slots Q (F0 m (pc + 3) ls rest)) : W p l e R s m args below meth c H locs cells slots Q (F0 m pc ls (.int (iI b) :: .int (iI a) :: rest)) :=
  lv_icmp_le hx hc hdg ht (fun q => kt ((iI_le ha hb).mp q)) (fun q => kf (by have := mt (iI_le ha hb).mpr q; omega))
theorem s_if_le (hx : p.tables.exec = Jvm.exec) (hc : c.code = cc) {a : Int} (ha : -2147483648 ≤ a ∧ a ≤ 2147483647) {off : Int} {tgt : Nat} (hdg : decode cc pc = .ok (.ifCond .le off, 3)) (ht : (pc : Int) + off = (tgt : Int)) (kt : a ≤ 0 → W p l e R s m args below meth c H locs cells slots Q (F0 m tgt ls rest)) (kf : 0 < a → W p l e R s m args below meth c H locs cells slots Q (F0 m (pc + 3) ls rest)) : W p l e R s m args below meth c H locs cells slots Q (F0 m pc ls (.int (iI a) :: rest)) := by
  have hb : (-2147483648 : Int) ≤ 0 ∧ (0 : Int) ≤ 2147483647 := by omega
  exact lv_if_le hx hc hdg ht (fun q => kt ((iI_le ha hb).mp q)) (fun q => kf (by have := mt (iI_le ha hb).mpr q; omega))
theorem s_tabOut (hx : p.tables.exec = Jvm.exec) (hc : c.code = cc) {a : Int} (ha : -2147483648 ≤ a ∧ a ≤ 2147483647) {dflt lo hi : Int} {offs : Array Int} {len : Nat} {tgt : Nat} (hdg : decode cc pc = .ok (.tableswitch dflt lo hi offs, len)) (h : a < lo ∨ hi < a) (ht : (pc : Int) + dflt = (tgt : Int)) (k : W p l e R s m args below meth c H locs cells slots Q (F0 m tgt ls rest)) : W p l e R s m args below meth c H locs cells slots Q (F0 m pc ls (.int (iI a) :: rest)) :=
  lv_tableOut hx hc hdg (by rw [iI_toInt ha]; exact h) ht k
/-- the ends of a method, and its body -/
theorem s_metP {l : Launch} {y : MethodName} {b : ByteArray} {n : Nat} {ty : FieldType} {rm : Room} {av : List Value} {Bp : State → Prop} {post : Int32 → Prop} (hy : plainName y.cls = true) (hlen : (lg_sl av).length ≤ n)
    (body : ∀ (p : Program) (e : Env) (s : State) (m : MethodId) (below : List Frame) (meth : Method) (c : Code) (ls : Array Slot) (args : Array Value) (Q : State → Prop), CallFix p m c b n s args tbG y.cls → Bp s → lv_has ls n (lv_args 0 av) → (∀ (r : Int32) (pc : Nat) (ls : Array Slot), narrow ty (.int r) = .int r → post r → decode b pc = .ok (.ireturn, 1) → W p l e rm s m args below meth c s.heap [] 0 0 Q (F0 m pc ls [.int r])) → W p l e rm s m args below meth c s.heap [] 0 0 Q (F0 m 0 ls [])) : Met l y (wM y b n (some ty)) rm (va_Pc av Bp) (vp_Si post) 0 0 (fun _ => False) :=
  x_met hy hlen (fun p e s m below meth c ls hE hr hlo _ hB hl => body p e s m below meth c ls _ _ hE hB hl (fun _ _ _ hn hp hd => x_ri hE hr hlo hn hp hd))
theorem s_metL {l : Launch} {y : MethodName} {b : ByteArray} {n : Nat} {rm : Room} {av : List Value} {Bp : State → Prop} {post : Int64 → Prop} (hy : plainName y.cls = true) (hlen : (lg_sl av).length ≤ n)
    (body : ∀ (p : Program) (e : Env) (s : State) (m : MethodId) (below : List Frame) (meth : Method) (c : Code) (ls : Array Slot) (args : Array Value) (Q : State → Prop), CallFix p m c b n s args tbG y.cls → Bp s → lv_has ls n (lv_args 0 av) → (∀ (r : Int64) (pc : Nat) (ls : Array Slot), post r → decode b pc = .ok (.lreturn, 1) → W p l e rm s m args below meth c s.heap [] 0 0 Q (F0 m pc ls [.long r])) → W p l e rm s m args below meth c s.heap [] 0 0 Q (F0 m 0 ls [])) : Met l y (wM y b n (some .long)) rm (va_Pc av Bp) (vp_Sl post) 0 0 (fun _ => False) :=
  x_met hy hlen (fun p e s m below meth c ls hE hr hlo _ hB hl => body p e s m below meth c ls _ _ hE hB hl (fun r _ _ hp hd => W.lret hE.1 hE.2.1 hr (fun t ht _ => ⟨r, rfl, hp, ht⟩) (fun _ h => absurd h List.not_mem_nil) hd hlo))
theorem s_metI {l : Launch} {y : MethodName} {b : ByteArray} {n : Nat} {ty : FieldType} {rm : Room} {av : List Value} {Bp : State → Prop} {D : va_G} {ad : Nat → Nat} {G : gT} {N : Nat} {post : Int32 → sT → Prop} (hy : plainName y.cls = true) (hlen : (lg_sl av).length ≤ n)
    (body : ∀ (p : Program) (e : Env) (s : State) (m : MethodId) (below : List Frame) (meth : Method) (c : Code) (ls : Array Slot) (args : Array Value) (Q : State → Prop), CallFix p m c b n s args tbG y.cls → Bp s → lv_has ls n (lv_args 0 av) → (∀ (r : Int32) (v ar : sI) (al : sL) (H : Heap) (locs : List Loc) (pc : Nat) (ls : Array Slot), narrow ty (.int r) = .int r → post r (v, ar, al) → va_P D xcl (wW ad G N v ar al) H → va_S (inW ad N) s.heap H locs → decode b pc = .ok (.ireturn, 1) → W p l e rm s m args below meth c H locs 0 0 Q (F0 m pc ls [.int r])) → W p l e rm s m args below meth c s.heap [] 0 0 Q (F0 m 0 ls [])) : Met l y (wM y b n (some ty)) rm (va_Pc av Bp) (va_Qi post (wB D ad G N) (inW ad N)) 0 0 (inW ad N) :=
  x_met hy hlen (fun p e s m below meth c ls hE hr hlo _ hB hl => body p e s m below meth c ls _ _ hE hB hl (fun _ _ _ _ _ _ _ _ hn hp hP hS hd => x_wi hE hr hlo hP hS hn hp hd))
theorem s_metV {l : Launch} {y : MethodName} {b : ByteArray} {n : Nat} {rm : Room} {av : List Value} {Bp : State → Prop} {D : va_G} {ad : Nat → Nat} {G : gT} {N : Nat} {post : sT → Prop} (hy : plainName y.cls = true) (hlen : (lg_sl av).length ≤ n)
    (body : ∀ (p : Program) (e : Env) (s : State) (m : MethodId) (below : List Frame) (meth : Method) (c : Code) (ls : Array Slot) (args : Array Value) (Q : State → Prop), CallFix p m c b n s args tbG y.cls → Bp s → lv_has ls n (lv_args 0 av) → (∀ (v ar : sI) (al : sL) (H : Heap) (locs : List Loc) (pc : Nat) (ls : Array Slot), post (v, ar, al) → va_P D xcl (wW ad G N v ar al) H → va_S (inW ad N) s.heap H locs → decode b pc = .ok (.return_, 1) → W p l e rm s m args below meth c H locs 0 0 Q (F0 m pc ls [])) → W p l e rm s m args below meth c s.heap [] 0 0 Q (F0 m 0 ls [])) : Met l y (wM y b n none) rm (va_Pc av Bp) (va_Qv post (wB D ad G N) (inW ad N)) 0 0 (inW ad N) :=
  x_met hy hlen (fun p e s m below meth c ls hE hr hlo _ hB hl => body p e s m below meth c ls _ _ hE hB hl (fun _ _ _ _ _ _ _ hp hP hS hd => x_wv hE hr hlo hP hS hp hd))
/-- calls that answer a long, the heap as it was -/
theorem x_vpl {own : String} (hE : CallFix p m c cc nL s args tbG own) {y : MethodName} {b : ByteArray} {mL d idx nn a : Nat} {ret : Option FieldType} {As : List Value} {Bp : State → Prop} {post : Int64 → Prop} (hM : Met l y (wM y b mL ret) (rmD d) (va_Pc (.ref a :: As) Bp) (vp_Sl post) 0 0 (fun _ => False)) (hbl : FrameBlind (va_Pc (.ref a :: As) Bp)) (hB : ∀ U : State, U.heap = H → s.WarmedH U.vm → Bp U) (hrecv : ∃ cell : Cell, H[a]? = some cell ∧ cell.vm.isStatics = false ∧ s.vm.findClass y.cls = some cell.cls) (hnn : As.length = nn) (h1 : Cond.methodLink own idx y ∈ tbG) (h2 : Cond.instanceMethod y ∈ tbG) (h3 : Cond.selects y.cls y y ∈ tbG) (h4 : Cond.initialized y.cls ∈ tbG) (h5 : Cond.code y b mL ret ∈ tbG) (hd : y.cls = y.cls ∧ y.cls ≠ "java/lang/invoke/MethodHandle" ∧ y.cls ≠ "java/lang/invoke/VarHandle" ∧ (parseMethodDescriptor y.desc).map (fun d => d.parameters.length) = some nn) (hR : d + 1 ≤ R.frames ∧ 8 + (mL + 11) + 64 * d ≤ R.locals) (hls : ls.size = nL) (hst : st = As.reverse ++ .ref a :: rest) (hw : (rest.map fun v => v.category).sum ≤ 8) (hcs : cells ≤ R.cells ∧ slots ≤ R.slots) (hdg : decode cc pc = .ok (.invokevirtual idx, 3))
    (kk : ∀ r : Int64, post r → W p l e R s m args below meth c H locs cells slots Q (F0 m (pc + 3) ls (.long r :: rest))) : W p l e R s m args below meth c H locs cells slots Q (F0 m pc ls st) := by
  refine vp_callSl (va_runV (As := As) (rest := rest) hE hM (cwV nn hE.2.2.2.2 (gV h1 h2 h3 h4 h5) rfl rfl rfl hd hR) ⟨hbl, hrecv, fun U hU hW => ⟨rfl, hB U hU hW⟩⟩ rfl hnn hls hst (lv_room hw) hdg hcs).run kk
end SR
theorem up_eq {v v' : sI} {i k : Nat} {x : Int32} (h : v' = va_up v i (upd (v i) k x)) : v' i k = x := by subst h; simp [va_up, upd]
theorem up_oth {v v' : sI} {i k i' k' : Nat} {x : Int32} (h : v' = va_up v i (upd (v i) k x)) (hne : ¬ (i' = i ∧ k' = k)) : v' i' k' = v i' k' := by
  subst h
  by_cases h1 : i' = i
  · subst h1
    have h2 : ¬ k' = k := fun q => hne ⟨rfl, q⟩
    simp [va_up, upd, h2]
  · simp [va_up, h1]
theorem mem_sub {L' L : List (Nat × Nat)} (hs : ∀ x ∈ L', x ∈ L) {x : Nat × Nat} (q : x ∈ L') : x ∈ L := hs x q
def bxX : List (Nat × Nat × Int × Int) := [(1, 0, 0, 1600), (3, 0, 0, 3), (3, 2, 0, 9), (3, 3, 0, 8), (13, 0, 0, 3), (13, 2, 0, 9), (13, 3, 0, 8), (23, 2, 0, 18), (31, 2, 0, 18), (48, 2, 0, 18), (57, 2, 0, 18), (67, 2, -1, 60), (69, 2, -1, 60), (71, 2, -1, 60), (73, 2, -1, 60), (76, 0, 0, 3), (76, 2, 0, 9), (76, 3, 0, 8), (86, 2, 0, 18), (95, 0, 0, 3), (95, 2, 0, 9), (95, 3, 0, 8), (105, 2, 0, 18), (114, 0, 0, 3), (114, 2, 0, 9), (114, 3, 0, 8), (124, 2, 0, 18)]
def XI (v : sI) : Prop := ∀ e ∈ bxX, e.2.2.1 ≤ (v e.1 e.2.1).toInt ∧ (v e.1 e.2.1).toInt ≤ e.2.2.2
theorem XI_get {v : sI} (h : XI v) (p k : Nat) (lo hi : Int) (hm : (p, k, lo, hi) ∈ bxX) : ∃ z : Int, (lo ≤ z ∧ z ≤ hi) ∧ v p k = iI z := ⟨(v p k).toInt, h _ hm, (Int32.ofInt_toInt _).symm⟩
theorem XI_putN {v v' : sI} {i k : Nat} {x : Int32} (h : XI v) (hv : v' = va_up v i (upd (v i) k x)) (hn : ∀ e ∈ bxX, ¬ (e.1 = i ∧ e.2.1 = k)) : XI v' := by
  intro e he
  rw [up_oth hv (hn e he)]
  exact h e he
theorem XI_putB {v v' : sI} {i k : Nat} {z : Int} (h : XI v) (hv : v' = va_up v i (upd (v i) k (iI z))) (lo hi : Int) (hr : -2147483648 ≤ z ∧ z ≤ 2147483647) (hu : ∀ e ∈ bxX, e.1 = i → e.2.1 = k → e.2.2.1 = lo ∧ e.2.2.2 = hi) (hz : lo ≤ z ∧ z ≤ hi) : XI v' := by
  intro e he
  by_cases q : e.1 = i ∧ e.2.1 = k
  · obtain ⟨q1, q2⟩ := q
    obtain ⟨h1, h2⟩ := hu e he q1 q2
    rw [q1, q2, up_eq hv, iI_toInt hr, h1, h2]
    exact hz
  · rw [up_oth hv q]
    exact h e he
