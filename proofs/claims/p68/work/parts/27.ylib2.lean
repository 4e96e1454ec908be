def b01 (t i : Nat) : Nat := if t.testBit i then 1 else 0
def pop9 (t : Nat) : Nat := b01 t 0 + b01 t 1 + b01 t 2 + b01 t 3 + b01 t 4 + b01 t 5 + b01 t 6 + b01 t 7 + b01 t 8
theorem b01_le (t i : Nat) : b01 t i ≤ 1 := by unfold b01; split <;> omega
theorem pop9_le (t : Nat) : pop9 t ≤ 9 := by
  have h := b01_le t
  have h0 := h 0; have h1 := h 1; have h2 := h 2; have h3 := h 3; have h4 := h 4; have h5 := h 5; have h6 := h 6; have h7 := h 7; have h8 := h 8
  unfold pop9; omega
theorem b01_or (t m i : Nat) : b01 (t ||| 2 ^ m) i = if m = i then 1 else b01 t i := by
  unfold b01
  rw [Nat.testBit_or, Nat.testBit_two_pow]
  by_cases q : m = i
  · simp [q]
  · simp [q]
theorem pop9_or {t m : Nat} (hm : m < 9) (h : t.testBit m = false) : pop9 (t ||| 2 ^ m) = pop9 t + 1 := by
  have e : b01 t m = 0 := by unfold b01; rw [h]; rfl
  rcases (show m = 0 ∨ m = 1 ∨ m = 2 ∨ m = 3 ∨ m = 4 ∨ m = 5 ∨ m = 6 ∨ m = 7 ∨ m = 8 by omega) with rfl | rfl | rfl | rfl | rfl | rfl | rfl | rfl | rfl <;>
    (unfold pop9; simp only [b01_or]; simp only [if_true, if_false, reduceIte, Nat.reduceEqDiff]; omega)
theorem gSil_le {f : Nat → Int32} {T S t : Nat} : ∀ {n : Nat}, gGood f T S n → gSil f T t n ≤ S
  | 0, _ => Nat.zero_le _
  | n + 1, h => by
    have i := gSil_le (t := t) (n := n) (fun k hk => h k (by omega))
    show gSil f T t n + (if f n = 9 ∧ n % T = t then 1 else 0) ≤ S
    by_cases c : f n = 9 ∧ n % T = t
    · rw [if_pos c]
      have q := (h n (by omega)).2 c.1
      rw [c.2] at q
      omega
    · rw [if_neg c]; omega
theorem gd_cnt {f : Nat → Int32} {T S : Nat} (hT : 1 ≤ T ∧ T ≤ 3) (hf : ∀ k, 0 ≤ (f k).toInt ∧ (f k).toInt ≤ 9) : ∀ {n : Nat}, gGood f T S n → n ≤ pop9 (gTold f n) + (gSil f T 0 n + gSil f T 1 n + gSil f T 2 n)
  | 0, _ => Nat.zero_le _
  | n + 1, h => by
    have i := gd_cnt hT hf (n := n) (fun k hk => h k (by omega))
    show n + 1 ≤ pop9 (if f n = 9 then gTold f n else gTold f n ||| 2 ^ (f n).toInt.toNat) + ((gSil f T 0 n + (if f n = 9 ∧ n % T = 0 then 1 else 0)) + (gSil f T 1 n + (if f n = 9 ∧ n % T = 1 then 1 else 0)) + (gSil f T 2 n + (if f n = 9 ∧ n % T = 2 then 1 else 0)))
    by_cases c : f n = 9
    · have lt := Nat.mod_lt n (show T > 0 by omega)
      rw [if_pos c]
      rcases (show n % T = 0 ∨ n % T = 1 ∨ n % T = 2 by omega) with q | q | q
      · rw [if_pos ⟨c, q⟩]; omega
      · rw [if_pos (show f n = 9 ∧ n % T = 1 from ⟨c, q⟩)]; omega
      · rw [if_pos (show f n = 9 ∧ n % T = 2 from ⟨c, q⟩)]; omega
    · rw [if_neg c, pop9_or ?_ ((h n (by omega)).1 c)]
      · omega
      · have := hf n
        have ne : (f n).toInt ≠ 9 := fun q => c (by rw [← Int32.ofInt_toInt (f n), q]; rfl)
        omega
theorem gd_le {f : Nat → Int32} {T S n : Nat} (hT : 1 ≤ T ∧ T ≤ 3) (hS : S ≤ 3) (hf : ∀ k, 0 ≤ (f k).toInt ∧ (f k).toInt ≤ 9) (h : gGood f T S n) : n ≤ 18 := by
  have a := gd_cnt hT hf h
  have b0 := gSil_le (t := 0) h; have b1 := gSil_le (t := 1) h; have b2 := gSil_le (t := 2) h
  have c := pop9_le (gTold f n)
  omega

def rm (a b : Int) : Int := a % b
def bt (a b : Int) : Int := (iI a >>> (iI b &&& 31) &&& iI 1).toInt
def sb (a m : Int) : Int := (iI a ||| iI 1 <<< (iI m &&& 31)).toInt
def cb (a m : Int) : Int := (iI a &&& (iI 1 <<< (iI m &&& 31) ^^^ iI (-1))).toInt
def lb (a : Int) : Int := (iI a &&& iI (a - 1)).toInt
def pc (a : Int) : Int := (pop9 a.toNat : Int)
def hc (a m : Int) : Int := (pop9 (a.toNat >>> m.toNat) : Int)
def okA (a m : Nat) : Bool := sb a m == ((a ||| 2 ^ m : Nat) : Int) && bt a m == (if a.testBit m then 1 else 0) && (a.testBit m || (cb (sb a m) m == (a : Int) && pop9 (a ||| 2 ^ m) == pop9 a + 1)) && decide (1 ≤ sb a m) && decide (sb a m ≤ 511) && pop9 (a >>> m) == (if a.testBit m then 1 else 0) + pop9 (a >>> (m + 1))
def okB (a : Nat) : Bool := a == 0 || (decide (0 ≤ lb a) && decide (lb a < a) && pop9 (lb a).toNat + 1 == pop9 a)
def okC (a : Nat) : Bool := pop9 (a >>> 9) == 0
set_option maxRecDepth 100000 in
set_option maxHeartbeats 4000000 in
theorem okA_all : ((List.range 512).all fun a => (List.range 9).all fun m => okA a m) = true := by decide +kernel
set_option maxRecDepth 100000 in
set_option maxHeartbeats 4000000 in
theorem okB_all : ((List.range 512).all okB) = true := by decide +kernel
set_option maxRecDepth 100000 in
set_option maxHeartbeats 4000000 in
theorem okC_all : ((List.range 512).all okC) = true := by decide +kernel
theorem okA_un {a m : Int} (ha : 0 ≤ a ∧ a ≤ 511) (hm : 0 ≤ m ∧ m ≤ 8) : sb a m = ((a.toNat ||| 2 ^ m.toNat : Nat) : Int) ∧ bt a m = (if a.toNat.testBit m.toNat then 1 else 0) ∧ (a.toNat.testBit m.toNat = true ∨ (cb (sb a m) m = a ∧ pop9 (a.toNat ||| 2 ^ m.toNat) = pop9 a.toNat + 1)) ∧ 1 ≤ sb a m ∧ sb a m ≤ 511 ∧ pop9 (a.toNat >>> m.toNat) = (if a.toNat.testBit m.toNat then 1 else 0) + pop9 (a.toNat >>> (m.toNat + 1)) := by
  have h0 := List.all_eq_true.mp okA_all a.toNat (List.mem_range.mpr (by omega))
  have h := List.all_eq_true.mp h0 m.toNat (List.mem_range.mpr (by omega))
  unfold okA at h
  rw [Int.toNat_of_nonneg ha.1, Int.toNat_of_nonneg hm.1] at h
  simp only [Bool.and_eq_true, Bool.or_eq_true, beq_iff_eq, decide_eq_true_eq] at h
  exact ⟨h.1.1.1.1.1, h.1.1.1.1.2, h.1.1.1.2, h.1.1.2, h.1.2, h.2⟩
theorem pc_le (a : Int) : 0 ≤ pc a ∧ pc a ≤ 9 := by
  have := pop9_le a.toNat
  unfold pc
  omega
theorem bt_tt {a m : Int} (ha : 0 ≤ a ∧ a ≤ 511) (hm : 0 ≤ m ∧ m ≤ 8) : (bt a m = 0 ∧ a.toNat.testBit m.toNat = false) ∨ (bt a m = 1 ∧ a.toNat.testBit m.toNat = true) := by
  have h2 := (okA_un ha hm).2.1
  cases q : a.toNat.testBit m.toNat with
  | false => rw [q, if_neg (by decide)] at h2; exact Or.inl ⟨h2, rfl⟩
  | true => rw [q, if_pos rfl] at h2; exact Or.inr ⟨h2, rfl⟩
theorem sb_new {a m : Int} (ha : 0 ≤ a ∧ a ≤ 511) (hm : 0 ≤ m ∧ m ≤ 8) (h : bt a m = 0) : cb (sb a m) m = a ∧ pc (sb a m) = pc a + 1 ∧ 1 ≤ sb a m ∧ sb a m ≤ 511 ∧ 0 ≤ pc a ∧ pc a + 1 ≤ 9 := by
  obtain ⟨h1, h2, h3, h4, h5, _⟩ := okA_un ha hm
  rcases bt_tt ha hm with ⟨_, ht⟩ | ⟨q, _⟩
  · rcases h3 with q | ⟨q1, q2⟩
    · rw [ht] at q; exact absurd q (by decide)
    · have e : pc (sb a m) = pc a + 1 := by
        unfold pc
        rw [h1, Int.toNat_natCast, q2]
        omega
      have l := pc_le (sb a m)
      have l2 := pc_le a
      exact ⟨q1, e, h4, h5, l2.1, by omega⟩
  · omega
theorem bt_of {a b x : Int} (e : iI a >>> (iI b &&& 31) = iI x) : ∃ z : Int, (z = bt a b ∧ 0 ≤ z ∧ z ≤ 1) ∧ iI x &&& iI 1 = iI z := by
  obtain ⟨z, hz, ez⟩ := iI_and (iI x) (iI 1) 1 (by decide)
  refine ⟨z, ⟨?_, hz.1, by omega⟩, ez⟩
  unfold bt
  rw [e, ez, iI_toInt (by omega)]
theorem sb_of {a m y : Int} (ha : 0 ≤ a ∧ a ≤ 511) (hm : 0 ≤ m ∧ m ≤ 8) (e : iI 1 <<< (iI m &&& 31) = iI y) : ∃ z : Int, (z = sb a m ∧ 1 ≤ z ∧ z ≤ 511) ∧ iI a ||| iI y = iI z := by
  have h := okA_un ha hm
  refine ⟨sb a m, ⟨rfl, h.2.2.2.1, h.2.2.2.2.1⟩, ?_⟩
  unfold sb
  rw [e]
  exact (Int32.ofInt_toInt _).symm
theorem cb_of {a m y x : Int} (ha : 0 ≤ a ∧ a ≤ 511) (e : iI 1 <<< (iI m &&& 31) = iI y) (e2 : iI y ^^^ iI (-1) = iI x) : ∃ z : Int, (z = cb a m ∧ 0 ≤ z ∧ z ≤ 511) ∧ iI a &&& iI x = iI z := by
  obtain ⟨z, hz, ez⟩ := iI_and9 ha (iI x)
  refine ⟨z, ⟨?_, hz⟩, ez⟩
  unfold cb
  rw [e, e2, ez, iI_toInt (by omega)]
theorem lb_of {a : Int} (ha : 1 ≤ a ∧ a ≤ 511) : ∃ z : Int, (z = lb a ∧ 0 ≤ z ∧ z < a ∧ pc z + 1 = pc a) ∧ iI a &&& iI (a - 1) = iI z := by
  obtain ⟨z, hz, ez⟩ := iI_and9 (a := a) (by omega) (iI (a - 1))
  have e : z = lb a := by
    unfold lb
    rw [ez, iI_toInt (by omega)]
  have h := List.all_eq_true.mp okB_all a.toNat (List.mem_range.mpr (by omega))
  unfold okB at h
  rw [Int.toNat_of_nonneg (show 0 ≤ a by omega)] at h
  simp only [Bool.and_eq_true, Bool.or_eq_true, beq_iff_eq, decide_eq_true_eq] at h
  rcases h with h | h
  · omega
  · refine ⟨z, ⟨e, hz.1, by rw [e]; exact h.1.2, ?_⟩, ez⟩
    have h2 := h.2
    rw [e]
    unfold pc
    omega
theorem pc_0 {a : Int} (h : a = 0) : pc a = 0 := by subst h; decide
theorem pc_pos {a : Int} (ha : 1 ≤ a ∧ a ≤ 511) : 1 ≤ pc a := by
  obtain ⟨z, hz, _⟩ := lb_of ha
  have := pc_le z
  omega
theorem hc_0 (a : Int) : hc a 0 = pc a := rfl
theorem hc_step {a m : Int} (ha : 0 ≤ a ∧ a ≤ 511) (hm : 0 ≤ m ∧ m ≤ 8) : hc a m = bt a m + hc a (m + 1) ∧ (m ≠ 8 ∨ hc a (m + 1) = 0) ∧ 0 ≤ hc a (m + 1) := by
  obtain ⟨_, h2, _, _, _, h6⟩ := okA_un ha hm
  have em : (m + 1).toNat = m.toNat + 1 := by omega
  refine ⟨?_, ?_, by unfold hc; omega⟩
  · unfold hc
    rw [em, h6, h2]
    by_cases c : a.toNat.testBit m.toNat = true
    · rw [if_pos c, if_pos c]; omega
    · rw [if_neg c, if_neg c]; omega
  · by_cases q : m = 8
    · right
      have h := List.all_eq_true.mp okC_all a.toNat (List.mem_range.mpr (by omega))
      unfold okC at h
      rw [beq_iff_eq] at h
      unfold hc
      rw [em, show m.toNat + 1 = 9 by omega, h]
      rfl
    · exact Or.inl q
theorem iI_or0 (x : Int) : iI x ||| iI 0 = iI x := Int32.or_zero
def dj (a b : Int) : Prop := ∀ i : Nat, i < 9 → a.toNat.testBit i = true → b.toNat.testBit i = false
theorem dj_0 (t : Int) : dj 0 t := fun i _ h => by
  rw [show (0 : Int).toNat = 0 from rfl, Nat.zero_testBit] at h
  exact absurd h (by decide)
theorem dj_sb {b t m z : Int} (h : dj b t) (e : z = sb b m) (hb : 0 ≤ b ∧ b ≤ 511) (ht : 0 ≤ t ∧ t ≤ 511) (hm : 0 ≤ m ∧ m ≤ 8) (h0 : bt t m = 0) : dj z t := fun i hi q => by
  rw [e, (okA_un hb hm).1, Int.toNat_natCast, Nat.testBit_or, Nat.testBit_two_pow] at q
  by_cases c : m.toNat = i
  · subst c
    rcases bt_tt ht hm with ⟨_, r⟩ | ⟨r, _⟩
    · exact r
    · omega
  · rw [decide_eq_false c, Bool.or_false] at q
    exact h i hi q
theorem dj_get {a b m : Int} (h : dj a b) (ha : 0 ≤ a ∧ a ≤ 511) (hb : 0 ≤ b ∧ b ≤ 511) (hm : 0 ≤ m ∧ m ≤ 8) (h1 : bt a m = 1) : bt b m = 0 := by
  rcases bt_tt ha hm with ⟨r, _⟩ | ⟨_, r⟩
  · omega
  · have q := h m.toNat (by omega) r
    rcases bt_tt hb hm with ⟨r2, _⟩ | ⟨_, r2⟩
    · exact r2
    · rw [q] at r2; exact absurd r2 (by decide)
theorem lI_mul (a b : Int) : lI a * lI b = lI (a * b) := (Int64.ofInt_mul a b).symm
theorem lI_rem {a b : Int} (ha : 0 ≤ a ∧ a ≤ 9223372036854775807) (hb : 1 ≤ b ∧ b ≤ 9223372036854775807) : ∃ z : Int, (0 ≤ z ∧ z < b) ∧ lI a - lI a / lI b * lI b = lI z := by
  have l1 := Int.emod_nonneg a (show b ≠ 0 by omega)
  have l2 := Int.emod_lt_of_pos a (show 0 < b by omega)
  refine ⟨a % b, ⟨l1, l2⟩, ?_⟩
  apply Int64.toInt_inj.mp
  rw [Jvm.Kit.i64_rem_nonneg (by rw [lI_toInt (by omega)]; omega), lI_toInt (by omega), lI_toInt (by omega), lI_toInt (by omega)]
theorem lI_div {a b : Int} (ha : 0 ≤ a ∧ a ≤ 9223372036854775807) (hb : 1 ≤ b ∧ b ≤ 9223372036854775807) : ∃ z : Int, (0 ≤ z ∧ z ≤ a ∧ z = a / b) ∧ lI a / lI b = lI z := by
  have l1 := Int.ediv_nonneg ha.1 (show 0 ≤ b by omega)
  have l2 := Int.ediv_le_self b ha.1
  refine ⟨a / b, ⟨l1, l2, rfl⟩, ?_⟩
  apply Int64.toInt_inj.mp
  rw [Jvm.Kit.i64_div (by rw [lI_toInt (by omega)]; omega), lI_toInt (by omega), lI_toInt (by omega), lI_toInt (by omega), Int.tdiv_eq_ediv_of_nonneg ha.1]
theorem gTold_lt {f : Nat → Int32} (hf : ∀ k, 0 ≤ (f k).toInt ∧ (f k).toInt ≤ 9) : ∀ n : Nat, gTold f n < 512
  | 0 => by show 0 < 512; omega
  | n + 1 => by
    have i := gTold_lt hf n
    show (if f n = 9 then gTold f n else gTold f n ||| 2 ^ (f n).toInt.toNat) < 2 ^ 9
    by_cases c : f n = 9
    · rw [if_pos c]; exact i
    · rw [if_neg c]
      have h := hf n
      have ne : (f n).toInt ≠ 9 := fun q => c (by rw [← Int32.ofInt_toInt (f n), q]; rfl)
      exact Nat.or_lt_two_pow i (Nat.pow_lt_pow_right (by decide) (by omega))
theorem gt_step {f : Nat → Int32} {n : Nat} {w x z : Int} (e : f n = iI z) (hz : 0 ≤ z ∧ z ≤ 9) (hw : 0 ≤ w ∧ w ≤ 511) (ew : w = (gTold f n : Int)) (hx : (z = 9 ∧ x = w) ∨ (z ≠ 9 ∧ x = sb w z)) : x = (gTold f (n + 1) : Int) := by
  show x = ((if f n = 9 then gTold f n else gTold f n ||| 2 ^ (f n).toInt.toNat : Nat) : Int)
  rw [e]
  rcases hx with ⟨a, b⟩ | ⟨a, b⟩
  · rw [a, if_pos (by decide), b, ew]
  · have ne : ¬ iI z = 9 := fun q => a ((iI_eq (by omega) (by omega)).mp (show iI z = iI 9 from q))
    rw [if_neg ne, iI_toInt (by omega), b, (okA_un hw (show 0 ≤ z ∧ z ≤ 8 by omega)).1, ew, Int.toNat_natCast]
/-- the tale as it is laid out of a row f -/
def LY (f : Nat → Int32) (T n told : Int) (a12 a14 : Nat → Int32) : Prop := told = (gTold f n.toNat : Int) ∧ (∀ k : Nat, (k : Int) < n → a12 k = f k) ∧ ∀ t : Nat, t < 3 → a14 t = iI (gSil f T.toNat t n.toNat : Nat)
/-- a turn is put -/
def PX (T n z : Int) (a12 a14 b12 b14 : Nat → Int32) : Prop := b12 = upd a12 n.toNat (iI z) ∧ (z ≠ 9 → b14 = a14) ∧ (z = 9 → b14 = upd a14 (rm n T).toNat (a14 (rm n T).toNat + 1))
def qMay (n T S : Int) (a14 : Nat → Int32) : Prop := ∃ q : Int, (-2147483648 ≤ q ∧ q ≤ 2147483647) ∧ a14 (rm n T).toNat = iI q ∧ q < S
theorem LY_0 {f : Nat → Int32} {T n w : Int} {a12 a14 : Nat → Int32} (h : ∀ t : Nat, t < 3 → a14 t = iI 0) (hn : n = 0) (hw : w = 0) : LY f T n w a12 a14 := by
  subst hn hw
  exact ⟨rfl, fun k hk => absurd hk (by omega), fun t ht => h t ht⟩
theorem rm_nat {n T : Int} (hn : 0 ≤ n) (hT : 0 ≤ T) : (rm n T).toNat = n.toNat % T.toNat := Int.toNat_emod hn hT
theorem LY_step {f : Nat → Int32} {T n w x z n1 : Int} {a12 a14 b12 b14 : Nat → Int32} (h : LY f T n w a12 a14) (p : PX T n z a12 a14 b12 b14) {kx : Int} (e : f (iI kx).toNatClampNeg = iI z) (hk : kx = n) (hz : 0 ≤ z ∧ z ≤ 9) (hw : 0 ≤ w ∧ w ≤ 511) (hn : 0 ≤ n ∧ n ≤ 60) (hT : 1 ≤ T ∧ T ≤ 3) (hx : (z = 9 ∧ x = w) ∨ (z ≠ 9 ∧ x = sb w z)) (h1n : n1 = n + 1) : LY f T n1 x b12 b14 := by
  subst hk
  subst h1n
  rw [cp_clamp (by omega)] at e
  replace hn := hn.1
  obtain ⟨h1, h2, h3⟩ := h
  obtain ⟨p1, p2, p3⟩ := p
  have en : (kx + 1).toNat = kx.toNat + 1 := by omega
  refine ⟨?_, fun k hk => ?_, fun t ht => ?_⟩
  · rw [en]; exact gt_step e hz hw h1 hx
  · rw [p1]
    by_cases q : k = kx.toNat
    · subst q
      simp only [upd, if_true]
      exact e.symm
    · simp only [upd, if_neg q]
      exact h2 k (by omega)
  · rw [en]
    show b14 t = iI ((gSil f T.toNat t kx.toNat + (if f kx.toNat = 9 ∧ kx.toNat % T.toNat = t then 1 else 0) : Nat) : Int)
    by_cases c : z = 9
    · rw [p3 c]
      have e9 : f kx.toNat = 9 := by rw [e, c]; rfl
      have em := rm_nat hn (show 0 ≤ T by omega)
      by_cases q : t = (rm kx T).toNat
      · rw [if_pos ⟨e9, by rw [← em]; exact q.symm⟩, q]
        simp only [upd, if_true]
        rw [← q, h3 t ht, show (1 : Int32) = iI 1 from rfl, iI_add]
        rfl
      · rw [if_neg (fun r => q (by rw [em]; exact r.2.symm))]
        simp only [upd, if_neg q]
        exact h3 t ht
    · rw [p2 c, if_neg (fun r => c ((iI_eq (by omega) (by omega)).mp (show iI z = iI 9 from e.symm.trans r.1)))]
      exact h3 t ht
theorem YI_g0 {v ar : sI} {n T S : Int} (h : YI v ar) (en : ar 7 5 = iI n) (hn : 0 ≤ n ∧ n ≤ 18) (eT : ar 7 0 = iI T) (hT : 0 ≤ T ∧ T ≤ 3) (eS : ar 7 1 = iI S) (hS : 0 ≤ S ∧ S ≤ 3) : gGood (ar 10) T.toNat S.toNat n.toNat := by
  have q := (h.2.2.2 0 (by decide)).2
  rw [show 6 * 0 + 5 = 5 from rfl, show 6 * 0 + 1 = 1 from rfl, show 6 * 0 = 0 from rfl, en, eT, eS, iI_toInt (by omega), iI_toInt (by omega), iI_toInt (by omega)] at q
  exact gGood_congr (fun k _ => by show ar 10 (18 * 0 + k) = ar 10 k; rw [show 18 * 0 + k = k by omega]) q
theorem LY_sil {v ar : sI} {n T S w : Int} {a12 a14 : Nat → Int32} (h : YI v ar) (hl : LY (ar 10) T n w a12 a14) (en : ar 7 5 = iI n) (hn : 0 ≤ n ∧ n ≤ 18) (eT : ar 7 0 = iI T) (hT : 0 ≤ T ∧ T ≤ 3) (eS : ar 7 1 = iI S) (hS : 0 ≤ S ∧ S ≤ 3) (t : Nat) (ht : t < 3) : ∃ q : Int, (0 ≤ q ∧ q ≤ S) ∧ a14 t = iI q := by
  have g := gSil_le (t := t) (YI_g0 h en hn eT hT eS hS)
  exact ⟨_, ⟨by omega, by omega⟩, hl.2.2 t ht⟩
theorem say_good {v ar : sI} {n T S w m n1 : Int} {a12 a14 b12 b14 : Nat → Int32} (h : YI v ar) (hl : LY (ar 10) T n w a12 a14) {n' : Int} (p : PX T n' m a12 a14 b12 b14) (hnn : n' = n) (en : ar 7 5 = iI n) (hn : 0 ≤ n ∧ n ≤ 18) (eT : ar 7 0 = iI T) (hT : 1 ≤ T ∧ T ≤ 3) (eS : ar 7 1 = iI S) (hS : 0 ≤ S ∧ S ≤ 3) (hw : 0 ≤ w ∧ w ≤ 511) (hm : (0 ≤ m ∧ m ≤ 8 ∧ bt w m = 0) ∨ (m = 9 ∧ qMay n' T S a14)) (h1n : n1 = n' + 1) : gGood b12 T.toNat S.toNat n1.toNat := by
  subst hnn
  subst h1n
  have g0 := YI_g0 h en hn eT (by omega) eS hS
  obtain ⟨h1, h2, h3⟩ := hl
  have cg : ∀ k : Nat, k < n'.toNat → b12 k = ar 10 k := fun k hk => by
    rw [p.1]
    simp only [upd, if_neg (show ¬ k = n'.toNat by omega)]
    exact h2 k (by omega)
  have an : b12 n'.toNat = iI m := by rw [p.1]; simp [upd]
  intro k hk
  by_cases q : k < n'.toNat
  · exact gGood_congr (fun i hi => (cg i hi).symm) g0 k q
  · obtain rfl : k = n'.toNat := by omega
    rw [an, gTold_congr (f := b12) (g := ar 10) (n := n'.toNat) cg, gSil_congr (f := b12) (g := ar 10) (n := n'.toNat) cg]
    rcases hm with ⟨m0, m8, hb⟩ | ⟨m9, q0, hq, eq, lt⟩
    · refine ⟨fun _ => ?_, fun q9 => ?_⟩
      · rw [iI_toInt (by omega)]
        rcases bt_tt hw ⟨m0, m8⟩ with ⟨_, r⟩ | ⟨r, _⟩
        · rw [h1, Int.toNat_natCast] at r; exact r
        · omega
      · exact absurd ((iI_eq (by omega) (by omega)).mp (show iI m = iI 9 from q9)) (by omega)
    · subst m9
      refine ⟨fun q9 => absurd rfl q9, fun _ => ?_⟩
      have em := rm_nat hn.1 (show 0 ≤ T by omega)
      have l3 : n'.toNat % T.toNat < 3 := by
        have := Nat.mod_lt n'.toNat (show T.toNat > 0 by omega)
        omega
      have e3 := h3 (n'.toNat % T.toNat) l3
      rw [← em, eq] at e3
      have sl := gSil_le (t := n'.toNat % T.toNat) g0
      rw [em] at e3
      have := (iI_eq hq (by omega)).mp e3
      omega
/-- the turns that were told are kept -/
def KJ (ar1 : sI) (y : Int) (arl : sI) : Prop := (∀ i, i ≠ 10 → arl i = ar1 i) ∧ ∀ j : Nat, arl 10 j = if (j : Int) < y then ar1 12 j else ar1 10 j
theorem KJ_0 (ar : sI) {y : Int} (hy : y = 0) : KJ ar y ar := ⟨fun _ _ => rfl, fun j => by rw [if_neg (by omega)]⟩
theorem KJ_step {ar1 arl ar' : sI} {y z i1 i2 y1 : Int} (h : KJ ar1 y arl) (ez : arl 12 (iI i1).toNatClampNeg = iI z) (ha : ar' = va_up arl 10 (upd (arl 10) (iI i2).toNatClampNeg (iI z))) (h1 : i1 = y) (h2 : i2 = y) (hy : 0 ≤ y ∧ y ≤ 1000) (h3 : y1 = y + 1) : KJ ar1 y1 ar' := by
  rw [h1, cp_clamp (by omega)] at ez
  rw [h2, cp_clamp (by omega)] at ha
  subst h3
  refine ⟨fun i hi => (upa_ne ha i hi).trans (h.1 i hi), fun j => ?_⟩
  by_cases q : j = y.toNat
  · rw [upa_at ha q, if_pos (by omega), ← ez, h.1 12 (by decide), q]
  · rw [upa_idx ha q, h.2]
    by_cases c : (j : Int) < y
    · rw [if_pos c, if_pos (by omega)]
    · rw [if_neg c, if_neg (by omega)]
theorem YI_keeps {v v' ar ar1 ar' : sI} {n T S y : Int} (h : YI v ar) (hv : v' = v) (ha : ar1 = va_up ar 7 (upd (ar 7) 5 (iI n))) (hk : KJ ar1 y ar') (hy : y = n) (hn : 0 ≤ n ∧ n ≤ 18) (eT : ar 7 0 = iI T) (hT : 1 ≤ T ∧ T ≤ 3) (eS : ar 7 1 = iI S) (hS : 0 ≤ S ∧ S ≤ 3) (hg : gGood (ar 12) T.toNat S.toNat n.toNat) : YI v' ar' := by
  subst hy hv
  obtain ⟨a, ⟨b1, b2, b7, b10, b12⟩, c0, c⟩ := h
  obtain ⟨k1, k2⟩ := hk
  have e7 : ar' 7 = ar1 7 := k1 7 (by decide)
  have ne : ∀ j, j ≠ 5 → ar' 7 j = ar 7 j := fun j hj => (congrFun e7 j).trans (upa_idx ha hj)
  have eq : ar' 7 5 = iI y := (congrFun e7 5).trans (upa_at ha rfl)
  have o : ∀ p, p ≠ 7 → p ≠ 10 → ar' p = ar p := fun p p7 p10 => (k1 p p10).trans (upa_ne ha p p7)
  have t : ∀ j : Nat, ar' 10 j = if (j : Int) < y then ar 12 j else ar 10 j := fun j => by
    rw [k2, upa_ne ha 12 (by decide), upa_ne ha 10 (by decide)]
  refine ⟨a, ⟨by rw [o 1 (by decide) (by decide)]; exact b1, by rw [o 2 (by decide) (by decide)]; exact b2, ?_, ?_, by rw [o 12 (by decide) (by decide)]; exact b12⟩, (ne 29 (by decide)).trans c0, fun r hr => ?_⟩
  · intro j
    by_cases q : j = 5
    · rw [q, eq, iI_toInt (by omega)]; unfold hasB; omega
    · rw [ne j q]; exact b7 j
  · intro j
    rw [t j]
    by_cases q : (j : Int) < y
    · rw [if_pos q]; exact b12 j
    · rw [if_neg q]; exact b10 j
  · rw [o 6 (by decide) (by decide), ne (6 * r + 2) (by omega), ne (6 * r) (by omega), ne (6 * r + 1) (by omega)]
    by_cases q : r = 0
    · subst q
      rw [show 6 * 0 + 5 = 5 from rfl, eq, show 6 * 0 + 1 = 1 from rfl, show 6 * 0 = 0 from rfl, eT, eS, iI_toInt (by omega), iI_toInt (by omega), iI_toInt (by omega)]
      refine ⟨fun _ => hT.1, gGood_congr (fun k hk => ?_) hg⟩
      show ar 12 k = ar' 10 (18 * 0 + k)
      rw [show 18 * 0 + k = k by omega, t k, if_pos (by omega)]
    · rw [ne (6 * r + 5) (by omega)]
      have cr := c r hr
      refine ⟨cr.1, gGood_congr (fun k hk => ?_) cr.2⟩
      show ar 10 (18 * r + k) = ar' 10 (18 * r + k)
      rw [t, if_neg (by omega)]
/-- rows of motifs -/
def MSv (s : Int) (m2 : Nat → Int32) (l3 : Nat → Int64) : Prop := ∀ i : Nat, (i : Int) < (m2 (iI s).toNatClampNeg).toInt → ∃ g : Int, (0 ≤ g ∧ g ≤ 8) ∧ l3 (iI (60 * s + (i : Int))).toNatClampNeg = lI g
def MSp (s y : Int) (l3 : Nat → Int64) : Prop := ∀ i : Nat, (i : Int) < y → ∃ g : Int, (0 ≤ g ∧ g ≤ 8) ∧ l3 (iI (60 * s + (i : Int))).toNatClampNeg = lI g
def FTv (s : Int) (m2 : Nat → Int32) (l3 : Nat → Int64) : Prop := s = -1 ∨ ((0 ≤ s ∧ s ≤ 3) ∧ MSv s m2 l3 ∧ rm (m2 (iI s).toNatClampNeg).toInt 2 = 0)
theorem MSp_0 (s : Int) {y : Int} (l3 : Nat → Int64) (hy : y ≤ 0) : MSp s y l3 := fun i hi => absurd hi (by omega)
theorem MSp_step {s y k g y1 : Int} {l3 : Nat → Int64} (h : MSp s y l3) (hy : 0 ≤ y) (e : l3 (iI k).toNatClampNeg = lI g) (hk : k = 60 * s + y) (hg : 0 ≤ g ∧ g ≤ 8) (h1 : y1 = y + 1) : MSp s y1 l3 := fun i hi => by
  by_cases q : (i : Int) < y
  · exact h i q
  · have e2 : (i : Int) = y := by omega
    rw [e2, ← hk]
    exact ⟨g, hg, e⟩
theorem MSp_all {s y M : Int} {m2 : Nat → Int32} {l3 : Nat → Int64} (h : MSp s y l3) (e : m2 (iI s).toNatClampNeg = iI M) (hM : 0 ≤ M ∧ M ≤ 60) (hy : M ≤ y) : MSv s m2 l3 := fun i hi => by
  rw [e, iI_toInt (by omega)] at hi
  exact h i (by omega)
theorem MSv_get {s y M k : Int} {m2 : Nat → Int32} {l3 : Nat → Int64} (h : MSv s m2 l3) (e : m2 (iI s).toNatClampNeg = iI M) (hM : 0 ≤ M ∧ M ≤ 60) (hy : 0 ≤ y ∧ y < M) (hk : k = 60 * s + y) : ∃ g : Int, (0 ≤ g ∧ g ≤ 8) ∧ l3 (iI k).toNatClampNeg = lI g := by
  obtain ⟨i, rfl⟩ := Int.eq_ofNat_of_zero_le hy.1
  rw [hk]
  exact h i (by rw [e, iI_toInt (by omega)]; omega)
theorem MSv_tr {s : Int} {m2 m2' : Nat → Int32} {l3 l3' : Nat → Int64} (h : MSv s m2 l3) (e2 : m2' = m2) (e3 : l3' = l3) : MSv s m2' l3' := by rw [e2, e3]; exact h
theorem FTv_tr {s s' : Int} {m2 m2' : Nat → Int32} {l3 l3' : Nat → Int64} (h : FTv s m2 l3) (e2 : m2' = m2) (e3 : l3' = l3) (es : s' = s) : FTv s' m2' l3' := by rw [e2, e3, es]; exact h
theorem FTv_s {s : Int} {m2 : Nat → Int32} {l3 : Nat → Int64} (h : FTv s m2 l3) (hs : s ≠ -1) : (0 ≤ s ∧ s ≤ 3) ∧ MSv s m2 l3 ∧ rm (m2 (iI s).toNatClampNeg).toInt 2 = 0 := h.resolve_left hs
theorem rm_2 {M : Int} {f : Nat → Int32} {k : Nat} (h : rm (f k).toInt 2 = 0) (e : f k = iI M) (hM : 0 ≤ M ∧ M ≤ 60) : M % 2 = 0 := by
  rw [e, iI_toInt (by omega)] at h
  exact h
/-- the first turns are as they were -/
def NW (n : Int) (f f' : Nat → Int32) : Prop := ∀ j : Nat, (j : Int) < n → f' j = f j
theorem NW_put {n T z n1 : Int} {f a14 b12 b14 f1 f2 : Nat → Int32} (h : NW n f f1) (p : PX T n z f1 a14 b12 b14) (h2 : NW n1 b12 f2) (hn : 0 ≤ n) (h1 : n1 = n + 1) : NW n f f2 := fun j hj => by
  rw [h2 j (by omega), p.1]
  simp only [upd, if_neg (show ¬ j = n.toNat by omega)]
  exact h j hj
theorem NW_at {n T z n1 k : Int} {a12 a14 b12 b14 f2 : Nat → Int32} (p : PX T n z a12 a14 b12 b14) (h2 : NW n1 b12 f2) (hn : 0 ≤ n ∧ n ≤ 60) (h1 : n1 = n + 1) (hk : k = n) : f2 (iI k).toNatClampNeg = iI z := by
  subst hk
  rw [cp_clamp (by omega), h2 k.toNat (by omega), p.1]
  simp [upd]
theorem NW_eq {n : Int} {f f1 f2 : Nat → Int32} (h : NW n f f1) (e : f2 = f1) : NW n f f2 := by rw [e]; exact h
/-- a turn that is put: what the stores say -/
theorem PX_9 {ar ar1 ar2 : sI} {T n z r q x : Int} (ha : ar1 = va_up ar 12 (upd (ar 12) (iI n).toNatClampNeg (iI z))) (er : r = rm n T) (hr : 0 ≤ r ∧ r ≤ 2) (eq : ar1 14 (iI r).toNatClampNeg = iI q) (ex : iI q + iI 1 = iI x) (hb : ar2 = va_up ar1 14 (upd (ar1 14) (iI r).toNatClampNeg (iI x))) (hn : 0 ≤ n ∧ n ≤ 60) (hz : z = 9) : PX T n z (ar 12) (ar 14) (ar2 12) (ar2 14) := by
  rw [cp_clamp (by omega)] at ha eq hb
  have e12 : ar2 12 = upd (ar 12) n.toNat (iI z) := (upa_ne hb 12 (by decide)).trans (by rw [ha]; simp [va_up])
  have e14 : ar1 14 = ar 14 := upa_ne ha 14 (by decide)
  refine ⟨e12, fun c => absurd hz c, fun _ => ?_⟩
  have e : ar2 14 = upd (ar1 14) r.toNat (iI x) := by rw [hb]; simp [va_up]
  rw [e, e14, ← er, ← e14, eq, ← ex]
  rfl
theorem PX_m {ar ar1 ar2 : sI} {T n z : Int} {f : Nat → Int32} (ha : ar1 = va_up ar 12 (upd (ar 12) (iI n).toNatClampNeg (iI z))) (hb : ar2 = va_up ar1 13 f) (hn : 0 ≤ n ∧ n ≤ 60) (hz : z ≠ 9) : PX T n z (ar 12) (ar 14) (ar2 12) (ar2 14) := by
  rw [cp_clamp (by omega)] at ha
  refine ⟨(upa_ne hb 12 (by decide)).trans (by rw [ha]; simp [va_up]), fun _ => (upa_ne hb 14 (by decide)).trans (upa_ne ha 14 (by decide)), fun c => absurd c hz⟩
theorem qMay_of {ar : sI} {n T S r q : Int} (er : r = rm n T) (hr : 0 ≤ r ∧ r ≤ 2) (e : ar 14 (iI r).toNatClampNeg = iI q) (hq : -2147483648 ≤ q ∧ q ≤ 2147483647) (lt : q < S) : qMay n T S (ar 14) := by
  rw [cp_clamp (by omega), er] at e
  exact ⟨q, hq, e, lt⟩
/-- the tale is cut and made longer again -/
def BG (ar : sI) (T S N : Int) : Prop := ar 7 0 = iI T ∧ ar 7 1 = iI S ∧ gGood (ar 10) T.toNat S.toNat N.toNat
theorem BG_tr {ar ar' : sI} {T S N : Int} (h : BG ar T S N) (e0 : ar' 7 0 = iI T) (e1 : ar' 7 1 = iI S) (e10 : ar' 10 = ar 10) : BG ar' T S N := ⟨e0, e1, by rw [e10]; exact h.2.2⟩
theorem YI_set5 {v ar ar' : sI} {z T S N : Int} (h : YI v ar) (ha : ar' = va_up ar 7 (upd (ar 7) 5 (iI z))) (hB : BG ar T S N) (hN : 0 ≤ N ∧ N ≤ 18) (hz : 0 ≤ z ∧ z ≤ N) (hT : 1 ≤ T ∧ T ≤ 3) (hS : 0 ≤ S ∧ S ≤ 3) : YI v ar' := by
  obtain ⟨a, ⟨b1, b2, b7, b10, b12⟩, c0, c⟩ := h
  have ne : ∀ j, j ≠ 5 → ar' 7 j = ar 7 j := fun j hj => upa_idx ha hj
  have eq : ar' 7 5 = iI z := upa_at ha rfl
  refine ⟨a, ⟨by rw [upa_ne ha 1 (by decide)]; exact b1, by rw [upa_ne ha 2 (by decide)]; exact b2, ?_, by rw [upa_ne ha 10 (by decide)]; exact b10, by rw [upa_ne ha 12 (by decide)]; exact b12⟩, (ne 29 (by decide)).trans c0, fun r hr => ?_⟩
  · intro j
    by_cases q : j = 5
    · rw [q, eq, iI_toInt (by omega)]; unfold hasB; omega
    · rw [ne j q]; exact b7 j
  · rw [upa_ne ha 6 (by decide), upa_ne ha 10 (by decide), ne (6 * r + 2) (by omega), ne (6 * r) (by omega), ne (6 * r + 1) (by omega)]
    have cr := c r hr
    by_cases q : r = 0
    · subst q
      rw [show 6 * 0 + 5 = 5 from rfl, eq, show 6 * 0 + 1 = 1 from rfl, show 6 * 0 = 0 from rfl, hB.1, hB.2.1, iI_toInt (by omega), iI_toInt (by omega), iI_toInt (by omega)]
      refine ⟨fun _ => hT.1, gGood_congr (fun k _ => ?_) (gGood_le (show z.toNat ≤ N.toNat by omega) hB.2.2)⟩
      show ar 10 k = ar 10 (18 * 0 + k)
      rw [show 18 * 0 + k = k by omega]
    · rw [ne (6 * r + 5) (by omega)]; exact cr
theorem LY_end {f : Nat → Int32} {T y b n : Int} {x : Int32} {a12 a14 : Nat → Int32} (h : LY f T y b a12 a14) (e : x = iI b) (hb : 0 ≤ b ∧ b ≤ 511) (hy : n = y) : LY f T n x.toInt a12 a14 := by
  rw [e, iI_toInt (by omega), hy]
  exact h
theorem LY_n {f : Nat → Int32} {T n : Int} {x : Int32} {b : Int} {a12 a14 : Nat → Int32} (h : LY f T n x.toInt a12 a14) (e : x = iI b) (hb : 0 ≤ b ∧ b ≤ 511) : LY f T n b a12 a14 := by
  rw [e, iI_toInt (by omega)] at h
  exact h
theorem t3 {P : Nat → Prop} (h0 : P 0) (h1 : P 1) (h2 : P 2) : ∀ t : Nat, t < 3 → P t := fun t ht => by
  rcases (show t = 0 ∨ t = 1 ∨ t = 2 by omega) with rfl | rfl | rfl
  · exact h0
  · exact h1
  · exact h2
def SI2 (S : Int) (f : Nat → Int32) : Prop := ∃ q0 q1 : Int, (0 ≤ q0 ∧ q0 ≤ S ∧ 0 ≤ q1 ∧ q1 ≤ S) ∧ f 0 = iI q0 ∧ f 1 = iI q1
theorem SI2_of {S : Int} {f : Nat → Int32} (h : ∀ t : Nat, t < 3 → ∃ q : Int, (0 ≤ q ∧ q ≤ S) ∧ f t = iI q) : SI2 S f := by
  obtain ⟨q0, h0, e0⟩ := h 0 (by decide)
  obtain ⟨q1, h1, e1⟩ := h 1 (by decide)
  exact ⟨q0, q1, ⟨h0.1, h0.2, h1.1, h1.2⟩, e0, e1⟩
