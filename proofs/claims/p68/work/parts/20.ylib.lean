def bxY : List (Nat × Nat × Int × Int) := [(0, 6, 0, 1600), (0, 7, 0, 1600), (0, 24, 0, 60), (0, 25, 0, 511), (0, 26, -1, 8), (0, 31, 0, 18), (0, 33, -1, 9), (0, 41, -1, 3), (0, 49, 0, 18)]
def YF (v : sI) : Prop := ∀ e ∈ bxY, e.2.2.1 ≤ (v e.1 e.2.1).toInt ∧ (v e.1 e.2.1).toInt ≤ e.2.2.2
def hasB (j : Nat) (x : Int) : Prop := (j % 6 = 0 → 0 ≤ x ∧ x ≤ 3) ∧ (j % 6 = 1 → 0 ≤ x ∧ x ≤ 3) ∧ (j % 6 = 2 → 0 ≤ x ∧ x ≤ 9) ∧ (j % 6 = 3 → 0 ≤ x ∧ x ≤ 8) ∧ (j % 6 = 5 → 0 ≤ x ∧ x ≤ 18)
def YB (ar : sI) : Prop := (∀ j, -1 ≤ (ar 1 j).toInt ∧ (ar 1 j).toInt ≤ 3) ∧ (∀ j, 0 ≤ (ar 2 j).toInt ∧ (ar 2 j).toInt ≤ 60) ∧ (∀ j, hasB j (ar 7 j).toInt) ∧ (∀ j, 0 ≤ (ar 10 j).toInt ∧ (ar 10 j).toInt ≤ 9) ∧ (∀ j, 0 ≤ (ar 12 j).toInt ∧ (ar 12 j).toInt ≤ 9)
/-- the bits of the motifs among the first turns of a row, and the silences of one teller -/
def gTold (f : Nat → Int32) : Nat → Nat
  | 0 => 0
  | k + 1 => if f k = 9 then gTold f k else gTold f k ||| 2 ^ (f k).toInt.toNat
def gSil (f : Nat → Int32) (T t : Nat) : Nat → Nat
  | 0 => 0
  | k + 1 => gSil f T t k + (if f k = 9 ∧ k % T = t then 1 else 0)
def gGood (f : Nat → Int32) (T S n : Nat) : Prop := ∀ k, k < n → (f k ≠ 9 → (gTold f k).testBit (f k).toInt.toNat = false) ∧ (f k = 9 → gSil f T (k % T) k < S)
def YR (li hs tu : Nat → Int32) : Prop := hs 29 = iI 0 ∧ ∀ r, r < 5 → (((li r).toInt ≠ 0 ∨ 0 < (hs (6 * r + 2)).toInt ∨ 0 < (hs (6 * r + 5)).toInt) → 1 ≤ (hs (6 * r)).toInt) ∧ gGood (fun k => tu (18 * r + k)) (hs (6 * r)).toInt.toNat (hs (6 * r + 1)).toInt.toNat (hs (6 * r + 5)).toInt.toNat
def YI (v ar : sI) : Prop := YF v ∧ YB ar ∧ YR (ar 6) (ar 7) (ar 10)
theorem YI_get {v ar : sI} (h : YI v ar) (p k : Nat) (lo hi : Int) (hm : (p, k, lo, hi) ∈ bxY) : ∃ z : Int, (lo ≤ z ∧ z ≤ hi) ∧ v p k = iI z := ⟨(v p k).toInt, h.1 _ hm, (Int32.ofInt_toInt _).symm⟩
theorem YI_putN {v v' ar : sI} {i k : Nat} {x : Int32} (h : YI v ar) (hv : v' = va_up v i (upd (v i) k x)) (hn : ∀ e ∈ bxY, ¬ (e.1 = i ∧ e.2.1 = k)) : YI v' ar := by
  refine ⟨fun e he => ?_, h.2⟩
  rw [up_oth hv (hn e he)]
  exact h.1 e he
theorem YI_putB {v v' ar : sI} {i k : Nat} {z : Int} (h : YI v ar) (hv : v' = va_up v i (upd (v i) k (iI z))) (lo hi : Int) (hr : -2147483648 ≤ z ∧ z ≤ 2147483647) (hu : ∀ e ∈ bxY, e.1 = i → e.2.1 = k → e.2.2.1 = lo ∧ e.2.2.2 = hi) (hz : lo ≤ z ∧ z ≤ hi) : YI v' ar := by
  refine ⟨fun e he => ?_, h.2⟩
  by_cases q : e.1 = i ∧ e.2.1 = k
  · obtain ⟨q1, q2⟩ := q
    obtain ⟨h1, h2⟩ := hu e he q1 q2
    rw [q1, q2, up_eq hv, iI_toInt hr, h1, h2]
    exact hz
  · rw [up_oth hv q]
    exact h.1 e he
theorem upa_ne {ar ar' : sI} {i : Nat} {f : Nat → Int32} (h : ar' = va_up ar i f) (p : Nat) (hp : p ≠ i) : ar' p = ar p := by rw [h]; simp [va_up, hp]
theorem YI_arr {v ar ar' : sI} (h : YI v ar) (h1 : ar' 1 = ar 1) (h2 : ar' 2 = ar 2) (h6 : ar' 6 = ar 6) (h7 : ar' 7 = ar 7) (h10 : ar' 10 = ar 10) (h12 : ar' 12 = ar 12) : YI v ar' := by
  obtain ⟨a, ⟨b1, b2, b7, b10, b12⟩, c⟩ := h
  refine ⟨a, ⟨by rw [h1]; exact b1, by rw [h2]; exact b2, by rw [h7]; exact b7, by rw [h10]; exact b10, by rw [h12]; exact b12⟩, by rw [h6, h7, h10]; exact c⟩
theorem YI_ast {v ar ar' : sI} {i : Nat} {f : Nat → Int32} (h : YI v ar) (ha : ar' = va_up ar i f) (hi : i ≠ 1 ∧ i ≠ 2 ∧ i ≠ 6 ∧ i ≠ 7 ∧ i ≠ 10 ∧ i ≠ 12) : YI v ar' :=
  YI_arr h (upa_ne ha 1 (fun q => hi.1 q.symm)) (upa_ne ha 2 (fun q => hi.2.1 q.symm)) (upa_ne ha 6 (fun q => hi.2.2.1 q.symm)) (upa_ne ha 7 (fun q => hi.2.2.2.1 q.symm)) (upa_ne ha 10 (fun q => hi.2.2.2.2.1 q.symm)) (upa_ne ha 12 (fun q => hi.2.2.2.2.2 q.symm))
theorem box_upd {f : Nat → Int32} {lo hi : Int} (h : ∀ j, lo ≤ (f j).toInt ∧ (f j).toInt ≤ hi) (k : Nat) {z : Int} (hr : -2147483648 ≤ z ∧ z ≤ 2147483647) (hz : lo ≤ z ∧ z ≤ hi) : ∀ j, lo ≤ (upd f k (iI z) j).toInt ∧ (upd f k (iI z) j).toInt ≤ hi := fun j => by
  by_cases q : j = k
  · subst q
    simp only [upd, if_true]
    rw [iI_toInt hr]
    exact hz
  · simp only [upd, if_neg q]
    exact h j
theorem YI_ast12 {v ar ar' : sI} {k : Nat} {z : Int} (h : YI v ar) (ha : ar' = va_up ar 12 (upd (ar 12) k (iI z))) (hz : 0 ≤ z ∧ z ≤ 9) : YI v ar' := by
  obtain ⟨a, ⟨b1, b2, b7, b10, b12⟩, c⟩ := h
  refine ⟨a, ⟨by rw [upa_ne ha 1 (by decide)]; exact b1, by rw [upa_ne ha 2 (by decide)]; exact b2, by rw [upa_ne ha 7 (by decide)]; exact b7, by rw [upa_ne ha 10 (by decide)]; exact b10, ?_⟩, by rw [upa_ne ha 6 (by decide), upa_ne ha 7 (by decide), upa_ne ha 10 (by decide)]; exact c⟩
  have e : ar' 12 = upd (ar 12) k (iI z) := by rw [ha]; simp [va_up]
  rw [e]
  exact box_upd b12 k (by omega) hz
theorem YI_ast1 {v ar ar' : sI} {k : Nat} {z : Int} (h : YI v ar) (ha : ar' = va_up ar 1 (upd (ar 1) k (iI z))) (hz : -1 ≤ z ∧ z ≤ 3) : YI v ar' := by
  obtain ⟨a, ⟨b1, b2, b7, b10, b12⟩, c⟩ := h
  refine ⟨a, ⟨?_, by rw [upa_ne ha 2 (by decide)]; exact b2, by rw [upa_ne ha 7 (by decide)]; exact b7, by rw [upa_ne ha 10 (by decide)]; exact b10, by rw [upa_ne ha 12 (by decide)]; exact b12⟩, by rw [upa_ne ha 6 (by decide), upa_ne ha 7 (by decide), upa_ne ha 10 (by decide)]; exact c⟩
  have e : ar' 1 = upd (ar 1) k (iI z) := by rw [ha]; simp [va_up]
  rw [e]
  exact box_upd b1 k (by omega) hz
theorem YI_ast2 {v ar ar' : sI} {k : Nat} {z : Int} (h : YI v ar) (ha : ar' = va_up ar 2 (upd (ar 2) k (iI z))) (hz : 0 ≤ z ∧ z ≤ 60) : YI v ar' := by
  obtain ⟨a, ⟨b1, b2, b7, b10, b12⟩, c⟩ := h
  refine ⟨a, ⟨by rw [upa_ne ha 1 (by decide)]; exact b1, ?_, by rw [upa_ne ha 7 (by decide)]; exact b7, by rw [upa_ne ha 10 (by decide)]; exact b10, by rw [upa_ne ha 12 (by decide)]; exact b12⟩, by rw [upa_ne ha 6 (by decide), upa_ne ha 7 (by decide), upa_ne ha 10 (by decide)]; exact c⟩
  have e : ar' 2 = upd (ar 2) k (iI z) := by rw [ha]; simp [va_up]
  rw [e]
  exact box_upd b2 k (by omega) hz
theorem YI_a1 {v ar : sI} (h : YI v ar) (j : Nat) : ∃ z : Int, (-1 ≤ z ∧ z ≤ 3) ∧ ar 1 j = iI z := ⟨_, h.2.1.1 j, (Int32.ofInt_toInt _).symm⟩
theorem YI_a2 {v ar : sI} (h : YI v ar) (j : Nat) : ∃ z : Int, (0 ≤ z ∧ z ≤ 60) ∧ ar 2 j = iI z := ⟨_, h.2.1.2.1 j, (Int32.ofInt_toInt _).symm⟩
theorem YI_a10 {v ar : sI} (h : YI v ar) (j : Nat) : ∃ z : Int, (0 ≤ z ∧ z ≤ 9) ∧ ar 10 j = iI z := ⟨_, h.2.1.2.2.2.1 j, (Int32.ofInt_toInt _).symm⟩
theorem YI_a12 {v ar : sI} (h : YI v ar) (j : Nat) : ∃ z : Int, (0 ≤ z ∧ z ≤ 9) ∧ ar 12 j = iI z := ⟨_, h.2.1.2.2.2.2 j, (Int32.ofInt_toInt _).symm⟩
theorem YI_h0 {v ar : sI} (h : YI v ar) (j : Nat) (hj : j % 6 = 0) : ∃ z : Int, (0 ≤ z ∧ z ≤ 3) ∧ ar 7 j = iI z := ⟨_, (h.2.1.2.2.1 j).1 hj, (Int32.ofInt_toInt _).symm⟩
theorem YI_h1 {v ar : sI} (h : YI v ar) (j : Nat) (hj : j % 6 = 1) : ∃ z : Int, (0 ≤ z ∧ z ≤ 3) ∧ ar 7 j = iI z := ⟨_, (h.2.1.2.2.1 j).2.1 hj, (Int32.ofInt_toInt _).symm⟩
theorem YI_h2 {v ar : sI} (h : YI v ar) (j : Nat) (hj : j % 6 = 2) : ∃ z : Int, (0 ≤ z ∧ z ≤ 9) ∧ ar 7 j = iI z := ⟨_, (h.2.1.2.2.1 j).2.2.1 hj, (Int32.ofInt_toInt _).symm⟩
theorem YI_h3 {v ar : sI} (h : YI v ar) (j : Nat) (hj : j % 6 = 3) : ∃ z : Int, (0 ≤ z ∧ z ≤ 8) ∧ ar 7 j = iI z := ⟨_, (h.2.1.2.2.1 j).2.2.2.1 hj, (Int32.ofInt_toInt _).symm⟩
theorem YI_h5 {v ar : sI} (h : YI v ar) (j : Nat) (hj : j % 6 = 5) : ∃ z : Int, (0 ≤ z ∧ z ≤ 18) ∧ ar 7 j = iI z := ⟨_, (h.2.1.2.2.1 j).2.2.2.2 hj, (Int32.ofInt_toInt _).symm⟩
/-- a court, a motif, a turn: then there are tellers -/
theorem YI_t0 {v ar : sI} (h : YI v ar) {a b c d : Int} (ea : ar 6 0 = iI a) (ha : -2147483648 ≤ a ∧ a ≤ 2147483647) (eb : ar 7 2 = iI b) (hb : -2147483648 ≤ b ∧ b ≤ 2147483647) (ec : ar 7 5 = iI c) (hc : -2147483648 ≤ c ∧ c ≤ 2147483647) (ed : ar 7 0 = iI d) (hd : -2147483648 ≤ d ∧ d ≤ 2147483647) : (a = 0 ∧ b ≤ 0 ∧ c ≤ 0) ∨ 1 ≤ d := by
  have q := (h.2.2.2 0 (by decide)).1
  rw [show 6 * 0 + 2 = 2 from rfl, show 6 * 0 + 5 = 5 from rfl, show 6 * 0 = 0 from rfl, ea, eb, ec, ed, iI_toInt ha, iI_toInt hb, iI_toInt hc, iI_toInt hd] at q
  omega
theorem upx_ne {α : Type} {a a' : Nat → α} {i : Nat} {f : α} (h : a' = va_up a i f) (p : Nat) (hp : ¬ p = i) : a' p = a p := by rw [h]; simp [va_up, hp]
theorem upa_idx {ar ar' : sI} {i k j : Nat} {x : Int32} (h : ar' = va_up ar i (upd (ar i) k x)) (hj : j ≠ k) : ar' i j = ar i j := by rw [h]; simp [va_up, upd, hj]
theorem upa_at {ar ar' : sI} {i k j : Nat} {x : Int32} (h : ar' = va_up ar i (upd (ar i) k x)) (hj : j = k) : ar' i j = x := by rw [h, hj]; simp [va_up, upd]
theorem lI_add (a b : Int) : lI a + lI b = lI (a + b) := (Int64.ofInt_add a b).symm
theorem lI_sub (a b : Int) : lI a - lI b = lI (a - b) := (Int64.ofInt_sub a b).symm
theorem mem_subn {L' L : List Nat} (hs : ∀ x ∈ L', x ∈ L) {x : Nat} (q : x ∈ L') : x ∈ L := hs x q
theorem iI_or9 {a b : Int} (ha : 0 ≤ a ∧ a ≤ 511) (hb : 0 ≤ b ∧ b ≤ 511) : ∃ z : Int, (0 ≤ z ∧ z ≤ 511) ∧ iI a ||| iI b = iI z := by
  obtain ⟨n, rfl⟩ := Int.eq_ofNat_of_zero_le ha.1
  obtain ⟨k, rfl⟩ := Int.eq_ofNat_of_zero_le hb.1
  have h1 : n ||| k < 2 ^ 9 := Nat.or_lt_two_pow (by omega) (by omega)
  refine ⟨((n ||| k : Nat) : Int), ⟨by omega, by omega⟩, ?_⟩
  have e1 : iI (n : Int) = Int32.ofNat n := (iI_nI n).symm
  have e2 : iI (k : Int) = Int32.ofNat k := (iI_nI k).symm
  have e3 : iI ((n ||| k : Nat) : Int) = Int32.ofNat (n ||| k) := (iI_nI _).symm
  show iI (n : Int) ||| iI (k : Int) = _
  rw [e1, e2, e3]
  apply Int32.toBitVec_inj.mp
  rw [Int32.toBitVec_or]
  show BitVec.ofNat 32 n ||| BitVec.ofNat 32 k = BitVec.ofNat 32 (n ||| k)
  exact (BitVec.ofNat_or ..).symm
theorem iI_shl8 {a : Int} (ha : 0 ≤ a ∧ a ≤ 8) : ∃ z : Int, (1 ≤ z ∧ z ≤ 256) ∧ iI 1 <<< (iI a &&& 31) = iI z := by
  rcases (show a = 0 ∨ a = 1 ∨ a = 2 ∨ a = 3 ∨ a = 4 ∨ a = 5 ∨ a = 6 ∨ a = 7 ∨ a = 8 by omega) with rfl | rfl | rfl | rfl | rfl | rfl | rfl | rfl | rfl
  · exact ⟨1, by omega, by decide⟩
  · exact ⟨2, by omega, by decide⟩
  · exact ⟨4, by omega, by decide⟩
  · exact ⟨8, by omega, by decide⟩
  · exact ⟨16, by omega, by decide⟩
  · exact ⟨32, by omega, by decide⟩
  · exact ⟨64, by omega, by decide⟩
  · exact ⟨128, by omega, by decide⟩
  · exact ⟨256, by omega, by decide⟩
theorem iI_and9 {a : Int} (ha : 0 ≤ a ∧ a ≤ 511) (x : Int32) : ∃ z : Int, (0 ≤ z ∧ z ≤ 511) ∧ iI a &&& x = iI z := by
  obtain ⟨j, hj, e⟩ := iI_and (iI a &&& x) (iI 511) 9 (by decide)
  have e0 : iI a &&& iI 511 = iI a := by
    obtain ⟨n, rfl⟩ := Int.eq_ofNat_of_zero_le ha.1
    show iI (n : Int) &&& iI 511 = iI (n : Int)
    rw [show iI (n : Int) = nI n from (iI_nI n).symm, pk_andN (by omega) (m := iI 511) 9 (by decide), Nat.mod_eq_of_lt (by omega)]
  refine ⟨j, ⟨hj.1, by omega⟩, ?_⟩
  rw [← e]
  have c1 : iI a &&& x &&& iI 511 = iI a &&& iI 511 &&& x := by
    rw [Int32.and_assoc, Int32.and_comm x, ← Int32.and_assoc]
  rw [c1, e0]
/-- whether a byte of the tape is between two -/
def by01 (f : Nat → Int32) (n k lo hi : Int) : Int := if k < n ∧ lo ≤ (f (iI k).toNatClampNeg).toInt ∧ (f (iI k).toNatClampNeg).toInt ≤ hi then 1 else 0
theorem by01_of (f : Nat → Int32) (n k lo hi : Int) : ∃ t : Int, ((-2147483648 ≤ t ∧ t ≤ 2147483647) ∧ ((by01 f n k lo hi = 1 ∧ k < n ∧ lo ≤ t ∧ t ≤ hi) ∨ (by01 f n k lo hi = 0 ∧ (n ≤ k ∨ t < lo ∨ hi < t)))) ∧ f (iI k).toNatClampNeg = iI t := by
  obtain ⟨t, ht, et⟩ := iI_of (f (iI k).toNatClampNeg)
  refine ⟨t, ⟨ht, ?_⟩, et⟩
  unfold by01
  rw [et, iI_toInt ht]
  by_cases c : k < n ∧ lo ≤ t ∧ t ≤ hi
  · rw [if_pos c]; exact Or.inl ⟨rfl, c⟩
  · rw [if_neg c]; exact Or.inr ⟨rfl, by omega⟩
theorem gGood_0 (f : Nat → Int32) (T S : Nat) {n : Nat} (h : n = 0) : gGood f T S n := fun k hk => absurd hk (by omega)
/-- a number of the court that is read -/
theorem YI_read7 {v ar ar' : sI} {z : Int} {k : Nat} (h : YI v ar) (ha : ar' = va_up ar 7 (upd (ar 7) k (iI z))) (hk : 24 ≤ k ∧ k ≤ 28) (hr : -2147483648 ≤ z ∧ z ≤ 2147483647) (hb : hasB k z) (ht : (k = 24 ∧ 1 ≤ z) ∨ (k ≠ 24 ∧ (k = 26 → 1 ≤ (ar 7 24).toInt))) : YI v ar' := by
  obtain ⟨a, ⟨b1, b2, b7, b10, b12⟩, c0, c⟩ := h
  have e : ar' 7 = upd (ar 7) k (iI z) := by rw [ha]; simp [va_up]
  have ne : ∀ j, j ≠ k → ar' 7 j = ar 7 j := fun j hj => by rw [e]; simp [upd, hj]
  have eq : ar' 7 k = iI z := by rw [e]; simp [upd]
  refine ⟨a, ⟨by rw [upa_ne ha 1 (by decide)]; exact b1, by rw [upa_ne ha 2 (by decide)]; exact b2, ?_, by rw [upa_ne ha 10 (by decide)]; exact b10, by rw [upa_ne ha 12 (by decide)]; exact b12⟩, (ne 29 (by omega)).trans c0, fun r hr4 => ?_⟩
  · intro j
    by_cases q : j = k
    · rw [q, eq, iI_toInt hr]; exact hb
    · rw [ne j q]; exact b7 j
  · rw [upa_ne ha 6 (by decide), upa_ne ha 10 (by decide)]
    rcases (show r < 4 ∨ r = 4 by omega) with q | q
    · rw [ne (6 * r + 2) (by omega), ne (6 * r + 5) (by omega), ne (6 * r) (by omega), ne (6 * r + 1) (by omega)]
      exact c r hr4
    · subst q
      have c4 := (c 4 (by decide)).1
      rw [show 6 * 4 + 2 = 26 from rfl, show 6 * 4 + 5 = 29 from rfl, show 6 * 4 = 24 from rfl] at c4 ⊢
      rw [ne 29 (by omega), c0]
      refine ⟨fun g => ?_, gGood_0 _ _ _ (by decide)⟩
      rcases ht with ⟨rfl, hz⟩ | ⟨h24, h26⟩
      · rw [eq, iI_toInt hr]; exact hz
      · rw [ne 24 (fun q => h24 q.symm)]
        by_cases q : k = 26
        · exact h26 q
        · rw [ne 26 (fun x => q x.symm)] at g
          exact c4 (by rw [c0]; exact g)
theorem YI_read6 {v ar ar' : sI} {x : Int32} (h : YI v ar) (ha : ar' = va_up ar 6 (upd (ar 6) 4 x)) {d : Int} (ed : ar 7 24 = iI d) (hd : 1 ≤ d ∧ d ≤ 3) : YI v ar' := by
  obtain ⟨a, ⟨b1, b2, b7, b10, b12⟩, c0, c⟩ := h
  have ne : ∀ j, j ≠ 4 → ar' 6 j = ar 6 j := fun j hj => by rw [ha]; simp [va_up, upd, hj]
  refine ⟨a, ⟨by rw [upa_ne ha 1 (by decide)]; exact b1, by rw [upa_ne ha 2 (by decide)]; exact b2, by rw [upa_ne ha 7 (by decide)]; exact b7, by rw [upa_ne ha 10 (by decide)]; exact b10, by rw [upa_ne ha 12 (by decide)]; exact b12⟩, by rw [upa_ne ha 7 (by decide)]; exact c0, fun r hr4 => ?_⟩
  rw [upa_ne ha 7 (by decide), upa_ne ha 10 (by decide)]
  rcases (show r < 4 ∨ r = 4 by omega) with q | q
  · rw [ne r (by omega)]; exact c r hr4
  · subst q
    refine ⟨fun _ => ?_, (c 4 (by decide)).2⟩
    rw [show 6 * 4 = 24 from rfl, ed, iI_toInt (by omega)]; exact hd.1
theorem YI_clears {v ar ar1 ar2 ar3 ar4 ar5 ar6 ar7 : sI} (h : YI v ar) (h1 : ar1 = va_up ar 6 (upd (ar 6) 4 (iI 0))) (h2 : ar2 = va_up ar1 7 (upd (ar1 7) 24 (iI 0))) (h3 : ar3 = va_up ar2 7 (upd (ar2 7) 25 (iI 0))) (h4 : ar4 = va_up ar3 7 (upd (ar3 7) 26 (iI 0))) (h5 : ar5 = va_up ar4 7 (upd (ar4 7) 27 (iI 0))) (h6 : ar6 = va_up ar5 7 (upd (ar5 7) 28 (iI 0))) (h7 : ar7 = va_up ar6 7 (upd (ar6 7) 29 (iI 0))) : YI v ar7 := by
  obtain ⟨a, ⟨b1, b2, b7, b10, b12⟩, c0, c⟩ := h
  have o : ∀ p, p ≠ 6 → p ≠ 7 → ar7 p = ar p := fun p p6 p7 => by
    rw [upa_ne h7 p p7, upa_ne h6 p p7, upa_ne h5 p p7, upa_ne h4 p p7, upa_ne h3 p p7, upa_ne h2 p p7, upa_ne h1 p p6]
  have s6 : ar7 6 = upd (ar 6) 4 (iI 0) := by
    rw [upa_ne h7 6 (by decide), upa_ne h6 6 (by decide), upa_ne h5 6 (by decide), upa_ne h4 6 (by decide), upa_ne h3 6 (by decide), upa_ne h2 6 (by decide), h1]; simp [va_up]
  have z7 : ∀ j, 24 ≤ j → j ≤ 29 → ar7 7 j = iI 0 := fun j j1 j2 => by
    rcases (show j = 24 ∨ j = 25 ∨ j = 26 ∨ j = 27 ∨ j = 28 ∨ j = 29 by omega) with rfl | rfl | rfl | rfl | rfl | rfl
    · rw [upa_idx h7 (by decide), upa_idx h6 (by decide), upa_idx h5 (by decide), upa_idx h4 (by decide), upa_idx h3 (by decide), upa_at h2 rfl]
    · rw [upa_idx h7 (by decide), upa_idx h6 (by decide), upa_idx h5 (by decide), upa_idx h4 (by decide), upa_at h3 rfl]
    · rw [upa_idx h7 (by decide), upa_idx h6 (by decide), upa_idx h5 (by decide), upa_at h4 rfl]
    · rw [upa_idx h7 (by decide), upa_idx h6 (by decide), upa_at h5 rfl]
    · rw [upa_idx h7 (by decide), upa_at h6 rfl]
    · rw [upa_at h7 rfl]
  have o7 : ∀ j, (j < 24 ∨ 29 < j) → ar7 7 j = ar 7 j := fun j hj => by
    rw [upa_idx h7 (by omega), upa_idx h6 (by omega), upa_idx h5 (by omega), upa_idx h4 (by omega), upa_idx h3 (by omega), upa_idx h2 (by omega), upa_ne h1 7 (by decide)]
  refine ⟨a, ⟨by rw [o 1 (by decide) (by decide)]; exact b1, by rw [o 2 (by decide) (by decide)]; exact b2, ?_, by rw [o 10 (by decide) (by decide)]; exact b10, by rw [o 12 (by decide) (by decide)]; exact b12⟩, z7 29 (by decide) (by decide), fun r hr => ?_⟩
  · intro j
    by_cases q : j < 24 ∨ 29 < j
    · rw [o7 j q]; exact b7 j
    · rw [z7 j (by omega) (by omega)]; refine ⟨fun _ => by decide, fun _ => by decide, fun _ => by decide, fun _ => by decide, fun _ => by decide⟩
  · rw [o 10 (by decide) (by decide), s6]
    rcases (show r < 4 ∨ r = 4 by omega) with q | q
    · rw [o7 (6 * r + 2) (by omega), o7 (6 * r + 5) (by omega), o7 (6 * r) (by omega), o7 (6 * r + 1) (by omega)]
      have := c r hr
      simp only [upd, if_neg (show ¬ r = 4 by omega)]
      exact this
    · subst q
      rw [z7 (6 * 4 + 2) (by decide) (by decide), z7 (6 * 4 + 5) (by decide) (by decide)]
      refine ⟨fun g => ?_, gGood_0 _ _ _ (by decide)⟩
      exfalso
      have e : upd (ar 6) 4 (iI 0) 4 = iI 0 := by simp [upd]
      rw [e] at g
      revert g
      decide
theorem YI_tr {v ar : sI} (h : YI v ar) {a d : Int} (ea : ar 6 4 = iI a) (ha : -2147483648 ≤ a ∧ a ≤ 2147483647) (ed : ar 7 24 = iI d) (hd : -2147483648 ≤ d ∧ d ≤ 2147483647) : a = 0 ∨ 1 ≤ d := by
  have q := (h.2.2.2 4 (by decide)).1
  rw [show 6 * 4 = 24 from rfl, ea, ed, iI_toInt ha, iI_toInt hd] at q
  omega
section SPL
variable {p : Program} {l : Launch} {e : Env} {R : Room} {s : State} {m : MethodId} {args : Array Value} {below : List Frame} {meth : Method} {c : Code} {cc : ByteArray} {H : Heap} {locs : List Loc} {cells slots : Nat} {Q : State → Prop} {pc nL : Nat} {ls : Array Slot} {rest st : List Value} {D : va_G} {K : Nat → ClassId} {ad : Nat → Nat} {G : gT} {N : Nat} {v ar : sI} {al : sL} {own : String}
theorem x_spl (hE : CallFix p m c cc nL s args tbG own) {y : MethodName} {b : ByteArray} {mL d idx nn : Nat} {ret : Option FieldType} {As : List Value} {Bp : State → Prop} {post : Int64 → Prop} (hM : Met l y (wM y b mL ret) (rmD d) (va_Pc As Bp) (vp_Sl post) 0 0 (fun _ => False)) (hbl : FrameBlind (va_Pc As Bp)) (hB : ∀ U : State, U.heap = H → s.WarmedH U.vm → Bp U) (hnn : As.length = nn) (h1 : Cond.methodLink own idx y ∈ tbG) (h2 : Cond.static y ∈ tbG) (h4 : Cond.initialized y.cls ∈ tbG) (h5 : Cond.code y b mL ret ∈ tbG) (hd : y.cls ≠ "java/lang/invoke/MethodHandle" ∧ y.cls ≠ "java/lang/invoke/VarHandle" ∧ (parseMethodDescriptor y.desc).map (fun d => d.parameters.length) = some nn) (hR : d + 1 ≤ R.frames ∧ 8 + (mL + 11) + 64 * d ≤ R.locals) (hls : ls.size = nL) (hst : st = As.reverse ++ rest) (hw : (rest.map fun v => v.category).sum ≤ 8) (hcs : cells ≤ R.cells ∧ slots ≤ R.slots) (hdg : decode cc pc = .ok (.invokestatic idx, 3))
    (kk : ∀ r : Int64, post r → W p l e R s m args below meth c H locs cells slots Q (F0 m (pc + 3) ls (.long r :: rest))) : W p l e R s m args below meth c H locs cells slots Q (F0 m pc ls st) := by
  refine vp_callSl (va_runS (As := As) (rest := rest) hE hM (va_cwS nn hE.2.2.2.2 (gS h1 h2 h4 h5) rfl rfl rfl hd hR) ⟨hbl, fun U hU hW => ⟨rfl, hB U hU hW⟩⟩ rfl hnn hls hst (lv_room hw) hdg hcs).run kk
end SPL
