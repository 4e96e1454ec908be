/-! THE CLAIM OUT OF ONE WALK OF THE LAW'S BODY. Your part is whole_start (and what it stands on); all else here is the same for every law, but numbers. -/
def R_law : String := "TaleCourtLaw"
def lw_P (b : Addr) (xs : List Int32) (args : Array Value) (s : State) : Prop := args = #[.ref b] ∧ s.IntsAt b xs ∧ xs.length ≤ 3072 ∧ (Jvm.Cond.and given_1 narrow_1).before args s = true
def lw_Q (_ : Array Value) (s : State) (o : Outcome) (t : State) : Prop := o = .returned (some (.int 1)) ∧ Framed s o t [] 600000 7302250
def lw_Z (below : List Frame) (a : Array Value) (s : State) : State → Prop := fun t => ∃ o, t.status = .running ∧ Ended t below o ∧ lw_Q a s o t
/-- the law's own end, with 1 on the stack, nothing written that was there before, its room as the claim has it -/
theorem lw_ret {p : Program} {l : Launch} {e : Env} {s : State} {m : MethodId} {below : List Frame} {meth : Method} {c : Code} {b : Nat} (hx : p.tables.exec = Jvm.exec) (hb : c.code = code) (hr : meth.sig.returnType = ret) (hlocks : meth.locks = false) {pc : Nat} {H : Heap} {ls : Array Slot} (hdg : decode code pc = .ok (.ireturn, 1)) : W p l e room_1 s m #[Value.ref b] below meth c H [] 600000 7302250 (lw_Z below #[Value.ref b] s) (F0 m pc ls [.int 1]) := by
  intro T hT X
  obtain ⟨fs, hret, hrun, hended, hW, hframe⟩ := X.leave (v := some (.int 1)) (hlocks := hlocks) (fun h => by rw [hr] at h; cases h)
  have hmeth' : T.vm.method? m = some meth := X.method'
  refine ⟨T.setFrames fs, ?_, .returned (some (.int 1)), hrun, hended, rfl, ⟨_, rfl⟩, hW, hframe⟩
  jvm_step X.here [X.here.top, hx, hb, hdg, hmeth', hr, ret, narrow_b1]
  (try refine ⟨rfl, ?_⟩); (try refine ⟨rfl, ?_⟩)
  first | (intro acts; rw [hret _ acts rfl rfl rfl]) | rw [hret _ _ rfl rfl rfl]
  exact Steps.refl _
/-- what holds at the law's entry: the machine, the code, the tables' words (any of lw_tbl by 'hts w (by decide +kernel)'), the script of L ints xs at the cell b, what the Statement gives of the start (any of its parts by flat_of_before) -/
def lw_At (p : Program) (s : State) (m : MethodId) (meth : Method) (c : Code) (b L : Nat) (xs : Nat → Int32) : Prop :=
  p.tables.exec = Jvm.exec ∧ c.code = code ∧ meth.sig.returnType = ret ∧ c.maxLocals = 4 ∧ s.vm.findClass R_law = some m.cls ∧ (∀ w ∈ lw_tbl, w.before #[Value.ref b] s = true) ∧ va_X b L xs s s.heap ∧ b < s.heap.size ∧ meth.locks = false ∧ (Jvm.Cond.and given_1 narrow_1).before #[Value.ref b] s = true

section LV
variable {p : Program} {l : Launch} {e : Env} {R : Room} {s : State} {m : MethodId} {args : Array Value} {below : List Frame} {meth : Method} {c : Code} {cc : ByteArray} {H : Heap} {locs : List Loc} {cells slots : Nat} {Q : State → Prop} {pc nL : Nat} {ls : Array Slot} {rest st : List Value} {D : va_G} {K : Nat → ClassId} {ad : Nat → Nat} {G : gT} {N : Nat} {v ar : sI} {al : sL} {own : String}
theorem l_viG (hE : CallFix p m c cc nL s args tbG own) {A : Nat → Prop} (hS : va_S A s.heap H locs) (hA : ∀ i, i < N → A (ad i)) {y : MethodName} {b : ByteArray} {mL d idx nn a : Nat} {ret : Option FieldType} {As : List Value} {Bp : State → Prop} {post : Int32 → sT → Prop} (hM : Met l y (wM y b mL ret) (rmD d) (va_Pc (.ref a :: As) Bp) (va_Qi post (wB D ad G N) (inW ad N)) 0 0 (inW ad N)) (hbl : FrameBlind (va_Pc (.ref a :: As) Bp)) (hB : ∀ U : State, U.heap = H → s.WarmedH U.vm → Bp U) (hrecv : ∃ cell : Cell, H[a]? = some cell ∧ cell.vm.isStatics = false ∧ s.vm.findClass y.cls = some cell.cls) (hnn : As.length = nn) (h1 : Cond.methodLink own idx y ∈ tbG) (h2 : Cond.instanceMethod y ∈ tbG) (h3 : Cond.selects y.cls y y ∈ tbG) (h4 : Cond.initialized y.cls ∈ tbG) (h5 : Cond.code y b mL ret ∈ tbG) (hd : y.cls = y.cls ∧ y.cls ≠ "java/lang/invoke/MethodHandle" ∧ y.cls ≠ "java/lang/invoke/VarHandle" ∧ (parseMethodDescriptor y.desc).map (fun d => d.parameters.length) = some nn) (hR : d + 1 ≤ R.frames ∧ 8 + (mL + 11) + 64 * d ≤ R.locals) (hls : ls.size = nL) (hst : st = As.reverse ++ .ref a :: rest) (hw : (rest.map fun v => v.category).sum ≤ 8) (hcs : cells ≤ R.cells ∧ slots ≤ R.slots) (hdg : decode cc pc = .ok (.invokevirtual idx, 3))
    (kk : ∀ (r : Int32) (v' ar' : sI) (al' : sL) (H1 : Heap) (locs1 : List Loc), post r (v', ar', al') → va_P D xcl (wW ad G N v' ar' al') H1 → (∀ q : Nat, q < H.size → ¬ inW ad N q → H1[q]? = H[q]?) → va_S A s.heap H1 locs1 → W p l e R s m args below meth c H1 locs1 cells slots Q (F0 m (pc + 3) ls (.int r :: rest))) : W p l e R s m args below meth c H locs cells slots Q (F0 m pc ls st) := by
  refine va_calli (va_runV (As := As) (rest := rest) hE hM (cwV nn hE.2.2.2.2 (gV h1 h2 h3 h4 h5) rfl rfl rfl hd hR) ⟨hbl, hrecv, fun U hU hW => ⟨rfl, hB U hU hW⟩⟩ rfl hnn hls hst (lv_room hw) hdg hcs) hS (fun q _ h => inA hA q h) (inA hA) (fun r u t H1 locs1 ht _ hp hB1 _ hk hS1 => ?_)
  exact kk r u.1 u.2.1 u.2.2 H1 locs1 hp (by rw [← ht]; exact hB1) hk hS1
theorem l_viF (hE : CallFix p m c cc nL s args tbG own) (hK : va_K D xcl (xty K) s) (hN : apart ad 132) (hP : va_P D xcl (wW ad (xG ad K none) 132 v ar al) H) {A : Nat → Prop} (hS : va_S A s.heap H locs) (hA0 : ∀ q, s.heap.size ≤ q → A q) (hA : ∀ i, i < 132 → A (ad i)) {y : MethodName} {b : ByteArray} {mL d idx nn a : Nat} {ret : Option FieldType} {As : List Value} {post : Int32 → Option (Nat → Nat) × sT → Prop} (hM : Met l y (wM y b mL ret) (rmC d 1 36880) (va_Pc (.ref a :: As) (fPre2 D K ad H v ar al)) (va_Qi post (bF2 D K ad H) (aF ad H.size)) 1 36880 (aF ad H.size)) (hrecv : ∃ cell : Cell, H[a]? = some cell ∧ cell.vm.isStatics = false ∧ s.vm.findClass y.cls = some cell.cls) (hnn : As.length = nn) (h1 : Cond.methodLink own idx y ∈ tbG) (h2 : Cond.instanceMethod y ∈ tbG) (h3 : Cond.selects y.cls y y ∈ tbG) (h4 : Cond.initialized y.cls ∈ tbG) (h5 : Cond.code y b mL ret ∈ tbG) (hd : y.cls = y.cls ∧ y.cls ≠ "java/lang/invoke/MethodHandle" ∧ y.cls ≠ "java/lang/invoke/VarHandle" ∧ (parseMethodDescriptor y.desc).map (fun d => d.parameters.length) = some nn) (hR : d + 1 ≤ R.frames ∧ 8 + (mL + 11) + 64 * d ≤ R.locals) (hls : ls.size = nL) (hst : st = As.reverse ++ .ref a :: rest) (hw : (rest.map fun v => v.category).sum ≤ 8) (hcs : cells + 1 ≤ R.cells ∧ slots + 36880 ≤ R.slots) (hdg : decode cc pc = .ok (.invokevirtual idx, 3))
    (kk : ∀ (r : Int32) (u : Option (Nat → Nat) × sT) (t : State) (H1 : Heap) (locs1 : List Loc), t.heap = H1 → post r u → bF2 D K ad H u t → (∀ q : Nat, q < H.size → ¬ aF ad H.size q → H1[q]? = H[q]?) → va_S A s.heap H1 locs1 → W p l e R s m args below meth c H1 locs1 (cells + 1) (slots + 36880) Q (F0 m (pc + 3) ls (.int r :: rest))) : W p l e R s m args below meth c H locs cells slots Q (F0 m pc ls st) := by
  refine va_calli (va_runV (As := As) (rest := rest) hE hM (cwV nn hE.2.2.2.2 (gV h1 h2 h3 h4 h5) rfl rfl rfl hd hR) ⟨fPre2_blind, hrecv, fun U hU hW => ⟨rfl, hU, wPre_now hK hN hP U hU hW⟩⟩ rfl hnn hls hst (lv_room hw) hdg hcs) hS (fun q _ h => aF_sub hS hA0 hA q h) (aF_sub hS hA0 hA) (fun r u t H1 locs1 ht _ hp hB1 _ hk hS1 => ?_)
  exact kk r u t H1 locs1 ht hp hB1 hk hS1
theorem W_book {g : JFrame} (kk : H.size ≤ s.heap.size + cells → ((H.toList.drop s.heap.size).map (·.slots.size)).sum ≤ slots → W p l e R s m args below meth c H locs cells slots Q g) : W p l e R s m args below meth c H locs cells slots Q g := fun T hT X => kk (by rw [← hT]; exact X.same.2.2.1) (by rw [← hT]; exact X.same.2.2.2.2.1) T hT X
theorem W_low {g : JFrame} {k n : Nat} (h1 : H.size ≤ s.heap.size + k) (h2 : ((H.toList.drop s.heap.size).map (·.slots.size)).sum ≤ n) (kk : W p l e R s m args below meth c H locs k n Q g) : W p l e R s m args below meth c H locs cells slots Q g := fun T hT X => kk T hT { X with same := ⟨X.same.1, X.same.2.1, by rw [← hT] at h1; exact h1, X.same.2.2.2.1, by rw [← hT] at h2; exact h2, X.same.2.2.2.2.2⟩ }
end LV
theorem w_keep {D : va_G} {ad ad' : Nat → Nat} {G' : gT} {N N' : Nat} {v' ar' : sI} {al' : sL} {H H1 : Heap} (hP : va_P D xcl (wW ad' G' N' v' ar' al') H) (hdis : ∀ i j, i < N → j < N' → ad i ≠ ad' j) (hk : ∀ q : Nat, q < H.size → ¬ inW ad N q → H1[q]? = H[q]?) : va_P D xcl (wW ad' G' N' v' ar' al') H1 :=
  hP.kept (fun k q hq => by
    have hlt := (hP k q hq).lt
    obtain ⟨h1, rfl⟩ := pw_lt hq
    exact hk _ hlt (fun ⟨i, hi, e⟩ => hdis i k hi h1 e.symm))
theorem pw_len (a : Nat → Nat) (f : Nat → va_E) (n : Nat) : (pw a f n).length = n := by simp [pw]
theorem two {D : va_G} {A : Nat → Prop} {a1 a2 : Nat → Nat} {f1 f2 : Nat → va_E} {n1 n2 : Nat} {H : Heap} (hP : va_P D xcl (pw a1 f1 n1 ++ pw a2 f2 n2) H) (hD : va_D A (pw a1 f1 n1 ++ pw a2 f2 n2)) : va_P D xcl (pw a1 f1 n1) H ∧ va_P D xcl (pw a2 f2 n2) H ∧ apart a1 n1 ∧ apart a2 n2 ∧ (∀ i, i < n1 → A (a1 i)) ∧ (∀ i, i < n2 → A (a2 i)) ∧ ∀ i j, i < n1 → j < n2 → a1 i ≠ a2 j := by
  have g1 : ∀ i, i < n1 → (pw a1 f1 n1 ++ pw a2 f2 n2)[i]? = some (a1 i, f1 i) := fun i hi => by
    rw [List.getElem?_append_left (by rw [pw_len]; exact hi)]; exact pw_at hi
  have g2 : ∀ j, j < n2 → (pw a1 f1 n1 ++ pw a2 f2 n2)[n1 + j]? = some (a2 j, f2 j) := fun j hj => by
    rw [List.getElem?_append_right (by rw [pw_len]; omega), pw_len, show n1 + j - n1 = j by omega]; exact pw_at hj
  refine ⟨P_mem.mpr (fun q hq => P_mem.mp hP q (List.mem_append_left _ hq)), P_mem.mpr (fun q hq => P_mem.mp hP q (List.mem_append_right _ hq)), fun i j hi hj he => ?_, fun i j hi hj he => ?_, fun i hi => hD.2 i _ (g1 i hi), fun j hj => hD.2 _ _ (g2 j hj), fun i j hi hj he => ?_⟩
  · exact hD.1 i j _ _ (g1 i hi) (g1 j hj) he
  · have := hD.1 (n1 + i) (n1 + j) _ _ (g2 i hi) (g2 j hj) he
    omega
  · have := hD.1 i (n1 + j) _ _ (g1 i hi) (g2 j hj) he
    omega
theorem arr_i {args : Array Value} {s : State} (h : (Cond.arrayClass .int).before args s = true) : ∃ cA, ArrOfT s cA .int ∧ va_RA s cA .int := by
  obtain ⟨cA, kA, comp, h1, h2, h3⟩ := Cond.arrayClass_spec h
  exact ⟨cA, fun n z => ⟨fun k h => (by cases h), kA, h2, comp, h3⟩, h1⟩
theorem arr_l {args : Array Value} {s : State} (h : (Cond.arrayClass .long).before args s = true) : ∃ cA, ArrOfT s cA .long ∧ va_RA s cA .long := by
  obtain ⟨cA, kA, comp, h1, h2, h3⟩ := Cond.arrayClass_spec h
  exact ⟨cA, fun n z => ⟨fun k h => (by cases h), kA, h2, comp, h3⟩, h1⟩
theorem arr_b {args : Array Value} {s : State} (h : (Cond.arrayClass .byte).before args s = true) : ∃ cA, ArrOfT s cA .byte ∧ va_RA s cA .byte := by
  obtain ⟨cA, kA, comp, h1, h2, h3⟩ := Cond.arrayClass_spec h
  exact ⟨cA, fun n z => ⟨fun k h => (by cases h), kA, h2, comp, h3⟩, h1⟩
theorem arr_z {args : Array Value} {s : State} (h : (Cond.arrayClass .boolean).before args s = true) : ∃ cA, ArrOfT s cA .boolean ∧ va_RA s cA .boolean := by
  obtain ⟨cA, kA, comp, h1, h2, h3⟩ := Cond.arrayClass_spec h
  exact ⟨cA, fun n z => ⟨fun k h => (by cases h), kA, h2, comp, h3⟩, h1⟩
theorem arr_o {args : Array Value} {s : State} {C : String} (h : (Cond.arrayOver (.object C)).before args s = true) : ∃ cA, ArrOfT s cA (.object C) ∧ va_RA s cA (.object C) := by
  obtain ⟨comp, cA, kA, h1, h2, h3, h4, h5⟩ := Cond.arrayOver_spec h
  exact ⟨cA, fun n z => ⟨fun k h => (by cases h), kA, h3, comp, h4⟩, kA, comp, h3, h4, h1, h5⟩

def lawA (s : State) : Nat → Prop := fun q => s.heap.size ≤ q
theorem w_keepF {D : va_G} {ad ad' : Nat → Nat} {G' : gT} {N' : Nat} {v' ar' : sI} {al' : sL} {H H1 : Heap} (hP : va_P D xcl (wW ad' G' N' v' ar' al') H) (hdis : ∀ i j, i < 132 → j < N' → ad i ≠ ad' j) (hk : ∀ q : Nat, q < H.size → ¬ aF ad H.size q → H1[q]? = H[q]?) : va_P D xcl (wW ad' G' N' v' ar' al') H1 :=
  hP.kept (fun k q hq => by
    have hlt := (hP k q hq).lt
    obtain ⟨h1, rfl⟩ := pw_lt hq
    exact hk _ hlt (fun z => z.elim (fun ⟨i, hi, e⟩ => hdis i k hi h1 e.symm) (fun z => absurd hlt (Nat.not_lt.mpr z))))
theorem w_lt {D : va_G} {ad' : Nat → Nat} {G' : gT} {N' : Nat} {v' ar' : sI} {al' : sL} {H : Heap} (hP : va_P D xcl (wW ad' G' N' v' ar' al') H) {j : Nat} (hj : j < N') : ad' j < H.size := (hP j _ (pw_at hj)).lt
def lawM (ax : Nat → Nat) (mm : Option Nat) (N cells slots : Nat) : Prop := (mm = none ∧ N = 132 ∧ cells = 153 ∧ slots = 180094) ∨ (mm = some (ax 132) ∧ N = 133 ∧ cells = 154 ∧ slots = 216974)
theorem lawM_c {ax : Nat → Nat} {mm : Option Nat} {N cells slots : Nat} (h : lawM ax mm N cells slots) : cells ≤ room_1.cells ∧ slots ≤ room_1.slots := by
  rcases h with ⟨_, _, rfl, rfl⟩ | ⟨_, _, rfl, rfl⟩
  · exact ⟨Nat.le_of_ble_eq_true rfl, Nat.le_of_ble_eq_true rfl⟩
  · exact ⟨Nat.le_of_ble_eq_true rfl, Nat.le_of_ble_eq_true rfl⟩
theorem lawM_N {ax : Nat → Nat} {mm : Option Nat} {N cells slots : Nat} (h : lawM ax mm N cells slots) : 132 ≤ N := by
  rcases h with ⟨_, rfl, _, _⟩ | ⟨_, rfl, _, _⟩ <;> omega
theorem lawR_start : lawR xv0 xa0 xl0 yv0 ya0 yl0 := ⟨⟨by decide +kernel, by decide +kernel, by decide +kernel⟩, Or.inl ⟨by decide +kernel, by decide +kernel⟩, Or.inl ⟨by decide +kernel, by decide +kernel⟩, Or.inl ⟨by decide +kernel, by decide +kernel⟩, Or.inl ⟨by decide +kernel, by decide +kernel⟩⟩
/-- the two worlds between two calls -/
def lawI (s : State) (D : va_G) (K : Nat → ClassId) (ay ax : Nat → Nat) (mm : Option Nat) (N cells slots : Nat) (v ar : sI) (al : sL) (v' ar' : sI) (al' : sL) (H : Heap) (locs : List Loc) : Prop :=
  apart ax N ∧ apart ay 21 ∧ (∀ i, i < N → lawA s (ax i)) ∧ (∀ i, i < 21 → lawA s (ay i)) ∧ (∀ i j, i < N → j < 21 → ax i ≠ ay j) ∧ va_P D xcl (wW ax (xG ax K mm) N v ar al) H ∧ va_P D xcl (wW ay (yG ay K) 21 v' ar' al') H ∧ va_S (lawA s) s.heap H locs ∧ XI v ∧ YI v' ar' ∧ lawM ax mm N cells slots ∧ lawR v ar al v' ar' al'
def lawF (p : Program) (s : State) (m : MethodId) (meth : Method) (c : Code) (b L : Nat) (xs : Nat → Int32) (D : va_G) (K : Nat → ClassId) (tk tv : Nat → Nat) : Prop :=
  lw_At p s m meth c b L xs ∧ CallFix p m c code 4 s #[Value.ref b] tbG "TaleCourtLaw" ∧ va_K D xcl (xty K) s ∧ tP tk tv (lawA s) s ∧ tR tk s
def lawK (p : Program) (l : Launch) (e : Env) (s : State) (m : MethodId) (below : List Frame) (meth : Method) (c : Code) (b : Nat) (D : va_G) (K : Nat → ClassId) (ay : Nat → Nat) (i : Int) : Prop := ∀ (ax : Nat → Nat) (mm : Option Nat) (N cells slots : Nat) (v ar : sI) (al : sL) (v' ar' : sI) (al' : sL) (H : Heap) (locs : List Loc) (ls : Array Slot), lawI s D K ay ax mm N cells slots v ar al v' ar' al' H locs → lv_has ls 4 [(3, .int (iI i)), (2, .ref (ay 0)), (1, .ref (ax 0)), (0, .ref b)] → W p l e room_1 s m #[Value.ref b] below meth c H locs cells slots (lw_Z below #[Value.ref b] s) (F0 m 1954 ls [])
theorem tP_nar {tk tv : Nat → Nat} {A B : Nat → Prop} {U : State} (h : tP tk tv A U) (hAB : ∀ q, B q → A q) : tP tk tv B U := ⟨h.1.narrow hAB, h.2.1.narrow hAB, h.2.2.narrow hAB⟩
theorem tx_ex : ∀ i, i < 18 → Cond.exactly (Term.string "TaleCourt$Reader" (tIx.getD i 0)) "java/lang/String" ∈ flatC (Jvm.Cond.and given_1 narrow_1) := by decide +kernel
theorem tx_co : ∀ i, i < 18 → Cond.eq (.field (Term.string "TaleCourt$Reader" (tIx.getD i 0)) "java/lang/String" "coder" "B") (.int 0) ∈ flatC (Jvm.Cond.and given_1 narrow_1) := by decide +kernel
theorem tx_ar : ∀ i, i < 18 → Cond.arrayOf (.field (Term.string "TaleCourt$Reader" (tIx.getD i 0)) "java/lang/String" "value" "[B") .byte ∈ flatC (Jvm.Cond.and given_1 narrow_1) := by decide +kernel
theorem tx_le : ∀ i, i < 18 → Cond.eq (.length (.field (Term.string "TaleCourt$Reader" (tIx.getD i 0)) "java/lang/String" "value" "[B")) (.int (Int32.ofNat (tLen.getD i 0))) ∈ flatC (Jvm.Cond.and given_1 narrow_1) := by decide +kernel
theorem tx_el : ∀ i, i < 18 → ∀ j, j < tLen.getD i 0 → Cond.eq (.elem (.field (Term.string "TaleCourt$Reader" (tIx.getD i 0)) "java/lang/String" "value" "[B") (.int (Int32.ofNat j))) (.int ((tByt.getD i []).getD j 0)) ∈ flatC (Jvm.Cond.and given_1 narrow_1) := by decide +kernel
theorem nq_94_100 : Cond.not (Cond.eq (Term.string "TaleCourt$Reader" 94) (Term.string "TaleCourt$Reader" 100)) ∈ flatC (Jvm.Cond.and given_1 narrow_1) := List.mem_of_getElem? (i := 49) (by decide +kernel)
theorem nq_94_104 : Cond.not (Cond.eq (Term.string "TaleCourt$Reader" 94) (Term.string "TaleCourt$Reader" 104)) ∈ flatC (Jvm.Cond.and given_1 narrow_1) := List.mem_of_getElem? (i := 60) (by decide +kernel)
theorem nq_100_104 : Cond.not (Cond.eq (Term.string "TaleCourt$Reader" 100) (Term.string "TaleCourt$Reader" 104)) ∈ flatC (Jvm.Cond.and given_1 narrow_1) := List.mem_of_getElem? (i := 61) (by decide +kernel)
theorem nq_94_49 : Cond.not (Cond.eq (Term.string "TaleCourt$Reader" 94) (Term.string "TaleCourt$Reader" 49)) ∈ flatC (Jvm.Cond.and given_1 narrow_1) := List.mem_of_getElem? (i := 71) (by decide +kernel)
theorem nq_100_49 : Cond.not (Cond.eq (Term.string "TaleCourt$Reader" 100) (Term.string "TaleCourt$Reader" 49)) ∈ flatC (Jvm.Cond.and given_1 narrow_1) := List.mem_of_getElem? (i := 72) (by decide +kernel)
theorem nq_104_49 : Cond.not (Cond.eq (Term.string "TaleCourt$Reader" 104) (Term.string "TaleCourt$Reader" 49)) ∈ flatC (Jvm.Cond.and given_1 narrow_1) := List.mem_of_getElem? (i := 73) (by decide +kernel)
theorem nq_94_109 : Cond.not (Cond.eq (Term.string "TaleCourt$Reader" 94) (Term.string "TaleCourt$Reader" 109)) ∈ flatC (Jvm.Cond.and given_1 narrow_1) := List.mem_of_getElem? (i := 83) (by decide +kernel)
theorem nq_100_109 : Cond.not (Cond.eq (Term.string "TaleCourt$Reader" 100) (Term.string "TaleCourt$Reader" 109)) ∈ flatC (Jvm.Cond.and given_1 narrow_1) := List.mem_of_getElem? (i := 84) (by decide +kernel)
theorem nq_104_109 : Cond.not (Cond.eq (Term.string "TaleCourt$Reader" 104) (Term.string "TaleCourt$Reader" 109)) ∈ flatC (Jvm.Cond.and given_1 narrow_1) := List.mem_of_getElem? (i := 85) (by decide +kernel)
theorem nq_49_109 : Cond.not (Cond.eq (Term.string "TaleCourt$Reader" 49) (Term.string "TaleCourt$Reader" 109)) ∈ flatC (Jvm.Cond.and given_1 narrow_1) := List.mem_of_getElem? (i := 86) (by decide +kernel)
theorem nq_94_118 : Cond.not (Cond.eq (Term.string "TaleCourt$Reader" 94) (Term.string "TaleCourt$Reader" 118)) ∈ flatC (Jvm.Cond.and given_1 narrow_1) := List.mem_of_getElem? (i := 96) (by decide +kernel)
theorem nq_100_118 : Cond.not (Cond.eq (Term.string "TaleCourt$Reader" 100) (Term.string "TaleCourt$Reader" 118)) ∈ flatC (Jvm.Cond.and given_1 narrow_1) := List.mem_of_getElem? (i := 97) (by decide +kernel)
theorem nq_104_118 : Cond.not (Cond.eq (Term.string "TaleCourt$Reader" 104) (Term.string "TaleCourt$Reader" 118)) ∈ flatC (Jvm.Cond.and given_1 narrow_1) := List.mem_of_getElem? (i := 98) (by decide +kernel)
theorem nq_49_118 : Cond.not (Cond.eq (Term.string "TaleCourt$Reader" 49) (Term.string "TaleCourt$Reader" 118)) ∈ flatC (Jvm.Cond.and given_1 narrow_1) := List.mem_of_getElem? (i := 99) (by decide +kernel)
theorem nq_109_118 : Cond.not (Cond.eq (Term.string "TaleCourt$Reader" 109) (Term.string "TaleCourt$Reader" 118)) ∈ flatC (Jvm.Cond.and given_1 narrow_1) := List.mem_of_getElem? (i := 100) (by decide +kernel)
theorem nq_94_123 : Cond.not (Cond.eq (Term.string "TaleCourt$Reader" 94) (Term.string "TaleCourt$Reader" 123)) ∈ flatC (Jvm.Cond.and given_1 narrow_1) := List.mem_of_getElem? (i := 113) (by decide +kernel)
theorem nq_100_123 : Cond.not (Cond.eq (Term.string "TaleCourt$Reader" 100) (Term.string "TaleCourt$Reader" 123)) ∈ flatC (Jvm.Cond.and given_1 narrow_1) := List.mem_of_getElem? (i := 114) (by decide +kernel)
theorem nq_104_123 : Cond.not (Cond.eq (Term.string "TaleCourt$Reader" 104) (Term.string "TaleCourt$Reader" 123)) ∈ flatC (Jvm.Cond.and given_1 narrow_1) := List.mem_of_getElem? (i := 115) (by decide +kernel)
theorem nq_49_123 : Cond.not (Cond.eq (Term.string "TaleCourt$Reader" 49) (Term.string "TaleCourt$Reader" 123)) ∈ flatC (Jvm.Cond.and given_1 narrow_1) := List.mem_of_getElem? (i := 116) (by decide +kernel)
theorem nq_109_123 : Cond.not (Cond.eq (Term.string "TaleCourt$Reader" 109) (Term.string "TaleCourt$Reader" 123)) ∈ flatC (Jvm.Cond.and given_1 narrow_1) := List.mem_of_getElem? (i := 117) (by decide +kernel)
theorem nq_118_123 : Cond.not (Cond.eq (Term.string "TaleCourt$Reader" 118) (Term.string "TaleCourt$Reader" 123)) ∈ flatC (Jvm.Cond.and given_1 narrow_1) := List.mem_of_getElem? (i := 118) (by decide +kernel)
theorem nq_94_128 : Cond.not (Cond.eq (Term.string "TaleCourt$Reader" 94) (Term.string "TaleCourt$Reader" 128)) ∈ flatC (Jvm.Cond.and given_1 narrow_1) := List.mem_of_getElem? (i := 127) (by decide +kernel)
theorem nq_100_128 : Cond.not (Cond.eq (Term.string "TaleCourt$Reader" 100) (Term.string "TaleCourt$Reader" 128)) ∈ flatC (Jvm.Cond.and given_1 narrow_1) := List.mem_of_getElem? (i := 128) (by decide +kernel)
theorem nq_104_128 : Cond.not (Cond.eq (Term.string "TaleCourt$Reader" 104) (Term.string "TaleCourt$Reader" 128)) ∈ flatC (Jvm.Cond.and given_1 narrow_1) := List.mem_of_getElem? (i := 129) (by decide +kernel)
theorem nq_49_128 : Cond.not (Cond.eq (Term.string "TaleCourt$Reader" 49) (Term.string "TaleCourt$Reader" 128)) ∈ flatC (Jvm.Cond.and given_1 narrow_1) := List.mem_of_getElem? (i := 130) (by decide +kernel)
theorem nq_109_128 : Cond.not (Cond.eq (Term.string "TaleCourt$Reader" 109) (Term.string "TaleCourt$Reader" 128)) ∈ flatC (Jvm.Cond.and given_1 narrow_1) := List.mem_of_getElem? (i := 131) (by decide +kernel)
theorem nq_118_128 : Cond.not (Cond.eq (Term.string "TaleCourt$Reader" 118) (Term.string "TaleCourt$Reader" 128)) ∈ flatC (Jvm.Cond.and given_1 narrow_1) := List.mem_of_getElem? (i := 132) (by decide +kernel)
theorem nq_123_128 : Cond.not (Cond.eq (Term.string "TaleCourt$Reader" 123) (Term.string "TaleCourt$Reader" 128)) ∈ flatC (Jvm.Cond.and given_1 narrow_1) := List.mem_of_getElem? (i := 133) (by decide +kernel)
theorem nq_94_133 : Cond.not (Cond.eq (Term.string "TaleCourt$Reader" 94) (Term.string "TaleCourt$Reader" 133)) ∈ flatC (Jvm.Cond.and given_1 narrow_1) := List.mem_of_getElem? (i := 142) (by decide +kernel)
theorem nq_100_133 : Cond.not (Cond.eq (Term.string "TaleCourt$Reader" 100) (Term.string "TaleCourt$Reader" 133)) ∈ flatC (Jvm.Cond.and given_1 narrow_1) := List.mem_of_getElem? (i := 143) (by decide +kernel)
theorem nq_104_133 : Cond.not (Cond.eq (Term.string "TaleCourt$Reader" 104) (Term.string "TaleCourt$Reader" 133)) ∈ flatC (Jvm.Cond.and given_1 narrow_1) := List.mem_of_getElem? (i := 144) (by decide +kernel)
theorem nq_49_133 : Cond.not (Cond.eq (Term.string "TaleCourt$Reader" 49) (Term.string "TaleCourt$Reader" 133)) ∈ flatC (Jvm.Cond.and given_1 narrow_1) := List.mem_of_getElem? (i := 145) (by decide +kernel)
theorem nq_109_133 : Cond.not (Cond.eq (Term.string "TaleCourt$Reader" 109) (Term.string "TaleCourt$Reader" 133)) ∈ flatC (Jvm.Cond.and given_1 narrow_1) := List.mem_of_getElem? (i := 146) (by decide +kernel)
theorem nq_118_133 : Cond.not (Cond.eq (Term.string "TaleCourt$Reader" 118) (Term.string "TaleCourt$Reader" 133)) ∈ flatC (Jvm.Cond.and given_1 narrow_1) := List.mem_of_getElem? (i := 147) (by decide +kernel)
theorem nq_123_133 : Cond.not (Cond.eq (Term.string "TaleCourt$Reader" 123) (Term.string "TaleCourt$Reader" 133)) ∈ flatC (Jvm.Cond.and given_1 narrow_1) := List.mem_of_getElem? (i := 148) (by decide +kernel)
theorem nq_128_133 : Cond.not (Cond.eq (Term.string "TaleCourt$Reader" 128) (Term.string "TaleCourt$Reader" 133)) ∈ flatC (Jvm.Cond.and given_1 narrow_1) := List.mem_of_getElem? (i := 149) (by decide +kernel)
theorem nq_94_137 : Cond.not (Cond.eq (Term.string "TaleCourt$Reader" 94) (Term.string "TaleCourt$Reader" 137)) ∈ flatC (Jvm.Cond.and given_1 narrow_1) := List.mem_of_getElem? (i := 160) (by decide +kernel)
theorem nq_100_137 : Cond.not (Cond.eq (Term.string "TaleCourt$Reader" 100) (Term.string "TaleCourt$Reader" 137)) ∈ flatC (Jvm.Cond.and given_1 narrow_1) := List.mem_of_getElem? (i := 161) (by decide +kernel)
theorem nq_104_137 : Cond.not (Cond.eq (Term.string "TaleCourt$Reader" 104) (Term.string "TaleCourt$Reader" 137)) ∈ flatC (Jvm.Cond.and given_1 narrow_1) := List.mem_of_getElem? (i := 162) (by decide +kernel)
theorem nq_49_137 : Cond.not (Cond.eq (Term.string "TaleCourt$Reader" 49) (Term.string "TaleCourt$Reader" 137)) ∈ flatC (Jvm.Cond.and given_1 narrow_1) := List.mem_of_getElem? (i := 163) (by decide +kernel)
theorem nq_109_137 : Cond.not (Cond.eq (Term.string "TaleCourt$Reader" 109) (Term.string "TaleCourt$Reader" 137)) ∈ flatC (Jvm.Cond.and given_1 narrow_1) := List.mem_of_getElem? (i := 164) (by decide +kernel)
theorem nq_118_137 : Cond.not (Cond.eq (Term.string "TaleCourt$Reader" 118) (Term.string "TaleCourt$Reader" 137)) ∈ flatC (Jvm.Cond.and given_1 narrow_1) := List.mem_of_getElem? (i := 165) (by decide +kernel)
theorem nq_123_137 : Cond.not (Cond.eq (Term.string "TaleCourt$Reader" 123) (Term.string "TaleCourt$Reader" 137)) ∈ flatC (Jvm.Cond.and given_1 narrow_1) := List.mem_of_getElem? (i := 166) (by decide +kernel)
theorem nq_128_137 : Cond.not (Cond.eq (Term.string "TaleCourt$Reader" 128) (Term.string "TaleCourt$Reader" 137)) ∈ flatC (Jvm.Cond.and given_1 narrow_1) := List.mem_of_getElem? (i := 167) (by decide +kernel)
theorem nq_133_137 : Cond.not (Cond.eq (Term.string "TaleCourt$Reader" 133) (Term.string "TaleCourt$Reader" 137)) ∈ flatC (Jvm.Cond.and given_1 narrow_1) := List.mem_of_getElem? (i := 168) (by decide +kernel)
theorem nq_94_58 : Cond.not (Cond.eq (Term.string "TaleCourt$Reader" 94) (Term.string "TaleCourt$Reader" 58)) ∈ flatC (Jvm.Cond.and given_1 narrow_1) := List.mem_of_getElem? (i := 177) (by decide +kernel)
theorem nq_100_58 : Cond.not (Cond.eq (Term.string "TaleCourt$Reader" 100) (Term.string "TaleCourt$Reader" 58)) ∈ flatC (Jvm.Cond.and given_1 narrow_1) := List.mem_of_getElem? (i := 178) (by decide +kernel)
theorem nq_104_58 : Cond.not (Cond.eq (Term.string "TaleCourt$Reader" 104) (Term.string "TaleCourt$Reader" 58)) ∈ flatC (Jvm.Cond.and given_1 narrow_1) := List.mem_of_getElem? (i := 179) (by decide +kernel)
theorem nq_49_58 : Cond.not (Cond.eq (Term.string "TaleCourt$Reader" 49) (Term.string "TaleCourt$Reader" 58)) ∈ flatC (Jvm.Cond.and given_1 narrow_1) := List.mem_of_getElem? (i := 180) (by decide +kernel)
theorem nq_109_58 : Cond.not (Cond.eq (Term.string "TaleCourt$Reader" 109) (Term.string "TaleCourt$Reader" 58)) ∈ flatC (Jvm.Cond.and given_1 narrow_1) := List.mem_of_getElem? (i := 181) (by decide +kernel)
theorem nq_118_58 : Cond.not (Cond.eq (Term.string "TaleCourt$Reader" 118) (Term.string "TaleCourt$Reader" 58)) ∈ flatC (Jvm.Cond.and given_1 narrow_1) := List.mem_of_getElem? (i := 182) (by decide +kernel)
theorem nq_123_58 : Cond.not (Cond.eq (Term.string "TaleCourt$Reader" 123) (Term.string "TaleCourt$Reader" 58)) ∈ flatC (Jvm.Cond.and given_1 narrow_1) := List.mem_of_getElem? (i := 183) (by decide +kernel)
theorem nq_128_58 : Cond.not (Cond.eq (Term.string "TaleCourt$Reader" 128) (Term.string "TaleCourt$Reader" 58)) ∈ flatC (Jvm.Cond.and given_1 narrow_1) := List.mem_of_getElem? (i := 184) (by decide +kernel)
theorem nq_133_58 : Cond.not (Cond.eq (Term.string "TaleCourt$Reader" 133) (Term.string "TaleCourt$Reader" 58)) ∈ flatC (Jvm.Cond.and given_1 narrow_1) := List.mem_of_getElem? (i := 185) (by decide +kernel)
theorem nq_137_58 : Cond.not (Cond.eq (Term.string "TaleCourt$Reader" 137) (Term.string "TaleCourt$Reader" 58)) ∈ flatC (Jvm.Cond.and given_1 narrow_1) := List.mem_of_getElem? (i := 186) (by decide +kernel)
theorem nq_94_141 : Cond.not (Cond.eq (Term.string "TaleCourt$Reader" 94) (Term.string "TaleCourt$Reader" 141)) ∈ flatC (Jvm.Cond.and given_1 narrow_1) := List.mem_of_getElem? (i := 193) (by decide +kernel)
theorem nq_100_141 : Cond.not (Cond.eq (Term.string "TaleCourt$Reader" 100) (Term.string "TaleCourt$Reader" 141)) ∈ flatC (Jvm.Cond.and given_1 narrow_1) := List.mem_of_getElem? (i := 194) (by decide +kernel)
theorem nq_104_141 : Cond.not (Cond.eq (Term.string "TaleCourt$Reader" 104) (Term.string "TaleCourt$Reader" 141)) ∈ flatC (Jvm.Cond.and given_1 narrow_1) := List.mem_of_getElem? (i := 195) (by decide +kernel)
theorem nq_49_141 : Cond.not (Cond.eq (Term.string "TaleCourt$Reader" 49) (Term.string "TaleCourt$Reader" 141)) ∈ flatC (Jvm.Cond.and given_1 narrow_1) := List.mem_of_getElem? (i := 196) (by decide +kernel)
theorem nq_109_141 : Cond.not (Cond.eq (Term.string "TaleCourt$Reader" 109) (Term.string "TaleCourt$Reader" 141)) ∈ flatC (Jvm.Cond.and given_1 narrow_1) := List.mem_of_getElem? (i := 197) (by decide +kernel)
theorem nq_118_141 : Cond.not (Cond.eq (Term.string "TaleCourt$Reader" 118) (Term.string "TaleCourt$Reader" 141)) ∈ flatC (Jvm.Cond.and given_1 narrow_1) := List.mem_of_getElem? (i := 198) (by decide +kernel)
theorem nq_123_141 : Cond.not (Cond.eq (Term.string "TaleCourt$Reader" 123) (Term.string "TaleCourt$Reader" 141)) ∈ flatC (Jvm.Cond.and given_1 narrow_1) := List.mem_of_getElem? (i := 199) (by decide +kernel)
theorem nq_128_141 : Cond.not (Cond.eq (Term.string "TaleCourt$Reader" 128) (Term.string "TaleCourt$Reader" 141)) ∈ flatC (Jvm.Cond.and given_1 narrow_1) := List.mem_of_getElem? (i := 200) (by decide +kernel)
theorem nq_133_141 : Cond.not (Cond.eq (Term.string "TaleCourt$Reader" 133) (Term.string "TaleCourt$Reader" 141)) ∈ flatC (Jvm.Cond.and given_1 narrow_1) := List.mem_of_getElem? (i := 201) (by decide +kernel)
theorem nq_137_141 : Cond.not (Cond.eq (Term.string "TaleCourt$Reader" 137) (Term.string "TaleCourt$Reader" 141)) ∈ flatC (Jvm.Cond.and given_1 narrow_1) := List.mem_of_getElem? (i := 202) (by decide +kernel)
theorem nq_58_141 : Cond.not (Cond.eq (Term.string "TaleCourt$Reader" 58) (Term.string "TaleCourt$Reader" 141)) ∈ flatC (Jvm.Cond.and given_1 narrow_1) := List.mem_of_getElem? (i := 203) (by decide +kernel)
theorem nq_94_63 : Cond.not (Cond.eq (Term.string "TaleCourt$Reader" 94) (Term.string "TaleCourt$Reader" 63)) ∈ flatC (Jvm.Cond.and given_1 narrow_1) := List.mem_of_getElem? (i := 213) (by decide +kernel)
theorem nq_100_63 : Cond.not (Cond.eq (Term.string "TaleCourt$Reader" 100) (Term.string "TaleCourt$Reader" 63)) ∈ flatC (Jvm.Cond.and given_1 narrow_1) := List.mem_of_getElem? (i := 214) (by decide +kernel)
theorem nq_104_63 : Cond.not (Cond.eq (Term.string "TaleCourt$Reader" 104) (Term.string "TaleCourt$Reader" 63)) ∈ flatC (Jvm.Cond.and given_1 narrow_1) := List.mem_of_getElem? (i := 215) (by decide +kernel)
theorem nq_49_63 : Cond.not (Cond.eq (Term.string "TaleCourt$Reader" 49) (Term.string "TaleCourt$Reader" 63)) ∈ flatC (Jvm.Cond.and given_1 narrow_1) := List.mem_of_getElem? (i := 216) (by decide +kernel)
theorem nq_109_63 : Cond.not (Cond.eq (Term.string "TaleCourt$Reader" 109) (Term.string "TaleCourt$Reader" 63)) ∈ flatC (Jvm.Cond.and given_1 narrow_1) := List.mem_of_getElem? (i := 217) (by decide +kernel)
theorem nq_118_63 : Cond.not (Cond.eq (Term.string "TaleCourt$Reader" 118) (Term.string "TaleCourt$Reader" 63)) ∈ flatC (Jvm.Cond.and given_1 narrow_1) := List.mem_of_getElem? (i := 218) (by decide +kernel)
theorem nq_123_63 : Cond.not (Cond.eq (Term.string "TaleCourt$Reader" 123) (Term.string "TaleCourt$Reader" 63)) ∈ flatC (Jvm.Cond.and given_1 narrow_1) := List.mem_of_getElem? (i := 219) (by decide +kernel)
theorem nq_128_63 : Cond.not (Cond.eq (Term.string "TaleCourt$Reader" 128) (Term.string "TaleCourt$Reader" 63)) ∈ flatC (Jvm.Cond.and given_1 narrow_1) := List.mem_of_getElem? (i := 220) (by decide +kernel)
theorem nq_133_63 : Cond.not (Cond.eq (Term.string "TaleCourt$Reader" 133) (Term.string "TaleCourt$Reader" 63)) ∈ flatC (Jvm.Cond.and given_1 narrow_1) := List.mem_of_getElem? (i := 221) (by decide +kernel)
theorem nq_137_63 : Cond.not (Cond.eq (Term.string "TaleCourt$Reader" 137) (Term.string "TaleCourt$Reader" 63)) ∈ flatC (Jvm.Cond.and given_1 narrow_1) := List.mem_of_getElem? (i := 222) (by decide +kernel)
theorem nq_58_63 : Cond.not (Cond.eq (Term.string "TaleCourt$Reader" 58) (Term.string "TaleCourt$Reader" 63)) ∈ flatC (Jvm.Cond.and given_1 narrow_1) := List.mem_of_getElem? (i := 223) (by decide +kernel)
theorem nq_141_63 : Cond.not (Cond.eq (Term.string "TaleCourt$Reader" 141) (Term.string "TaleCourt$Reader" 63)) ∈ flatC (Jvm.Cond.and given_1 narrow_1) := List.mem_of_getElem? (i := 224) (by decide +kernel)
theorem nq_94_149 : Cond.not (Cond.eq (Term.string "TaleCourt$Reader" 94) (Term.string "TaleCourt$Reader" 149)) ∈ flatC (Jvm.Cond.and given_1 narrow_1) := List.mem_of_getElem? (i := 232) (by decide +kernel)
theorem nq_100_149 : Cond.not (Cond.eq (Term.string "TaleCourt$Reader" 100) (Term.string "TaleCourt$Reader" 149)) ∈ flatC (Jvm.Cond.and given_1 narrow_1) := List.mem_of_getElem? (i := 233) (by decide +kernel)
theorem nq_104_149 : Cond.not (Cond.eq (Term.string "TaleCourt$Reader" 104) (Term.string "TaleCourt$Reader" 149)) ∈ flatC (Jvm.Cond.and given_1 narrow_1) := List.mem_of_getElem? (i := 234) (by decide +kernel)
theorem nq_49_149 : Cond.not (Cond.eq (Term.string "TaleCourt$Reader" 49) (Term.string "TaleCourt$Reader" 149)) ∈ flatC (Jvm.Cond.and given_1 narrow_1) := List.mem_of_getElem? (i := 235) (by decide +kernel)
theorem nq_109_149 : Cond.not (Cond.eq (Term.string "TaleCourt$Reader" 109) (Term.string "TaleCourt$Reader" 149)) ∈ flatC (Jvm.Cond.and given_1 narrow_1) := List.mem_of_getElem? (i := 236) (by decide +kernel)
theorem nq_118_149 : Cond.not (Cond.eq (Term.string "TaleCourt$Reader" 118) (Term.string "TaleCourt$Reader" 149)) ∈ flatC (Jvm.Cond.and given_1 narrow_1) := List.mem_of_getElem? (i := 237) (by decide +kernel)
theorem nq_123_149 : Cond.not (Cond.eq (Term.string "TaleCourt$Reader" 123) (Term.string "TaleCourt$Reader" 149)) ∈ flatC (Jvm.Cond.and given_1 narrow_1) := List.mem_of_getElem? (i := 238) (by decide +kernel)
theorem nq_128_149 : Cond.not (Cond.eq (Term.string "TaleCourt$Reader" 128) (Term.string "TaleCourt$Reader" 149)) ∈ flatC (Jvm.Cond.and given_1 narrow_1) := List.mem_of_getElem? (i := 239) (by decide +kernel)
theorem nq_133_149 : Cond.not (Cond.eq (Term.string "TaleCourt$Reader" 133) (Term.string "TaleCourt$Reader" 149)) ∈ flatC (Jvm.Cond.and given_1 narrow_1) := List.mem_of_getElem? (i := 240) (by decide +kernel)
theorem nq_137_149 : Cond.not (Cond.eq (Term.string "TaleCourt$Reader" 137) (Term.string "TaleCourt$Reader" 149)) ∈ flatC (Jvm.Cond.and given_1 narrow_1) := List.mem_of_getElem? (i := 241) (by decide +kernel)
theorem nq_58_149 : Cond.not (Cond.eq (Term.string "TaleCourt$Reader" 58) (Term.string "TaleCourt$Reader" 149)) ∈ flatC (Jvm.Cond.and given_1 narrow_1) := List.mem_of_getElem? (i := 242) (by decide +kernel)
theorem nq_141_149 : Cond.not (Cond.eq (Term.string "TaleCourt$Reader" 141) (Term.string "TaleCourt$Reader" 149)) ∈ flatC (Jvm.Cond.and given_1 narrow_1) := List.mem_of_getElem? (i := 243) (by decide +kernel)
theorem nq_63_149 : Cond.not (Cond.eq (Term.string "TaleCourt$Reader" 63) (Term.string "TaleCourt$Reader" 149)) ∈ flatC (Jvm.Cond.and given_1 narrow_1) := List.mem_of_getElem? (i := 244) (by decide +kernel)
theorem nq_94_68 : Cond.not (Cond.eq (Term.string "TaleCourt$Reader" 94) (Term.string "TaleCourt$Reader" 68)) ∈ flatC (Jvm.Cond.and given_1 narrow_1) := List.mem_of_getElem? (i := 254) (by decide +kernel)
theorem nq_100_68 : Cond.not (Cond.eq (Term.string "TaleCourt$Reader" 100) (Term.string "TaleCourt$Reader" 68)) ∈ flatC (Jvm.Cond.and given_1 narrow_1) := List.mem_of_getElem? (i := 255) (by decide +kernel)
theorem nq_104_68 : Cond.not (Cond.eq (Term.string "TaleCourt$Reader" 104) (Term.string "TaleCourt$Reader" 68)) ∈ flatC (Jvm.Cond.and given_1 narrow_1) := List.mem_of_getElem? (i := 256) (by decide +kernel)
theorem nq_49_68 : Cond.not (Cond.eq (Term.string "TaleCourt$Reader" 49) (Term.string "TaleCourt$Reader" 68)) ∈ flatC (Jvm.Cond.and given_1 narrow_1) := List.mem_of_getElem? (i := 257) (by decide +kernel)
theorem nq_109_68 : Cond.not (Cond.eq (Term.string "TaleCourt$Reader" 109) (Term.string "TaleCourt$Reader" 68)) ∈ flatC (Jvm.Cond.and given_1 narrow_1) := List.mem_of_getElem? (i := 258) (by decide +kernel)
theorem nq_118_68 : Cond.not (Cond.eq (Term.string "TaleCourt$Reader" 118) (Term.string "TaleCourt$Reader" 68)) ∈ flatC (Jvm.Cond.and given_1 narrow_1) := List.mem_of_getElem? (i := 259) (by decide +kernel)
theorem nq_123_68 : Cond.not (Cond.eq (Term.string "TaleCourt$Reader" 123) (Term.string "TaleCourt$Reader" 68)) ∈ flatC (Jvm.Cond.and given_1 narrow_1) := List.mem_of_getElem? (i := 260) (by decide +kernel)
theorem nq_128_68 : Cond.not (Cond.eq (Term.string "TaleCourt$Reader" 128) (Term.string "TaleCourt$Reader" 68)) ∈ flatC (Jvm.Cond.and given_1 narrow_1) := List.mem_of_getElem? (i := 261) (by decide +kernel)
theorem nq_133_68 : Cond.not (Cond.eq (Term.string "TaleCourt$Reader" 133) (Term.string "TaleCourt$Reader" 68)) ∈ flatC (Jvm.Cond.and given_1 narrow_1) := List.mem_of_getElem? (i := 262) (by decide +kernel)
theorem nq_137_68 : Cond.not (Cond.eq (Term.string "TaleCourt$Reader" 137) (Term.string "TaleCourt$Reader" 68)) ∈ flatC (Jvm.Cond.and given_1 narrow_1) := List.mem_of_getElem? (i := 263) (by decide +kernel)
theorem nq_58_68 : Cond.not (Cond.eq (Term.string "TaleCourt$Reader" 58) (Term.string "TaleCourt$Reader" 68)) ∈ flatC (Jvm.Cond.and given_1 narrow_1) := List.mem_of_getElem? (i := 264) (by decide +kernel)
theorem nq_141_68 : Cond.not (Cond.eq (Term.string "TaleCourt$Reader" 141) (Term.string "TaleCourt$Reader" 68)) ∈ flatC (Jvm.Cond.and given_1 narrow_1) := List.mem_of_getElem? (i := 265) (by decide +kernel)
theorem nq_63_68 : Cond.not (Cond.eq (Term.string "TaleCourt$Reader" 63) (Term.string "TaleCourt$Reader" 68)) ∈ flatC (Jvm.Cond.and given_1 narrow_1) := List.mem_of_getElem? (i := 266) (by decide +kernel)
theorem nq_149_68 : Cond.not (Cond.eq (Term.string "TaleCourt$Reader" 149) (Term.string "TaleCourt$Reader" 68)) ∈ flatC (Jvm.Cond.and given_1 narrow_1) := List.mem_of_getElem? (i := 267) (by decide +kernel)
theorem nq_94_73 : Cond.not (Cond.eq (Term.string "TaleCourt$Reader" 94) (Term.string "TaleCourt$Reader" 73)) ∈ flatC (Jvm.Cond.and given_1 narrow_1) := List.mem_of_getElem? (i := 278) (by decide +kernel)
theorem nq_100_73 : Cond.not (Cond.eq (Term.string "TaleCourt$Reader" 100) (Term.string "TaleCourt$Reader" 73)) ∈ flatC (Jvm.Cond.and given_1 narrow_1) := List.mem_of_getElem? (i := 279) (by decide +kernel)
theorem nq_104_73 : Cond.not (Cond.eq (Term.string "TaleCourt$Reader" 104) (Term.string "TaleCourt$Reader" 73)) ∈ flatC (Jvm.Cond.and given_1 narrow_1) := List.mem_of_getElem? (i := 280) (by decide +kernel)
theorem nq_49_73 : Cond.not (Cond.eq (Term.string "TaleCourt$Reader" 49) (Term.string "TaleCourt$Reader" 73)) ∈ flatC (Jvm.Cond.and given_1 narrow_1) := List.mem_of_getElem? (i := 281) (by decide +kernel)
theorem nq_109_73 : Cond.not (Cond.eq (Term.string "TaleCourt$Reader" 109) (Term.string "TaleCourt$Reader" 73)) ∈ flatC (Jvm.Cond.and given_1 narrow_1) := List.mem_of_getElem? (i := 282) (by decide +kernel)
theorem nq_118_73 : Cond.not (Cond.eq (Term.string "TaleCourt$Reader" 118) (Term.string "TaleCourt$Reader" 73)) ∈ flatC (Jvm.Cond.and given_1 narrow_1) := List.mem_of_getElem? (i := 283) (by decide +kernel)
theorem nq_123_73 : Cond.not (Cond.eq (Term.string "TaleCourt$Reader" 123) (Term.string "TaleCourt$Reader" 73)) ∈ flatC (Jvm.Cond.and given_1 narrow_1) := List.mem_of_getElem? (i := 284) (by decide +kernel)
theorem nq_128_73 : Cond.not (Cond.eq (Term.string "TaleCourt$Reader" 128) (Term.string "TaleCourt$Reader" 73)) ∈ flatC (Jvm.Cond.and given_1 narrow_1) := List.mem_of_getElem? (i := 285) (by decide +kernel)
theorem nq_133_73 : Cond.not (Cond.eq (Term.string "TaleCourt$Reader" 133) (Term.string "TaleCourt$Reader" 73)) ∈ flatC (Jvm.Cond.and given_1 narrow_1) := List.mem_of_getElem? (i := 286) (by decide +kernel)
theorem nq_137_73 : Cond.not (Cond.eq (Term.string "TaleCourt$Reader" 137) (Term.string "TaleCourt$Reader" 73)) ∈ flatC (Jvm.Cond.and given_1 narrow_1) := List.mem_of_getElem? (i := 287) (by decide +kernel)
theorem nq_58_73 : Cond.not (Cond.eq (Term.string "TaleCourt$Reader" 58) (Term.string "TaleCourt$Reader" 73)) ∈ flatC (Jvm.Cond.and given_1 narrow_1) := List.mem_of_getElem? (i := 288) (by decide +kernel)
theorem nq_141_73 : Cond.not (Cond.eq (Term.string "TaleCourt$Reader" 141) (Term.string "TaleCourt$Reader" 73)) ∈ flatC (Jvm.Cond.and given_1 narrow_1) := List.mem_of_getElem? (i := 289) (by decide +kernel)
theorem nq_63_73 : Cond.not (Cond.eq (Term.string "TaleCourt$Reader" 63) (Term.string "TaleCourt$Reader" 73)) ∈ flatC (Jvm.Cond.and given_1 narrow_1) := List.mem_of_getElem? (i := 290) (by decide +kernel)
theorem nq_149_73 : Cond.not (Cond.eq (Term.string "TaleCourt$Reader" 149) (Term.string "TaleCourt$Reader" 73)) ∈ flatC (Jvm.Cond.and given_1 narrow_1) := List.mem_of_getElem? (i := 291) (by decide +kernel)
theorem nq_68_73 : Cond.not (Cond.eq (Term.string "TaleCourt$Reader" 68) (Term.string "TaleCourt$Reader" 73)) ∈ flatC (Jvm.Cond.and given_1 narrow_1) := List.mem_of_getElem? (i := 292) (by decide +kernel)
theorem nq_94_85 : Cond.not (Cond.eq (Term.string "TaleCourt$Reader" 94) (Term.string "TaleCourt$Reader" 85)) ∈ flatC (Jvm.Cond.and given_1 narrow_1) := List.mem_of_getElem? (i := 305) (by decide +kernel)
theorem nq_100_85 : Cond.not (Cond.eq (Term.string "TaleCourt$Reader" 100) (Term.string "TaleCourt$Reader" 85)) ∈ flatC (Jvm.Cond.and given_1 narrow_1) := List.mem_of_getElem? (i := 306) (by decide +kernel)
theorem nq_104_85 : Cond.not (Cond.eq (Term.string "TaleCourt$Reader" 104) (Term.string "TaleCourt$Reader" 85)) ∈ flatC (Jvm.Cond.and given_1 narrow_1) := List.mem_of_getElem? (i := 307) (by decide +kernel)
theorem nq_49_85 : Cond.not (Cond.eq (Term.string "TaleCourt$Reader" 49) (Term.string "TaleCourt$Reader" 85)) ∈ flatC (Jvm.Cond.and given_1 narrow_1) := List.mem_of_getElem? (i := 308) (by decide +kernel)
theorem nq_109_85 : Cond.not (Cond.eq (Term.string "TaleCourt$Reader" 109) (Term.string "TaleCourt$Reader" 85)) ∈ flatC (Jvm.Cond.and given_1 narrow_1) := List.mem_of_getElem? (i := 309) (by decide +kernel)
theorem nq_118_85 : Cond.not (Cond.eq (Term.string "TaleCourt$Reader" 118) (Term.string "TaleCourt$Reader" 85)) ∈ flatC (Jvm.Cond.and given_1 narrow_1) := List.mem_of_getElem? (i := 310) (by decide +kernel)
theorem nq_123_85 : Cond.not (Cond.eq (Term.string "TaleCourt$Reader" 123) (Term.string "TaleCourt$Reader" 85)) ∈ flatC (Jvm.Cond.and given_1 narrow_1) := List.mem_of_getElem? (i := 311) (by decide +kernel)
theorem nq_128_85 : Cond.not (Cond.eq (Term.string "TaleCourt$Reader" 128) (Term.string "TaleCourt$Reader" 85)) ∈ flatC (Jvm.Cond.and given_1 narrow_1) := List.mem_of_getElem? (i := 312) (by decide +kernel)
theorem nq_133_85 : Cond.not (Cond.eq (Term.string "TaleCourt$Reader" 133) (Term.string "TaleCourt$Reader" 85)) ∈ flatC (Jvm.Cond.and given_1 narrow_1) := List.mem_of_getElem? (i := 313) (by decide +kernel)
theorem nq_137_85 : Cond.not (Cond.eq (Term.string "TaleCourt$Reader" 137) (Term.string "TaleCourt$Reader" 85)) ∈ flatC (Jvm.Cond.and given_1 narrow_1) := List.mem_of_getElem? (i := 314) (by decide +kernel)
theorem nq_58_85 : Cond.not (Cond.eq (Term.string "TaleCourt$Reader" 58) (Term.string "TaleCourt$Reader" 85)) ∈ flatC (Jvm.Cond.and given_1 narrow_1) := List.mem_of_getElem? (i := 315) (by decide +kernel)
theorem nq_141_85 : Cond.not (Cond.eq (Term.string "TaleCourt$Reader" 141) (Term.string "TaleCourt$Reader" 85)) ∈ flatC (Jvm.Cond.and given_1 narrow_1) := List.mem_of_getElem? (i := 316) (by decide +kernel)
theorem nq_63_85 : Cond.not (Cond.eq (Term.string "TaleCourt$Reader" 63) (Term.string "TaleCourt$Reader" 85)) ∈ flatC (Jvm.Cond.and given_1 narrow_1) := List.mem_of_getElem? (i := 317) (by decide +kernel)
theorem nq_149_85 : Cond.not (Cond.eq (Term.string "TaleCourt$Reader" 149) (Term.string "TaleCourt$Reader" 85)) ∈ flatC (Jvm.Cond.and given_1 narrow_1) := List.mem_of_getElem? (i := 318) (by decide +kernel)
theorem nq_68_85 : Cond.not (Cond.eq (Term.string "TaleCourt$Reader" 68) (Term.string "TaleCourt$Reader" 85)) ∈ flatC (Jvm.Cond.and given_1 narrow_1) := List.mem_of_getElem? (i := 319) (by decide +kernel)
theorem nq_73_85 : Cond.not (Cond.eq (Term.string "TaleCourt$Reader" 73) (Term.string "TaleCourt$Reader" 85)) ∈ flatC (Jvm.Cond.and given_1 narrow_1) := List.mem_of_getElem? (i := 320) (by decide +kernel)
theorem nq_94_164 : Cond.not (Cond.eq (Term.string "TaleCourt$Reader" 94) (Term.string "TaleCourt$Reader" 164)) ∈ flatC (Jvm.Cond.and given_1 narrow_1) := List.mem_of_getElem? (i := 330) (by decide +kernel)
theorem nq_100_164 : Cond.not (Cond.eq (Term.string "TaleCourt$Reader" 100) (Term.string "TaleCourt$Reader" 164)) ∈ flatC (Jvm.Cond.and given_1 narrow_1) := List.mem_of_getElem? (i := 331) (by decide +kernel)
theorem nq_104_164 : Cond.not (Cond.eq (Term.string "TaleCourt$Reader" 104) (Term.string "TaleCourt$Reader" 164)) ∈ flatC (Jvm.Cond.and given_1 narrow_1) := List.mem_of_getElem? (i := 332) (by decide +kernel)
theorem nq_49_164 : Cond.not (Cond.eq (Term.string "TaleCourt$Reader" 49) (Term.string "TaleCourt$Reader" 164)) ∈ flatC (Jvm.Cond.and given_1 narrow_1) := List.mem_of_getElem? (i := 333) (by decide +kernel)
theorem nq_109_164 : Cond.not (Cond.eq (Term.string "TaleCourt$Reader" 109) (Term.string "TaleCourt$Reader" 164)) ∈ flatC (Jvm.Cond.and given_1 narrow_1) := List.mem_of_getElem? (i := 334) (by decide +kernel)
theorem nq_118_164 : Cond.not (Cond.eq (Term.string "TaleCourt$Reader" 118) (Term.string "TaleCourt$Reader" 164)) ∈ flatC (Jvm.Cond.and given_1 narrow_1) := List.mem_of_getElem? (i := 335) (by decide +kernel)
theorem nq_123_164 : Cond.not (Cond.eq (Term.string "TaleCourt$Reader" 123) (Term.string "TaleCourt$Reader" 164)) ∈ flatC (Jvm.Cond.and given_1 narrow_1) := List.mem_of_getElem? (i := 336) (by decide +kernel)
theorem nq_128_164 : Cond.not (Cond.eq (Term.string "TaleCourt$Reader" 128) (Term.string "TaleCourt$Reader" 164)) ∈ flatC (Jvm.Cond.and given_1 narrow_1) := List.mem_of_getElem? (i := 337) (by decide +kernel)
theorem nq_133_164 : Cond.not (Cond.eq (Term.string "TaleCourt$Reader" 133) (Term.string "TaleCourt$Reader" 164)) ∈ flatC (Jvm.Cond.and given_1 narrow_1) := List.mem_of_getElem? (i := 338) (by decide +kernel)
theorem nq_137_164 : Cond.not (Cond.eq (Term.string "TaleCourt$Reader" 137) (Term.string "TaleCourt$Reader" 164)) ∈ flatC (Jvm.Cond.and given_1 narrow_1) := List.mem_of_getElem? (i := 339) (by decide +kernel)
theorem nq_58_164 : Cond.not (Cond.eq (Term.string "TaleCourt$Reader" 58) (Term.string "TaleCourt$Reader" 164)) ∈ flatC (Jvm.Cond.and given_1 narrow_1) := List.mem_of_getElem? (i := 340) (by decide +kernel)
theorem nq_141_164 : Cond.not (Cond.eq (Term.string "TaleCourt$Reader" 141) (Term.string "TaleCourt$Reader" 164)) ∈ flatC (Jvm.Cond.and given_1 narrow_1) := List.mem_of_getElem? (i := 341) (by decide +kernel)
theorem nq_63_164 : Cond.not (Cond.eq (Term.string "TaleCourt$Reader" 63) (Term.string "TaleCourt$Reader" 164)) ∈ flatC (Jvm.Cond.and given_1 narrow_1) := List.mem_of_getElem? (i := 342) (by decide +kernel)
theorem nq_149_164 : Cond.not (Cond.eq (Term.string "TaleCourt$Reader" 149) (Term.string "TaleCourt$Reader" 164)) ∈ flatC (Jvm.Cond.and given_1 narrow_1) := List.mem_of_getElem? (i := 343) (by decide +kernel)
theorem nq_68_164 : Cond.not (Cond.eq (Term.string "TaleCourt$Reader" 68) (Term.string "TaleCourt$Reader" 164)) ∈ flatC (Jvm.Cond.and given_1 narrow_1) := List.mem_of_getElem? (i := 344) (by decide +kernel)
theorem nq_73_164 : Cond.not (Cond.eq (Term.string "TaleCourt$Reader" 73) (Term.string "TaleCourt$Reader" 164)) ∈ flatC (Jvm.Cond.and given_1 narrow_1) := List.mem_of_getElem? (i := 345) (by decide +kernel)
theorem nq_85_164 : Cond.not (Cond.eq (Term.string "TaleCourt$Reader" 85) (Term.string "TaleCourt$Reader" 164)) ∈ flatC (Jvm.Cond.and given_1 narrow_1) := List.mem_of_getElem? (i := 346) (by decide +kernel)
theorem nr_0 : ∀ j, j < 18 → 0 ≠ j → Cond.not (Cond.eq (Term.string "TaleCourt$Reader" (tIx.getD 0 0)) (Term.string "TaleCourt$Reader" (tIx.getD j 0))) ∈ flatC (Jvm.Cond.and given_1 narrow_1) ∨ Cond.not (Cond.eq (Term.string "TaleCourt$Reader" (tIx.getD j 0)) (Term.string "TaleCourt$Reader" (tIx.getD 0 0))) ∈ flatC (Jvm.Cond.and given_1 narrow_1) := fun j hj hne => by
  match j, hj, hne with
  | 0, _, h => exact absurd rfl h
  | 1, _, _ => exact Or.inl nq_94_100
  | 2, _, _ => exact Or.inl nq_94_104
  | 3, _, _ => exact Or.inl nq_94_49
  | 4, _, _ => exact Or.inl nq_94_109
  | 5, _, _ => exact Or.inl nq_94_118
  | 6, _, _ => exact Or.inl nq_94_123
  | 7, _, _ => exact Or.inl nq_94_128
  | 8, _, _ => exact Or.inl nq_94_133
  | 9, _, _ => exact Or.inl nq_94_137
  | 10, _, _ => exact Or.inl nq_94_58
  | 11, _, _ => exact Or.inl nq_94_141
  | 12, _, _ => exact Or.inl nq_94_63
  | 13, _, _ => exact Or.inl nq_94_149
  | 14, _, _ => exact Or.inl nq_94_68
  | 15, _, _ => exact Or.inl nq_94_73
  | 16, _, _ => exact Or.inl nq_94_85
  | 17, _, _ => exact Or.inl nq_94_164
  | k + 18, h, _ => omega
theorem nr_1 : ∀ j, j < 18 → 1 ≠ j → Cond.not (Cond.eq (Term.string "TaleCourt$Reader" (tIx.getD 1 0)) (Term.string "TaleCourt$Reader" (tIx.getD j 0))) ∈ flatC (Jvm.Cond.and given_1 narrow_1) ∨ Cond.not (Cond.eq (Term.string "TaleCourt$Reader" (tIx.getD j 0)) (Term.string "TaleCourt$Reader" (tIx.getD 1 0))) ∈ flatC (Jvm.Cond.and given_1 narrow_1) := fun j hj hne => by
  match j, hj, hne with
  | 0, _, _ => exact Or.inr nq_94_100
  | 1, _, h => exact absurd rfl h
  | 2, _, _ => exact Or.inl nq_100_104
  | 3, _, _ => exact Or.inl nq_100_49
  | 4, _, _ => exact Or.inl nq_100_109
  | 5, _, _ => exact Or.inl nq_100_118
  | 6, _, _ => exact Or.inl nq_100_123
  | 7, _, _ => exact Or.inl nq_100_128
  | 8, _, _ => exact Or.inl nq_100_133
  | 9, _, _ => exact Or.inl nq_100_137
  | 10, _, _ => exact Or.inl nq_100_58
  | 11, _, _ => exact Or.inl nq_100_141
  | 12, _, _ => exact Or.inl nq_100_63
  | 13, _, _ => exact Or.inl nq_100_149
  | 14, _, _ => exact Or.inl nq_100_68
  | 15, _, _ => exact Or.inl nq_100_73
  | 16, _, _ => exact Or.inl nq_100_85
  | 17, _, _ => exact Or.inl nq_100_164
  | k + 18, h, _ => omega
theorem nr_2 : ∀ j, j < 18 → 2 ≠ j → Cond.not (Cond.eq (Term.string "TaleCourt$Reader" (tIx.getD 2 0)) (Term.string "TaleCourt$Reader" (tIx.getD j 0))) ∈ flatC (Jvm.Cond.and given_1 narrow_1) ∨ Cond.not (Cond.eq (Term.string "TaleCourt$Reader" (tIx.getD j 0)) (Term.string "TaleCourt$Reader" (tIx.getD 2 0))) ∈ flatC (Jvm.Cond.and given_1 narrow_1) := fun j hj hne => by
  match j, hj, hne with
  | 0, _, _ => exact Or.inr nq_94_104
  | 1, _, _ => exact Or.inr nq_100_104
  | 2, _, h => exact absurd rfl h
  | 3, _, _ => exact Or.inl nq_104_49
  | 4, _, _ => exact Or.inl nq_104_109
  | 5, _, _ => exact Or.inl nq_104_118
  | 6, _, _ => exact Or.inl nq_104_123
  | 7, _, _ => exact Or.inl nq_104_128
  | 8, _, _ => exact Or.inl nq_104_133
  | 9, _, _ => exact Or.inl nq_104_137
  | 10, _, _ => exact Or.inl nq_104_58
  | 11, _, _ => exact Or.inl nq_104_141
  | 12, _, _ => exact Or.inl nq_104_63
  | 13, _, _ => exact Or.inl nq_104_149
  | 14, _, _ => exact Or.inl nq_104_68
  | 15, _, _ => exact Or.inl nq_104_73
  | 16, _, _ => exact Or.inl nq_104_85
  | 17, _, _ => exact Or.inl nq_104_164
  | k + 18, h, _ => omega
theorem nr_3 : ∀ j, j < 18 → 3 ≠ j → Cond.not (Cond.eq (Term.string "TaleCourt$Reader" (tIx.getD 3 0)) (Term.string "TaleCourt$Reader" (tIx.getD j 0))) ∈ flatC (Jvm.Cond.and given_1 narrow_1) ∨ Cond.not (Cond.eq (Term.string "TaleCourt$Reader" (tIx.getD j 0)) (Term.string "TaleCourt$Reader" (tIx.getD 3 0))) ∈ flatC (Jvm.Cond.and given_1 narrow_1) := fun j hj hne => by
  match j, hj, hne with
  | 0, _, _ => exact Or.inr nq_94_49
  | 1, _, _ => exact Or.inr nq_100_49
  | 2, _, _ => exact Or.inr nq_104_49
  | 3, _, h => exact absurd rfl h
  | 4, _, _ => exact Or.inl nq_49_109
  | 5, _, _ => exact Or.inl nq_49_118
  | 6, _, _ => exact Or.inl nq_49_123
  | 7, _, _ => exact Or.inl nq_49_128
  | 8, _, _ => exact Or.inl nq_49_133
  | 9, _, _ => exact Or.inl nq_49_137
  | 10, _, _ => exact Or.inl nq_49_58
  | 11, _, _ => exact Or.inl nq_49_141
  | 12, _, _ => exact Or.inl nq_49_63
  | 13, _, _ => exact Or.inl nq_49_149
  | 14, _, _ => exact Or.inl nq_49_68
  | 15, _, _ => exact Or.inl nq_49_73
  | 16, _, _ => exact Or.inl nq_49_85
  | 17, _, _ => exact Or.inl nq_49_164
  | k + 18, h, _ => omega
theorem nr_4 : ∀ j, j < 18 → 4 ≠ j → Cond.not (Cond.eq (Term.string "TaleCourt$Reader" (tIx.getD 4 0)) (Term.string "TaleCourt$Reader" (tIx.getD j 0))) ∈ flatC (Jvm.Cond.and given_1 narrow_1) ∨ Cond.not (Cond.eq (Term.string "TaleCourt$Reader" (tIx.getD j 0)) (Term.string "TaleCourt$Reader" (tIx.getD 4 0))) ∈ flatC (Jvm.Cond.and given_1 narrow_1) := fun j hj hne => by
  match j, hj, hne with
  | 0, _, _ => exact Or.inr nq_94_109
  | 1, _, _ => exact Or.inr nq_100_109
  | 2, _, _ => exact Or.inr nq_104_109
  | 3, _, _ => exact Or.inr nq_49_109
  | 4, _, h => exact absurd rfl h
  | 5, _, _ => exact Or.inl nq_109_118
  | 6, _, _ => exact Or.inl nq_109_123
  | 7, _, _ => exact Or.inl nq_109_128
  | 8, _, _ => exact Or.inl nq_109_133
  | 9, _, _ => exact Or.inl nq_109_137
  | 10, _, _ => exact Or.inl nq_109_58
  | 11, _, _ => exact Or.inl nq_109_141
  | 12, _, _ => exact Or.inl nq_109_63
  | 13, _, _ => exact Or.inl nq_109_149
  | 14, _, _ => exact Or.inl nq_109_68
  | 15, _, _ => exact Or.inl nq_109_73
  | 16, _, _ => exact Or.inl nq_109_85
  | 17, _, _ => exact Or.inl nq_109_164
  | k + 18, h, _ => omega
theorem nr_5 : ∀ j, j < 18 → 5 ≠ j → Cond.not (Cond.eq (Term.string "TaleCourt$Reader" (tIx.getD 5 0)) (Term.string "TaleCourt$Reader" (tIx.getD j 0))) ∈ flatC (Jvm.Cond.and given_1 narrow_1) ∨ Cond.not (Cond.eq (Term.string "TaleCourt$Reader" (tIx.getD j 0)) (Term.string "TaleCourt$Reader" (tIx.getD 5 0))) ∈ flatC (Jvm.Cond.and given_1 narrow_1) := fun j hj hne => by
  match j, hj, hne with
  | 0, _, _ => exact Or.inr nq_94_118
  | 1, _, _ => exact Or.inr nq_100_118
  | 2, _, _ => exact Or.inr nq_104_118
  | 3, _, _ => exact Or.inr nq_49_118
  | 4, _, _ => exact Or.inr nq_109_118
  | 5, _, h => exact absurd rfl h
  | 6, _, _ => exact Or.inl nq_118_123
  | 7, _, _ => exact Or.inl nq_118_128
  | 8, _, _ => exact Or.inl nq_118_133
  | 9, _, _ => exact Or.inl nq_118_137
  | 10, _, _ => exact Or.inl nq_118_58
  | 11, _, _ => exact Or.inl nq_118_141
  | 12, _, _ => exact Or.inl nq_118_63
  | 13, _, _ => exact Or.inl nq_118_149
  | 14, _, _ => exact Or.inl nq_118_68
  | 15, _, _ => exact Or.inl nq_118_73
  | 16, _, _ => exact Or.inl nq_118_85
  | 17, _, _ => exact Or.inl nq_118_164
  | k + 18, h, _ => omega
theorem nr_6 : ∀ j, j < 18 → 6 ≠ j → Cond.not (Cond.eq (Term.string "TaleCourt$Reader" (tIx.getD 6 0)) (Term.string "TaleCourt$Reader" (tIx.getD j 0))) ∈ flatC (Jvm.Cond.and given_1 narrow_1) ∨ Cond.not (Cond.eq (Term.string "TaleCourt$Reader" (tIx.getD j 0)) (Term.string "TaleCourt$Reader" (tIx.getD 6 0))) ∈ flatC (Jvm.Cond.and given_1 narrow_1) := fun j hj hne => by
  match j, hj, hne with
  | 0, _, _ => exact Or.inr nq_94_123
  | 1, _, _ => exact Or.inr nq_100_123
  | 2, _, _ => exact Or.inr nq_104_123
  | 3, _, _ => exact Or.inr nq_49_123
  | 4, _, _ => exact Or.inr nq_109_123
  | 5, _, _ => exact Or.inr nq_118_123
  | 6, _, h => exact absurd rfl h
  | 7, _, _ => exact Or.inl nq_123_128
  | 8, _, _ => exact Or.inl nq_123_133
  | 9, _, _ => exact Or.inl nq_123_137
  | 10, _, _ => exact Or.inl nq_123_58
  | 11, _, _ => exact Or.inl nq_123_141
  | 12, _, _ => exact Or.inl nq_123_63
  | 13, _, _ => exact Or.inl nq_123_149
  | 14, _, _ => exact Or.inl nq_123_68
  | 15, _, _ => exact Or.inl nq_123_73
  | 16, _, _ => exact Or.inl nq_123_85
  | 17, _, _ => exact Or.inl nq_123_164
  | k + 18, h, _ => omega
theorem nr_7 : ∀ j, j < 18 → 7 ≠ j → Cond.not (Cond.eq (Term.string "TaleCourt$Reader" (tIx.getD 7 0)) (Term.string "TaleCourt$Reader" (tIx.getD j 0))) ∈ flatC (Jvm.Cond.and given_1 narrow_1) ∨ Cond.not (Cond.eq (Term.string "TaleCourt$Reader" (tIx.getD j 0)) (Term.string "TaleCourt$Reader" (tIx.getD 7 0))) ∈ flatC (Jvm.Cond.and given_1 narrow_1) := fun j hj hne => by
  match j, hj, hne with
  | 0, _, _ => exact Or.inr nq_94_128
  | 1, _, _ => exact Or.inr nq_100_128
  | 2, _, _ => exact Or.inr nq_104_128
  | 3, _, _ => exact Or.inr nq_49_128
  | 4, _, _ => exact Or.inr nq_109_128
  | 5, _, _ => exact Or.inr nq_118_128
  | 6, _, _ => exact Or.inr nq_123_128
  | 7, _, h => exact absurd rfl h
  | 8, _, _ => exact Or.inl nq_128_133
  | 9, _, _ => exact Or.inl nq_128_137
  | 10, _, _ => exact Or.inl nq_128_58
  | 11, _, _ => exact Or.inl nq_128_141
  | 12, _, _ => exact Or.inl nq_128_63
  | 13, _, _ => exact Or.inl nq_128_149
  | 14, _, _ => exact Or.inl nq_128_68
  | 15, _, _ => exact Or.inl nq_128_73
  | 16, _, _ => exact Or.inl nq_128_85
  | 17, _, _ => exact Or.inl nq_128_164
  | k + 18, h, _ => omega
theorem nr_8 : ∀ j, j < 18 → 8 ≠ j → Cond.not (Cond.eq (Term.string "TaleCourt$Reader" (tIx.getD 8 0)) (Term.string "TaleCourt$Reader" (tIx.getD j 0))) ∈ flatC (Jvm.Cond.and given_1 narrow_1) ∨ Cond.not (Cond.eq (Term.string "TaleCourt$Reader" (tIx.getD j 0)) (Term.string "TaleCourt$Reader" (tIx.getD 8 0))) ∈ flatC (Jvm.Cond.and given_1 narrow_1) := fun j hj hne => by
  match j, hj, hne with
  | 0, _, _ => exact Or.inr nq_94_133
  | 1, _, _ => exact Or.inr nq_100_133
  | 2, _, _ => exact Or.inr nq_104_133
  | 3, _, _ => exact Or.inr nq_49_133
  | 4, _, _ => exact Or.inr nq_109_133
  | 5, _, _ => exact Or.inr nq_118_133
  | 6, _, _ => exact Or.inr nq_123_133
  | 7, _, _ => exact Or.inr nq_128_133
  | 8, _, h => exact absurd rfl h
  | 9, _, _ => exact Or.inl nq_133_137
  | 10, _, _ => exact Or.inl nq_133_58
  | 11, _, _ => exact Or.inl nq_133_141
  | 12, _, _ => exact Or.inl nq_133_63
  | 13, _, _ => exact Or.inl nq_133_149
  | 14, _, _ => exact Or.inl nq_133_68
  | 15, _, _ => exact Or.inl nq_133_73
  | 16, _, _ => exact Or.inl nq_133_85
  | 17, _, _ => exact Or.inl nq_133_164
  | k + 18, h, _ => omega
theorem nr_9 : ∀ j, j < 18 → 9 ≠ j → Cond.not (Cond.eq (Term.string "TaleCourt$Reader" (tIx.getD 9 0)) (Term.string "TaleCourt$Reader" (tIx.getD j 0))) ∈ flatC (Jvm.Cond.and given_1 narrow_1) ∨ Cond.not (Cond.eq (Term.string "TaleCourt$Reader" (tIx.getD j 0)) (Term.string "TaleCourt$Reader" (tIx.getD 9 0))) ∈ flatC (Jvm.Cond.and given_1 narrow_1) := fun j hj hne => by
  match j, hj, hne with
  | 0, _, _ => exact Or.inr nq_94_137
  | 1, _, _ => exact Or.inr nq_100_137
  | 2, _, _ => exact Or.inr nq_104_137
  | 3, _, _ => exact Or.inr nq_49_137
  | 4, _, _ => exact Or.inr nq_109_137
  | 5, _, _ => exact Or.inr nq_118_137
  | 6, _, _ => exact Or.inr nq_123_137
  | 7, _, _ => exact Or.inr nq_128_137
  | 8, _, _ => exact Or.inr nq_133_137
  | 9, _, h => exact absurd rfl h
  | 10, _, _ => exact Or.inl nq_137_58
  | 11, _, _ => exact Or.inl nq_137_141
  | 12, _, _ => exact Or.inl nq_137_63
  | 13, _, _ => exact Or.inl nq_137_149
  | 14, _, _ => exact Or.inl nq_137_68
  | 15, _, _ => exact Or.inl nq_137_73
  | 16, _, _ => exact Or.inl nq_137_85
  | 17, _, _ => exact Or.inl nq_137_164
  | k + 18, h, _ => omega
theorem nr_10 : ∀ j, j < 18 → 10 ≠ j → Cond.not (Cond.eq (Term.string "TaleCourt$Reader" (tIx.getD 10 0)) (Term.string "TaleCourt$Reader" (tIx.getD j 0))) ∈ flatC (Jvm.Cond.and given_1 narrow_1) ∨ Cond.not (Cond.eq (Term.string "TaleCourt$Reader" (tIx.getD j 0)) (Term.string "TaleCourt$Reader" (tIx.getD 10 0))) ∈ flatC (Jvm.Cond.and given_1 narrow_1) := fun j hj hne => by
  match j, hj, hne with
  | 0, _, _ => exact Or.inr nq_94_58
  | 1, _, _ => exact Or.inr nq_100_58
  | 2, _, _ => exact Or.inr nq_104_58
  | 3, _, _ => exact Or.inr nq_49_58
  | 4, _, _ => exact Or.inr nq_109_58
  | 5, _, _ => exact Or.inr nq_118_58
  | 6, _, _ => exact Or.inr nq_123_58
  | 7, _, _ => exact Or.inr nq_128_58
  | 8, _, _ => exact Or.inr nq_133_58
  | 9, _, _ => exact Or.inr nq_137_58
  | 10, _, h => exact absurd rfl h
  | 11, _, _ => exact Or.inl nq_58_141
  | 12, _, _ => exact Or.inl nq_58_63
  | 13, _, _ => exact Or.inl nq_58_149
  | 14, _, _ => exact Or.inl nq_58_68
  | 15, _, _ => exact Or.inl nq_58_73
  | 16, _, _ => exact Or.inl nq_58_85
  | 17, _, _ => exact Or.inl nq_58_164
  | k + 18, h, _ => omega
theorem nr_11 : ∀ j, j < 18 → 11 ≠ j → Cond.not (Cond.eq (Term.string "TaleCourt$Reader" (tIx.getD 11 0)) (Term.string "TaleCourt$Reader" (tIx.getD j 0))) ∈ flatC (Jvm.Cond.and given_1 narrow_1) ∨ Cond.not (Cond.eq (Term.string "TaleCourt$Reader" (tIx.getD j 0)) (Term.string "TaleCourt$Reader" (tIx.getD 11 0))) ∈ flatC (Jvm.Cond.and given_1 narrow_1) := fun j hj hne => by
  match j, hj, hne with
  | 0, _, _ => exact Or.inr nq_94_141
  | 1, _, _ => exact Or.inr nq_100_141
  | 2, _, _ => exact Or.inr nq_104_141
  | 3, _, _ => exact Or.inr nq_49_141
  | 4, _, _ => exact Or.inr nq_109_141
  | 5, _, _ => exact Or.inr nq_118_141
  | 6, _, _ => exact Or.inr nq_123_141
  | 7, _, _ => exact Or.inr nq_128_141
  | 8, _, _ => exact Or.inr nq_133_141
  | 9, _, _ => exact Or.inr nq_137_141
  | 10, _, _ => exact Or.inr nq_58_141
  | 11, _, h => exact absurd rfl h
  | 12, _, _ => exact Or.inl nq_141_63
  | 13, _, _ => exact Or.inl nq_141_149
  | 14, _, _ => exact Or.inl nq_141_68
  | 15, _, _ => exact Or.inl nq_141_73
  | 16, _, _ => exact Or.inl nq_141_85
  | 17, _, _ => exact Or.inl nq_141_164
  | k + 18, h, _ => omega
theorem nr_12 : ∀ j, j < 18 → 12 ≠ j → Cond.not (Cond.eq (Term.string "TaleCourt$Reader" (tIx.getD 12 0)) (Term.string "TaleCourt$Reader" (tIx.getD j 0))) ∈ flatC (Jvm.Cond.and given_1 narrow_1) ∨ Cond.not (Cond.eq (Term.string "TaleCourt$Reader" (tIx.getD j 0)) (Term.string "TaleCourt$Reader" (tIx.getD 12 0))) ∈ flatC (Jvm.Cond.and given_1 narrow_1) := fun j hj hne => by
  match j, hj, hne with
  | 0, _, _ => exact Or.inr nq_94_63
  | 1, _, _ => exact Or.inr nq_100_63
  | 2, _, _ => exact Or.inr nq_104_63
  | 3, _, _ => exact Or.inr nq_49_63
  | 4, _, _ => exact Or.inr nq_109_63
  | 5, _, _ => exact Or.inr nq_118_63
  | 6, _, _ => exact Or.inr nq_123_63
  | 7, _, _ => exact Or.inr nq_128_63
  | 8, _, _ => exact Or.inr nq_133_63
  | 9, _, _ => exact Or.inr nq_137_63
  | 10, _, _ => exact Or.inr nq_58_63
  | 11, _, _ => exact Or.inr nq_141_63
  | 12, _, h => exact absurd rfl h
  | 13, _, _ => exact Or.inl nq_63_149
  | 14, _, _ => exact Or.inl nq_63_68
  | 15, _, _ => exact Or.inl nq_63_73
  | 16, _, _ => exact Or.inl nq_63_85
  | 17, _, _ => exact Or.inl nq_63_164
  | k + 18, h, _ => omega
theorem nr_13 : ∀ j, j < 18 → 13 ≠ j → Cond.not (Cond.eq (Term.string "TaleCourt$Reader" (tIx.getD 13 0)) (Term.string "TaleCourt$Reader" (tIx.getD j 0))) ∈ flatC (Jvm.Cond.and given_1 narrow_1) ∨ Cond.not (Cond.eq (Term.string "TaleCourt$Reader" (tIx.getD j 0)) (Term.string "TaleCourt$Reader" (tIx.getD 13 0))) ∈ flatC (Jvm.Cond.and given_1 narrow_1) := fun j hj hne => by
  match j, hj, hne with
  | 0, _, _ => exact Or.inr nq_94_149
  | 1, _, _ => exact Or.inr nq_100_149
  | 2, _, _ => exact Or.inr nq_104_149
  | 3, _, _ => exact Or.inr nq_49_149
  | 4, _, _ => exact Or.inr nq_109_149
  | 5, _, _ => exact Or.inr nq_118_149
  | 6, _, _ => exact Or.inr nq_123_149
  | 7, _, _ => exact Or.inr nq_128_149
  | 8, _, _ => exact Or.inr nq_133_149
  | 9, _, _ => exact Or.inr nq_137_149
  | 10, _, _ => exact Or.inr nq_58_149
  | 11, _, _ => exact Or.inr nq_141_149
  | 12, _, _ => exact Or.inr nq_63_149
  | 13, _, h => exact absurd rfl h
  | 14, _, _ => exact Or.inl nq_149_68
  | 15, _, _ => exact Or.inl nq_149_73
  | 16, _, _ => exact Or.inl nq_149_85
  | 17, _, _ => exact Or.inl nq_149_164
  | k + 18, h, _ => omega
theorem nr_14 : ∀ j, j < 18 → 14 ≠ j → Cond.not (Cond.eq (Term.string "TaleCourt$Reader" (tIx.getD 14 0)) (Term.string "TaleCourt$Reader" (tIx.getD j 0))) ∈ flatC (Jvm.Cond.and given_1 narrow_1) ∨ Cond.not (Cond.eq (Term.string "TaleCourt$Reader" (tIx.getD j 0)) (Term.string "TaleCourt$Reader" (tIx.getD 14 0))) ∈ flatC (Jvm.Cond.and given_1 narrow_1) := fun j hj hne => by
  match j, hj, hne with
  | 0, _, _ => exact Or.inr nq_94_68
  | 1, _, _ => exact Or.inr nq_100_68
  | 2, _, _ => exact Or.inr nq_104_68
  | 3, _, _ => exact Or.inr nq_49_68
  | 4, _, _ => exact Or.inr nq_109_68
  | 5, _, _ => exact Or.inr nq_118_68
  | 6, _, _ => exact Or.inr nq_123_68
  | 7, _, _ => exact Or.inr nq_128_68
  | 8, _, _ => exact Or.inr nq_133_68
  | 9, _, _ => exact Or.inr nq_137_68
  | 10, _, _ => exact Or.inr nq_58_68
  | 11, _, _ => exact Or.inr nq_141_68
  | 12, _, _ => exact Or.inr nq_63_68
  | 13, _, _ => exact Or.inr nq_149_68
  | 14, _, h => exact absurd rfl h
  | 15, _, _ => exact Or.inl nq_68_73
  | 16, _, _ => exact Or.inl nq_68_85
  | 17, _, _ => exact Or.inl nq_68_164
  | k + 18, h, _ => omega
theorem nr_15 : ∀ j, j < 18 → 15 ≠ j → Cond.not (Cond.eq (Term.string "TaleCourt$Reader" (tIx.getD 15 0)) (Term.string "TaleCourt$Reader" (tIx.getD j 0))) ∈ flatC (Jvm.Cond.and given_1 narrow_1) ∨ Cond.not (Cond.eq (Term.string "TaleCourt$Reader" (tIx.getD j 0)) (Term.string "TaleCourt$Reader" (tIx.getD 15 0))) ∈ flatC (Jvm.Cond.and given_1 narrow_1) := fun j hj hne => by
  match j, hj, hne with
  | 0, _, _ => exact Or.inr nq_94_73
  | 1, _, _ => exact Or.inr nq_100_73
  | 2, _, _ => exact Or.inr nq_104_73
  | 3, _, _ => exact Or.inr nq_49_73
  | 4, _, _ => exact Or.inr nq_109_73
  | 5, _, _ => exact Or.inr nq_118_73
  | 6, _, _ => exact Or.inr nq_123_73
  | 7, _, _ => exact Or.inr nq_128_73
  | 8, _, _ => exact Or.inr nq_133_73
  | 9, _, _ => exact Or.inr nq_137_73
  | 10, _, _ => exact Or.inr nq_58_73
  | 11, _, _ => exact Or.inr nq_141_73
  | 12, _, _ => exact Or.inr nq_63_73
  | 13, _, _ => exact Or.inr nq_149_73
  | 14, _, _ => exact Or.inr nq_68_73
  | 15, _, h => exact absurd rfl h
  | 16, _, _ => exact Or.inl nq_73_85
  | 17, _, _ => exact Or.inl nq_73_164
  | k + 18, h, _ => omega
theorem nr_16 : ∀ j, j < 18 → 16 ≠ j → Cond.not (Cond.eq (Term.string "TaleCourt$Reader" (tIx.getD 16 0)) (Term.string "TaleCourt$Reader" (tIx.getD j 0))) ∈ flatC (Jvm.Cond.and given_1 narrow_1) ∨ Cond.not (Cond.eq (Term.string "TaleCourt$Reader" (tIx.getD j 0)) (Term.string "TaleCourt$Reader" (tIx.getD 16 0))) ∈ flatC (Jvm.Cond.and given_1 narrow_1) := fun j hj hne => by
  match j, hj, hne with
  | 0, _, _ => exact Or.inr nq_94_85
  | 1, _, _ => exact Or.inr nq_100_85
  | 2, _, _ => exact Or.inr nq_104_85
  | 3, _, _ => exact Or.inr nq_49_85
  | 4, _, _ => exact Or.inr nq_109_85
  | 5, _, _ => exact Or.inr nq_118_85
  | 6, _, _ => exact Or.inr nq_123_85
  | 7, _, _ => exact Or.inr nq_128_85
  | 8, _, _ => exact Or.inr nq_133_85
  | 9, _, _ => exact Or.inr nq_137_85
  | 10, _, _ => exact Or.inr nq_58_85
  | 11, _, _ => exact Or.inr nq_141_85
  | 12, _, _ => exact Or.inr nq_63_85
  | 13, _, _ => exact Or.inr nq_149_85
  | 14, _, _ => exact Or.inr nq_68_85
  | 15, _, _ => exact Or.inr nq_73_85
  | 16, _, h => exact absurd rfl h
  | 17, _, _ => exact Or.inl nq_85_164
  | k + 18, h, _ => omega
theorem nr_17 : ∀ j, j < 18 → 17 ≠ j → Cond.not (Cond.eq (Term.string "TaleCourt$Reader" (tIx.getD 17 0)) (Term.string "TaleCourt$Reader" (tIx.getD j 0))) ∈ flatC (Jvm.Cond.and given_1 narrow_1) ∨ Cond.not (Cond.eq (Term.string "TaleCourt$Reader" (tIx.getD j 0)) (Term.string "TaleCourt$Reader" (tIx.getD 17 0))) ∈ flatC (Jvm.Cond.and given_1 narrow_1) := fun j hj hne => by
  match j, hj, hne with
  | 0, _, _ => exact Or.inr nq_94_164
  | 1, _, _ => exact Or.inr nq_100_164
  | 2, _, _ => exact Or.inr nq_104_164
  | 3, _, _ => exact Or.inr nq_49_164
  | 4, _, _ => exact Or.inr nq_109_164
  | 5, _, _ => exact Or.inr nq_118_164
  | 6, _, _ => exact Or.inr nq_123_164
  | 7, _, _ => exact Or.inr nq_128_164
  | 8, _, _ => exact Or.inr nq_133_164
  | 9, _, _ => exact Or.inr nq_137_164
  | 10, _, _ => exact Or.inr nq_58_164
  | 11, _, _ => exact Or.inr nq_141_164
  | 12, _, _ => exact Or.inr nq_63_164
  | 13, _, _ => exact Or.inr nq_149_164
  | 14, _, _ => exact Or.inr nq_68_164
  | 15, _, _ => exact Or.inr nq_73_164
  | 16, _, _ => exact Or.inr nq_85_164
  | 17, _, h => exact absurd rfl h
  | k + 18, h, _ => omega
theorem tx_ne : ∀ i, i < 18 → ∀ j, j < 18 → i ≠ j → Cond.not (Cond.eq (Term.string "TaleCourt$Reader" (tIx.getD i 0)) (Term.string "TaleCourt$Reader" (tIx.getD j 0))) ∈ flatC (Jvm.Cond.and given_1 narrow_1) ∨ Cond.not (Cond.eq (Term.string "TaleCourt$Reader" (tIx.getD j 0)) (Term.string "TaleCourt$Reader" (tIx.getD i 0))) ∈ flatC (Jvm.Cond.and given_1 narrow_1) := fun i hi => by
  match i, hi with
  | 0, _ => exact nr_0
  | 1, _ => exact nr_1
  | 2, _ => exact nr_2
  | 3, _ => exact nr_3
  | 4, _ => exact nr_4
  | 5, _ => exact nr_5
  | 6, _ => exact nr_6
  | 7, _ => exact nr_7
  | 8, _ => exact nr_8
  | 9, _ => exact nr_9
  | 10, _ => exact nr_10
  | 11, _ => exact nr_11
  | 12, _ => exact nr_12
  | 13, _ => exact nr_13
  | 14, _ => exact nr_14
  | 15, _ => exact nr_15
  | 16, _ => exact nr_16
  | 17, _ => exact nr_17
  | k + 18, h => omega
theorem tx_sr : ∀ i, i < 18 → Cond.stringRef "TaleCourt$Reader" (tIx.getD i 0) (tTx.getD i "") ∈ lw_tbl := fun i hi => by
  match i, hi with
  | 0, _ => exact List.mem_of_getElem? (i := 557) (by decide +kernel)
  | 1, _ => exact List.mem_of_getElem? (i := 618) (by decide +kernel)
  | 2, _ => exact List.mem_of_getElem? (i := 630) (by decide +kernel)
  | 3, _ => exact List.mem_of_getElem? (i := 631) (by decide +kernel)
  | 4, _ => exact List.mem_of_getElem? (i := 636) (by decide +kernel)
  | 5, _ => exact List.mem_of_getElem? (i := 641) (by decide +kernel)
  | 6, _ => exact List.mem_of_getElem? (i := 642) (by decide +kernel)
  | 7, _ => exact List.mem_of_getElem? (i := 643) (by decide +kernel)
  | 8, _ => exact List.mem_of_getElem? (i := 644) (by decide +kernel)
  | 9, _ => exact List.mem_of_getElem? (i := 645) (by decide +kernel)
  | 10, _ => exact List.mem_of_getElem? (i := 646) (by decide +kernel)
  | 11, _ => exact List.mem_of_getElem? (i := 651) (by decide +kernel)
  | 12, _ => exact List.mem_of_getElem? (i := 652) (by decide +kernel)
  | 13, _ => exact List.mem_of_getElem? (i := 657) (by decide +kernel)
  | 14, _ => exact List.mem_of_getElem? (i := 658) (by decide +kernel)
  | 15, _ => exact List.mem_of_getElem? (i := 667) (by decide +kernel)
  | 16, _ => exact List.mem_of_getElem? (i := 668) (by decide +kernel)
  | 17, _ => exact List.mem_of_getElem? (i := 673) (by decide +kernel)
  | k + 18, h => omega
theorem law_text {p : Program} {s : State} {m : MethodId} {meth : Method} {c : Code} {b L : Nat} {xs : Nat → Int32} (C0 : lw_At p s m meth c b L xs) : ∃ tk tv : Nat → Nat, tP tk tv (lawA s) s ∧ tR tk s := by
  obtain ⟨hx, hb, hr, hml, hown, hts, hX, hbl, hlocks, hgv⟩ := C0
  have hs := flat_of_before _ hgv
  have hA : ∀ a : Nat, a < s.heap.size → ¬ lawA s a := fun a h => Nat.not_le.mpr h
  obtain ⟨tk, tv, h1, h2⟩ := vk_Sof (args := #[Value.ref b]) (s := s) (N := 18) (tm := fun i => Term.string "TaleCourt$Reader" (tIx.getD i 0)) (len := tLen) (byt := tByt) (A := lawA s) (by decide) (fun i hi => hs _ (tx_ex i hi)) (fun i hi => hs _ (tx_co i hi)) (fun i hi => hs _ (tx_ar i hi)) (fun i hi => hs _ (tx_le i hi)) (fun i hi j hj => hs _ (tx_el i hi j hj)) (fun i j hi hj hij => (tx_ne i hi j hj hij).imp (hs _) (hs _)) hA
  exact ⟨tk, tv, ⟨h1, va_Zof (hts _ (List.mem_of_getElem? (i := 575) (by decide +kernel))) (hts _ (List.mem_of_getElem? (i := 125) (by decide +kernel))) (va_eqt (hs _ (by decide +kernel))) hA, va_Zqof (hts _ (List.mem_of_getElem? (i := 591) (by decide +kernel))) (hts _ (List.mem_of_getElem? (i := 127) (by decide +kernel))) (hs _ (by decide +kernel)) hA⟩, fun i hi => vk_R.of (hts _ (tx_sr i hi)) (h2 i hi)⟩
theorem dL_0 : decode code 0 = .ok (.new 7, 3) := by decide +kernel
theorem dL_3 : decode code 3 = .ok (.dup, 1) := by decide +kernel
theorem dL_4 : decode code 4 = .ok (.invokespecial 9, 3) := by decide +kernel
theorem dL_7 : decode code 7 = .ok (.astore_n 1, 1) := by decide +kernel
theorem dL_8 : decode code 8 = .ok (.new 10, 3) := by decide +kernel
theorem dL_11 : decode code 11 = .ok (.dup, 1) := by decide +kernel
theorem dL_12 : decode code 12 = .ok (.invokespecial 12, 3) := by decide +kernel
theorem dL_15 : decode code 15 = .ok (.astore_n 2, 1) := by decide +kernel
theorem dL_16 : decode code 16 = .ok (.iconst 0, 1) := by decide +kernel
theorem dL_17 : decode code 17 = .ok (.istore_n 3, 1) := by decide +kernel
theorem dL_18 : decode code 18 = .ok (.iload_n 3, 1) := by decide +kernel
theorem dL_19 : decode code 19 = .ok (.aload_n 0, 1) := by decide +kernel
theorem dL_20 : decode code 20 = .ok (.arraylength, 1) := by decide +kernel
theorem dL_21 : decode code 21 = .ok (.bipush 6, 2) := by decide +kernel
theorem dL_23 : decode code 23 = .ok (.isub, 1) := by decide +kernel
theorem dL_24 : decode code 24 = .ok (.if_icmp .gt 1936, 3) := by decide +kernel
theorem dL_27 : decode code 27 = .ok (.aload_n 0, 1) := by decide +kernel
theorem dL_28 : decode code 28 = .ok (.iload_n 3, 1) := by decide +kernel
theorem dL_29 : decode code 29 = .ok (.iaload, 1) := by decide +kernel
theorem dL_30 : decode code 30 = .ok (.bipush 127, 2) := by decide +kernel
theorem dL_32 : decode code 32 = .ok (.iand, 1) := by decide +kernel
theorem dL_1954 : decode code 1954 = .ok (.iinc 3 6, 3) := by decide +kernel
theorem dL_1957 : decode code 1957 = .ok (.goto (-1939), 3) := by decide +kernel
theorem dL_1960 : decode code 1960 = .ok (.iconst 1, 1) := by decide +kernel
theorem dL_1961 : decode code 1961 = .ok (.ireturn, 1) := by decide +kernel
set_option maxRecDepth 100000 in
theorem lawend {p : Program} {l : Launch} {e : Env} {s : State} {m : MethodId} {below : List Frame} {meth : Method} {c : Code} {b L : Nat} {xs : Nat → Int32} {H : Heap} {locs : List Loc} {ls : Array Slot} {cells slots : Nat} (C0 : lw_At p s m meth c b L xs) (hS : va_S (lawA s) s.heap H locs) (hc : cells ≤ 600000 ∧ slots ≤ 7302250) : W p l e room_1 s m #[Value.ref b] below meth c H locs cells slots (lw_Z below #[Value.ref b] s) (F0 m 1960 ls []) := by
  obtain ⟨hx, hb, hr, hml, hown, hts, hX, hbl, hlocks, hgv⟩ := C0
  refine lv_iconst (v := 1) hx hb dL_1960 (by decide) ?_
  refine va_forget (fun q hq => hS.2.2 q hq) ?_
  refine W.widen (k := 600000) (n := 7302250) hc.1 hc.2 ?_
  exact lw_ret hx hb hr hlocks dL_1961
theorem YI_start : YI yv0 ya0 := by
  refine ⟨by unfold YF; decide +kernel, ⟨fun j => ?_, fun j => by show 0 ≤ ((0 : Int32)).toInt ∧ ((0 : Int32)).toInt ≤ 60; decide, fun j => ?_, fun j => by show 0 ≤ ((0 : Int32)).toInt ∧ ((0 : Int32)).toInt ≤ 9; decide, fun j => by show 0 ≤ ((0 : Int32)).toInt ∧ ((0 : Int32)).toInt ≤ 9; decide⟩, ⟨by decide, fun r hr => ⟨fun h => ?_, fun k hk => ?_⟩⟩⟩
  · show -1 ≤ (if j = 3 then (-1 : Int32) else if j = 2 then (-1 : Int32) else if j = 1 then (-1 : Int32) else if j = 0 then (-1 : Int32) else 0).toInt ∧ (if j = 3 then (-1 : Int32) else if j = 2 then (-1 : Int32) else if j = 1 then (-1 : Int32) else if j = 0 then (-1 : Int32) else 0).toInt ≤ 3
    by_cases h3 : j = 3
    · rw [if_pos h3]; decide
    · rw [if_neg h3]
      by_cases h2 : j = 2
      · rw [if_pos h2]; decide
      · rw [if_neg h2]
        by_cases h1 : j = 1
        · rw [if_pos h1]; decide
        · rw [if_neg h1]
          by_cases h0 : j = 0
          · rw [if_pos h0]; decide
          · rw [if_neg h0]; decide
  · have e : (ya0 7 j).toInt = 0 := by show ((0 : Int32)).toInt = 0; decide
    rw [e]; unfold hasB; omega
  · have e : ∀ p q, p ≠ 1 → (ya0 p q).toInt = 0 := fun p q hp => by unfold ya0; rw [if_neg hp]; decide
    rw [e 6 _ (by decide), e 7 _ (by decide), e 7 _ (by decide)] at h
    omega
  · have e : ((ya0 7 (6 * r + 5)).toInt).toNat = 0 := by show ((0 : Int32)).toInt.toNat = 0; decide
    rw [e] at hk
    exact absurd hk (Nat.not_lt_zero _)
theorem XI_start : XI xv0 := by unfold XI; decide +kernel
