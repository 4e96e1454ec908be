/-! THE CLAIM OUT OF ONE WALK OF THE LAW'S BODY. Your part is whole_start (and what it stands on); all else here is the same for every law, but numbers. -/
def R_law : String := "TaleCourtLaw"
def lw_P (b : Addr) (xs : List Int32) (args : Array Value) (s : State) : Prop := args = #[.ref b] ∧ s.IntsAt b xs ∧ xs.length ≤ 3072 ∧ (Jvm.Cond.and given_1 narrow_1).before args s = true
def lw_Q (_ : Array Value) (s : State) (o : Outcome) (t : State) : Prop := o = .returned (some (.int 1)) ∧ Framed s o t [] 600000 7302250
def lw_Z (below : List Frame) (a : Array Value) (s : State) : State → Prop := fun t => ∃ o, t.status = .running ∧ Ended t below o ∧ lw_Q a s o t
/-- the law's own end, with 1 on the stack, nothing written that was there before, its room as the claim has it -/
theorem lw_ret {p : Program} {l : Launch} {e : Env} {s : State} {m : MethodId} {below : List Frame} {meth : Method} {c : Code} {b : Nat} (hx : p.tables.exec = Jvm.exec) (hb : c.code = code) (hr : meth.sig.returnType = ret) (hlocks : meth.locks = false) {pc : Nat} {H : Heap} {ls : Array Slot} (hdg : decode code pc = .ok (.ireturn, 1)) : W p l e room_1 s m #[Value.ref b] below meth c H [] 600000 7302250 (lw_Z below #[Value.ref b] s) (F0 m pc ls [.int 1]) := by
  intro T hT X
  obtain ⟨fs, hret, hrun, hended, hW, hframe⟩ := X.leave (v := some (.int 1)) (hlocks := hlocks) (fun h => by rw [hr] at h; cases h)
  have hmeth' : T.vm.method? m = some meth := X.method'
  refine ⟨T.setFrames fs, ?_, .returned (some (.int 1)), hrun, hended, rfl, ⟨_, rfl⟩, hW, hframe⟩
  jvm_step X.here [X.here.top, hx, hb, hdg, hmeth', hr, ret, narrow_b1]
  (try refine ⟨rfl, ?_⟩); (try refine ⟨rfl, ?_⟩)
  first | (intro acts; rw [hret _ acts rfl rfl rfl]) | rw [hret _ _ rfl rfl rfl]
  exact Steps.refl _
/-- what holds at the law's entry: the machine, the code, the tables' words (any of lw_tbl by 'hts w (by decide +kernel)'), the script of L ints xs at the cell b, what the Statement gives of the start (any of its parts by flat_of_before) -/
def lw_At (p : Program) (s : State) (m : MethodId) (meth : Method) (c : Code) (b L : Nat) (xs : Nat → Int32) : Prop :=
  p.tables.exec = Jvm.exec ∧ c.code = code ∧ meth.sig.returnType = ret ∧ c.maxLocals = 4 ∧ s.vm.findClass R_law = some m.cls ∧ (∀ w ∈ lw_tbl, w.before #[Value.ref b] s = true) ∧ va_X b L xs s s.heap ∧ b < s.heap.size ∧ meth.locks = false ∧ (Jvm.Cond.and given_1 narrow_1).before #[Value.ref b] s = true

section LV
variable {p : Program} {l : Launch} {e : Env} {R : Room} {s : State} {m : MethodId} {args : Array Value} {below : List Frame} {meth : Method} {c : Code} {cc : ByteArray} {H : Heap} {locs : List Loc} {cells slots : Nat} {Q : State → Prop} {pc nL : Nat} {ls : Array Slot} {rest st : List Value} {D : va_G} {K : Nat → ClassId} {ad : Nat → Nat} {G : gT} {N : Nat} {v ar : sI} {al : sL} {own : String}
theorem l_viG (hE : CallFix p m c cc nL s args tbG own) {A : Nat → Prop} (hS : va_S A s.heap H locs) (hA : ∀ i, i < N → A (ad i)) {y : MethodName} {b : ByteArray} {mL d idx nn a : Nat} {ret : Option FieldType} {As : List Value} {Bp : State → Prop} {post : Int32 → sT → Prop} (hM : Met l y (wM y b mL ret) (rmD d) (va_Pc (.ref a :: As) Bp) (va_Qi post (wB D ad G N) (inW ad N)) 0 0 (inW ad N)) (hbl : FrameBlind (va_Pc (.ref a :: As) Bp)) (hB : ∀ U : State, U.heap = H → s.WarmedH U.vm → Bp U) (hrecv : ∃ cell : Cell, H[a]? = some cell ∧ cell.vm.isStatics = false ∧ s.vm.findClass y.cls = some cell.cls) (hnn : As.length = nn) (h1 : Cond.methodLink own idx y ∈ tbG) (h2 : Cond.instanceMethod y ∈ tbG) (h3 : Cond.selects y.cls y y ∈ tbG) (h4 : Cond.initialized y.cls ∈ tbG) (h5 : Cond.code y b mL ret ∈ tbG) (hd : y.cls = y.cls ∧ y.cls ≠ "java/lang/invoke/MethodHandle" ∧ y.cls ≠ "java/lang/invoke/VarHandle" ∧ (parseMethodDescriptor y.desc).map (fun d => d.parameters.length) = some nn) (hR : d + 1 ≤ R.frames ∧ 8 + (mL + 11) + 64 * d ≤ R.locals) (hls : ls.size = nL) (hst : st = As.reverse ++ .ref a :: rest) (hw : (rest.map fun v => v.category).sum ≤ 8) (hcs : cells ≤ R.cells ∧ slots ≤ R.slots) (hdg : decode cc pc = .ok (.invokevirtual idx, 3))
    (kk : ∀ (r : Int32) (v' ar' : sI) (al' : sL) (H1 : Heap) (locs1 : List Loc), post r (v', ar', al') → va_P D xcl (wW ad G N v' ar' al') H1 → (∀ q : Nat, q < H.size → ¬ inW ad N q → H1[q]? = H[q]?) → va_S A s.heap H1 locs1 → W p l e R s m args below meth c H1 locs1 cells slots Q (F0 m (pc + 3) ls (.int r :: rest))) : W p l e R s m args below meth c H locs cells slots Q (F0 m pc ls st) := by
  refine va_calli (va_runV (As := As) (rest := rest) hE hM (cwV nn hE.2.2.2.2 (gV h1 h2 h3 h4 h5) rfl rfl rfl hd hR) ⟨hbl, hrecv, fun U hU hW => ⟨rfl, hB U hU hW⟩⟩ rfl hnn hls hst (lv_room hw) hdg hcs) hS (fun q _ h => inA hA q h) (inA hA) (fun r u t H1 locs1 ht _ hp hB1 _ hk hS1 => ?_)
  exact kk r u.1 u.2.1 u.2.2 H1 locs1 hp (by rw [← ht]; exact hB1) hk hS1
theorem l_viF (hE : CallFix p m c cc nL s args tbG own) (hK : va_K D xcl (xty K) s) (hN : apart ad 132) (hP : va_P D xcl (wW ad (xG ad K none) 132 v ar al) H) {A : Nat → Prop} (hS : va_S A s.heap H locs) (hA0 : ∀ q, s.heap.size ≤ q → A q) (hA : ∀ i, i < 132 → A (ad i)) {y : MethodName} {b : ByteArray} {mL d idx nn a : Nat} {ret : Option FieldType} {As : List Value} {post : Int32 → Option (Nat → Nat) × sT → Prop} (hM : Met l y (wM y b mL ret) (rmC d 1 36880) (va_Pc (.ref a :: As) (fPre2 D K ad H v ar al)) (va_Qi post (bF2 D K ad H) (aF ad H.size)) 1 36880 (aF ad H.size)) (hrecv : ∃ cell : Cell, H[a]? = some cell ∧ cell.vm.isStatics = false ∧ s.vm.findClass y.cls = some cell.cls) (hnn : As.length = nn) (h1 : Cond.methodLink own idx y ∈ tbG) (h2 : Cond.instanceMethod y ∈ tbG) (h3 : Cond.selects y.cls y y ∈ tbG) (h4 : Cond.initialized y.cls ∈ tbG) (h5 : Cond.code y b mL ret ∈ tbG) (hd : y.cls = y.cls ∧ y.cls ≠ "java/lang/invoke/MethodHandle" ∧ y.cls ≠ "java/lang/invoke/VarHandle" ∧ (parseMethodDescriptor y.desc).map (fun d => d.parameters.length) = some nn) (hR : d + 1 ≤ R.frames ∧ 8 + (mL + 11) + 64 * d ≤ R.locals) (hls : ls.size = nL) (hst : st = As.reverse ++ .ref a :: rest) (hw : (rest.map fun v => v.category).sum ≤ 8) (hcs : cells + 1 ≤ R.cells ∧ slots + 36880 ≤ R.slots) (hdg : decode cc pc = .ok (.invokevirtual idx, 3))
    (kk : ∀ (r : Int32) (u : Option (Nat → Nat) × sT) (t : State) (H1 : Heap) (locs1 : List Loc), t.heap = H1 → post r u → bF2 D K ad H u t → (∀ q : Nat, q < H.size → ¬ aF ad H.size q → H1[q]? = H[q]?) → va_S A s.heap H1 locs1 → W p l e R s m args below meth c H1 locs1 (cells + 1) (slots + 36880) Q (F0 m (pc + 3) ls (.int r :: rest))) : W p l e R s m args below meth c H locs cells slots Q (F0 m pc ls st) := by
  refine va_calli (va_runV (As := As) (rest := rest) hE hM (cwV nn hE.2.2.2.2 (gV h1 h2 h3 h4 h5) rfl rfl rfl hd hR) ⟨fPre2_blind, hrecv, fun U hU hW => ⟨rfl, hU, wPre_now hK hN hP U hU hW⟩⟩ rfl hnn hls hst (lv_room hw) hdg hcs) hS (fun q _ h => aF_sub hS hA0 hA q h) (aF_sub hS hA0 hA) (fun r u t H1 locs1 ht _ hp hB1 _ hk hS1 => ?_)
  exact kk r u t H1 locs1 ht hp hB1 hk hS1
theorem W_book {g : JFrame} (kk : H.size ≤ s.heap.size + cells → ((H.toList.drop s.heap.size).map (·.slots.size)).sum ≤ slots → W p l e R s m args below meth c H locs cells slots Q g) : W p l e R s m args below meth c H locs cells slots Q g := fun T hT X => kk (by rw [← hT]; exact X.same.2.2.1) (by rw [← hT]; exact X.same.2.2.2.2.1) T hT X
theorem W_low {g : JFrame} {k n : Nat} (h1 : H.size ≤ s.heap.size + k) (h2 : ((H.toList.drop s.heap.size).map (·.slots.size)).sum ≤ n) (kk : W p l e R s m args below meth c H locs k n Q g) : W p l e R s m args below meth c H locs cells slots Q g := fun T hT X => kk T hT { X with same := ⟨X.same.1, X.same.2.1, by rw [← hT] at h1; exact h1, X.same.2.2.2.1, by rw [← hT] at h2; exact h2, X.same.2.2.2.2.2⟩ }
end LV
theorem w_keep {D : va_G} {ad ad' : Nat → Nat} {G' : gT} {N N' : Nat} {v' ar' : sI} {al' : sL} {H H1 : Heap} (hP : va_P D xcl (wW ad' G' N' v' ar' al') H) (hdis : ∀ i j, i < N → j < N' → ad i ≠ ad' j) (hk : ∀ q : Nat, q < H.size → ¬ inW ad N q → H1[q]? = H[q]?) : va_P D xcl (wW ad' G' N' v' ar' al') H1 :=
  hP.kept (fun k q hq => by
    have hlt := (hP k q hq).lt
    obtain ⟨h1, rfl⟩ := pw_lt hq
    exact hk _ hlt (fun ⟨i, hi, e⟩ => hdis i k hi h1 e.symm))
theorem pw_len (a : Nat → Nat) (f : Nat → va_E) (n : Nat) : (pw a f n).length = n := by simp [pw]
theorem two {D : va_G} {A : Nat → Prop} {a1 a2 : Nat → Nat} {f1 f2 : Nat → va_E} {n1 n2 : Nat} {H : Heap} (hP : va_P D xcl (pw a1 f1 n1 ++ pw a2 f2 n2) H) (hD : va_D A (pw a1 f1 n1 ++ pw a2 f2 n2)) : va_P D xcl (pw a1 f1 n1) H ∧ va_P D xcl (pw a2 f2 n2) H ∧ apart a1 n1 ∧ apart a2 n2 ∧ (∀ i, i < n1 → A (a1 i)) ∧ (∀ i, i < n2 → A (a2 i)) ∧ ∀ i j, i < n1 → j < n2 → a1 i ≠ a2 j := by
  have g1 : ∀ i, i < n1 → (pw a1 f1 n1 ++ pw a2 f2 n2)[i]? = some (a1 i, f1 i) := fun i hi => by
    rw [List.getElem?_append_left (by rw [pw_len]; exact hi)]; exact pw_at hi
  have g2 : ∀ j, j < n2 → (pw a1 f1 n1 ++ pw a2 f2 n2)[n1 + j]? = some (a2 j, f2 j) := fun j hj => by
    rw [List.getElem?_append_right (by rw [pw_len]; omega), pw_len, show n1 + j - n1 = j by omega]; exact pw_at hj
  refine ⟨P_mem.mpr (fun q hq => P_mem.mp hP q (List.mem_append_left _ hq)), P_mem.mpr (fun q hq => P_mem.mp hP q (List.mem_append_right _ hq)), fun i j hi hj he => ?_, fun i j hi hj he => ?_, fun i hi => hD.2 i _ (g1 i hi), fun j hj => hD.2 _ _ (g2 j hj), fun i j hi hj he => ?_⟩
  · exact hD.1 i j _ _ (g1 i hi) (g1 j hj) he
  · have := hD.1 (n1 + i) (n1 + j) _ _ (g2 i hi) (g2 j hj) he
    omega
  · have := hD.1 i (n1 + j) _ _ (g1 i hi) (g2 j hj) he
    omega
theorem arr_i {args : Array Value} {s : State} (h : (Cond.arrayClass .int).before args s = true) : ∃ cA, ArrOfT s cA .int ∧ va_RA s cA .int := by
  obtain ⟨cA, kA, comp, h1, h2, h3⟩ := Cond.arrayClass_spec h
  exact ⟨cA, fun n z => ⟨fun k h => (by cases h), kA, h2, comp, h3⟩, h1⟩
theorem arr_l {args : Array Value} {s : State} (h : (Cond.arrayClass .long).before args s = true) : ∃ cA, ArrOfT s cA .long ∧ va_RA s cA .long := by
  obtain ⟨cA, kA, comp, h1, h2, h3⟩ := Cond.arrayClass_spec h
  exact ⟨cA, fun n z => ⟨fun k h => (by cases h), kA, h2, comp, h3⟩, h1⟩
theorem arr_b {args : Array Value} {s : State} (h : (Cond.arrayClass .byte).before args s = true) : ∃ cA, ArrOfT s cA .byte ∧ va_RA s cA .byte := by
  obtain ⟨cA, kA, comp, h1, h2, h3⟩ := Cond.arrayClass_spec h
  exact ⟨cA, fun n z => ⟨fun k h => (by cases h), kA, h2, comp, h3⟩, h1⟩
theorem arr_z {args : Array Value} {s : State} (h : (Cond.arrayClass .boolean).before args s = true) : ∃ cA, ArrOfT s cA .boolean ∧ va_RA s cA .boolean := by
  obtain ⟨cA, kA, comp, h1, h2, h3⟩ := Cond.arrayClass_spec h
  exact ⟨cA, fun n z => ⟨fun k h => (by cases h), kA, h2, comp, h3⟩, h1⟩
theorem arr_o {args : Array Value} {s : State} {C : String} (h : (Cond.arrayOver (.object C)).before args s = true) : ∃ cA, ArrOfT s cA (.object C) ∧ va_RA s cA (.object C) := by
  obtain ⟨comp, cA, kA, h1, h2, h3, h4, h5⟩ := Cond.arrayOver_spec h
  exact ⟨cA, fun n z => ⟨fun k h => (by cases h), kA, h3, comp, h4⟩, kA, comp, h3, h4, h1, h5⟩

def lawA (s : State) : Nat → Prop := fun q => s.heap.size ≤ q
theorem w_keepF {D : va_G} {ad ad' : Nat → Nat} {G' : gT} {N' : Nat} {v' ar' : sI} {al' : sL} {H H1 : Heap} (hP : va_P D xcl (wW ad' G' N' v' ar' al') H) (hdis : ∀ i j, i < 132 → j < N' → ad i ≠ ad' j) (hk : ∀ q : Nat, q < H.size → ¬ aF ad H.size q → H1[q]? = H[q]?) : va_P D xcl (wW ad' G' N' v' ar' al') H1 :=
  hP.kept (fun k q hq => by
    have hlt := (hP k q hq).lt
    obtain ⟨h1, rfl⟩ := pw_lt hq
    exact hk _ hlt (fun z => z.elim (fun ⟨i, hi, e⟩ => hdis i k hi h1 e.symm) (fun z => absurd hlt (Nat.not_lt.mpr z))))
theorem w_lt {D : va_G} {ad' : Nat → Nat} {G' : gT} {N' : Nat} {v' ar' : sI} {al' : sL} {H : Heap} (hP : va_P D xcl (wW ad' G' N' v' ar' al') H) {j : Nat} (hj : j < N') : ad' j < H.size := (hP j _ (pw_at hj)).lt
def lawM (ax : Nat → Nat) (mm : Option Nat) (N cells slots : Nat) : Prop := (mm = none ∧ N = 132 ∧ cells = 153 ∧ slots = 180094) ∨ (mm = some (ax 132) ∧ N = 133 ∧ cells = 154 ∧ slots = 216974)
theorem lawM_c {ax : Nat → Nat} {mm : Option Nat} {N cells slots : Nat} (h : lawM ax mm N cells slots) : cells ≤ room_1.cells ∧ slots ≤ room_1.slots := by
  rcases h with ⟨_, _, rfl, rfl⟩ | ⟨_, _, rfl, rfl⟩
  · exact ⟨Nat.le_of_ble_eq_true rfl, Nat.le_of_ble_eq_true rfl⟩
  · exact ⟨Nat.le_of_ble_eq_true rfl, Nat.le_of_ble_eq_true rfl⟩
theorem lawM_N {ax : Nat → Nat} {mm : Option Nat} {N cells slots : Nat} (h : lawM ax mm N cells slots) : 132 ≤ N := by
  rcases h with ⟨_, rfl, _, _⟩ | ⟨_, rfl, _, _⟩ <;> omega
def lawR (_ _ : sI) (_ : sL) (_ _ : sI) (_ : sL) : Prop := True
theorem lawR_start : lawR xv0 xa0 xl0 yv0 ya0 yl0 := trivial
/-- the two worlds between two calls -/
def lawI (s : State) (D : va_G) (K : Nat → ClassId) (ay ax : Nat → Nat) (mm : Option Nat) (N cells slots : Nat) (v ar : sI) (al : sL) (v' ar' : sI) (al' : sL) (H : Heap) (locs : List Loc) : Prop :=
  apart ax N ∧ apart ay 21 ∧ (∀ i, i < N → lawA s (ax i)) ∧ (∀ i, i < 21 → lawA s (ay i)) ∧ (∀ i j, i < N → j < 21 → ax i ≠ ay j) ∧ va_P D xcl (wW ax (xG ax K mm) N v ar al) H ∧ va_P D xcl (wW ay (yG ay K) 21 v' ar' al') H ∧ va_S (lawA s) s.heap H locs ∧ XI v ∧ YI v' ar' ∧ lawM ax mm N cells slots ∧ lawR v ar al v' ar' al'
def lawF (p : Program) (s : State) (m : MethodId) (meth : Method) (c : Code) (b L : Nat) (xs : Nat → Int32) (D : va_G) (K : Nat → ClassId) (tk tv : Nat → Nat) : Prop :=
  lw_At p s m meth c b L xs ∧ CallFix p m c code 4 s #[Value.ref b] tbG "TaleCourtLaw" ∧ va_K D xcl (xty K) s ∧ tP tk tv (lawA s) s ∧ tR tk s
def lawK (p : Program) (l : Launch) (e : Env) (s : State) (m : MethodId) (below : List Frame) (meth : Method) (c : Code) (b : Nat) (D : va_G) (K : Nat → ClassId) (ay : Nat → Nat) (i : Int) : Prop := ∀ (ax : Nat → Nat) (mm : Option Nat) (N cells slots : Nat) (v ar : sI) (al : sL) (v' ar' : sI) (al' : sL) (H : Heap) (locs : List Loc) (ls : Array Slot), lawI s D K ay ax mm N cells slots v ar al v' ar' al' H locs → lv_has ls 4 [(3, .int (iI i)), (2, .ref (ay 0)), (1, .ref (ax 0)), (0, .ref b)] → W p l e room_1 s m #[Value.ref b] below meth c H locs cells slots (lw_Z below #[Value.ref b] s) (F0 m 1954 ls [])
theorem tP_nar {tk tv : Nat → Nat} {A B : Nat → Prop} {U : State} (h : tP tk tv A U) (hAB : ∀ q, B q → A q) : tP tk tv B U := ⟨h.1.narrow hAB, h.2.1.narrow hAB, h.2.2.narrow hAB⟩
theorem tx_ex : ∀ i, i < 18 → Cond.exactly (Term.string "TaleCourt$Reader" (tIx.getD i 0)) "java/lang/String" ∈ flatC (Jvm.Cond.and given_1 narrow_1) := by decide +kernel
theorem tx_co : ∀ i, i < 18 → Cond.eq (.field (Term.string "TaleCourt$Reader" (tIx.getD i 0)) "java/lang/String" "coder" "B") (.int 0) ∈ flatC (Jvm.Cond.and given_1 narrow_1) := by decide +kernel
theorem tx_ar : ∀ i, i < 18 → Cond.arrayOf (.field (Term.string "TaleCourt$Reader" (tIx.getD i 0)) "java/lang/String" "value" "[B") .byte ∈ flatC (Jvm.Cond.and given_1 narrow_1) := by decide +kernel
theorem tx_le : ∀ i, i < 18 → Cond.eq (.length (.field (Term.string "TaleCourt$Reader" (tIx.getD i 0)) "java/lang/String" "value" "[B")) (.int (Int32.ofNat (tLen.getD i 0))) ∈ flatC (Jvm.Cond.and given_1 narrow_1) := by decide +kernel
theorem tx_el : ∀ i, i < 18 → ∀ j, j < tLen.getD i 0 → Cond.eq (.elem (.field (Term.string "TaleCourt$Reader" (tIx.getD i 0)) "java/lang/String" "value" "[B") (.int (Int32.ofNat j))) (.int ((tByt.getD i []).getD j 0)) ∈ flatC (Jvm.Cond.and given_1 narrow_1) := by decide +kernel
theorem tx_ne : ∀ i, i < 18 → ∀ j, j < 18 → i ≠ j → Cond.not (Cond.eq (Term.string "TaleCourt$Reader" (tIx.getD i 0)) (Term.string "TaleCourt$Reader" (tIx.getD j 0))) ∈ flatC (Jvm.Cond.and given_1 narrow_1) ∨ Cond.not (Cond.eq (Term.string "TaleCourt$Reader" (tIx.getD j 0)) (Term.string "TaleCourt$Reader" (tIx.getD i 0))) ∈ flatC (Jvm.Cond.and given_1 narrow_1) := by decide +kernel
theorem tx_sr : ∀ i, i < 18 → Cond.stringRef "TaleCourt$Reader" (tIx.getD i 0) (tTx.getD i "") ∈ lw_tbl := fun i hi => by
  match i, hi with
  | 0, _ => exact List.mem_of_getElem? (i := 557) (by decide +kernel)
  | 1, _ => exact List.mem_of_getElem? (i := 618) (by decide +kernel)
  | 2, _ => exact List.mem_of_getElem? (i := 630) (by decide +kernel)
  | 3, _ => exact List.mem_of_getElem? (i := 631) (by decide +kernel)
  | 4, _ => exact List.mem_of_getElem? (i := 636) (by decide +kernel)
  | 5, _ => exact List.mem_of_getElem? (i := 641) (by decide +kernel)
  | 6, _ => exact List.mem_of_getElem? (i := 642) (by decide +kernel)
  | 7, _ => exact List.mem_of_getElem? (i := 643) (by decide +kernel)
  | 8, _ => exact List.mem_of_getElem? (i := 644) (by decide +kernel)
  | 9, _ => exact List.mem_of_getElem? (i := 645) (by decide +kernel)
  | 10, _ => exact List.mem_of_getElem? (i := 646) (by decide +kernel)
  | 11, _ => exact List.mem_of_getElem? (i := 651) (by decide +kernel)
  | 12, _ => exact List.mem_of_getElem? (i := 652) (by decide +kernel)
  | 13, _ => exact List.mem_of_getElem? (i := 657) (by decide +kernel)
  | 14, _ => exact List.mem_of_getElem? (i := 658) (by decide +kernel)
  | 15, _ => exact List.mem_of_getElem? (i := 667) (by decide +kernel)
  | 16, _ => exact List.mem_of_getElem? (i := 668) (by decide +kernel)
  | 17, _ => exact List.mem_of_getElem? (i := 673) (by decide +kernel)
  | k + 18, h => omega
theorem law_text {p : Program} {s : State} {m : MethodId} {meth : Method} {c : Code} {b L : Nat} {xs : Nat → Int32} (C0 : lw_At p s m meth c b L xs) : ∃ tk tv : Nat → Nat, tP tk tv (lawA s) s ∧ tR tk s := by
  obtain ⟨hx, hb, hr, hml, hown, hts, hX, hbl, hlocks, hgv⟩ := C0
  have hs := flat_of_before _ hgv
  have hA : ∀ a : Nat, a < s.heap.size → ¬ lawA s a := fun a h => Nat.not_le.mpr h
  obtain ⟨tk, tv, h1, h2⟩ := vk_Sof (args := #[Value.ref b]) (s := s) (N := 18) (tm := fun i => Term.string "TaleCourt$Reader" (tIx.getD i 0)) (len := tLen) (byt := tByt) (A := lawA s) (by decide) (fun i hi => hs _ (tx_ex i hi)) (fun i hi => hs _ (tx_co i hi)) (fun i hi => hs _ (tx_ar i hi)) (fun i hi => hs _ (tx_le i hi)) (fun i hi j hj => hs _ (tx_el i hi j hj)) (fun i j hi hj hij => (tx_ne i hi j hj hij).imp (hs _) (hs _)) hA
  exact ⟨tk, tv, ⟨h1, va_Zof (hts _ (List.mem_of_getElem? (i := 575) (by decide +kernel))) (hts _ (List.mem_of_getElem? (i := 125) (by decide +kernel))) (va_eqt (hs _ (by decide +kernel))) hA, va_Zqof (hts _ (List.mem_of_getElem? (i := 591) (by decide +kernel))) (hts _ (List.mem_of_getElem? (i := 127) (by decide +kernel))) (hs _ (by decide +kernel)) hA⟩, fun i hi => vk_R.of (hts _ (tx_sr i hi)) (h2 i hi)⟩
theorem dL_0 : decode code 0 = .ok (.new 7, 3) := by decide +kernel
theorem dL_3 : decode code 3 = .ok (.dup, 1) := by decide +kernel
theorem dL_4 : decode code 4 = .ok (.invokespecial 9, 3) := by decide +kernel
theorem dL_7 : decode code 7 = .ok (.astore_n 1, 1) := by decide +kernel
theorem dL_8 : decode code 8 = .ok (.new 10, 3) := by decide +kernel
theorem dL_11 : decode code 11 = .ok (.dup, 1) := by decide +kernel
theorem dL_12 : decode code 12 = .ok (.invokespecial 12, 3) := by decide +kernel
theorem dL_15 : decode code 15 = .ok (.astore_n 2, 1) := by decide +kernel
theorem dL_16 : decode code 16 = .ok (.iconst 0, 1) := by decide +kernel
theorem dL_17 : decode code 17 = .ok (.istore_n 3, 1) := by decide +kernel
theorem dL_18 : decode code 18 = .ok (.iload_n 3, 1) := by decide +kernel
theorem dL_19 : decode code 19 = .ok (.aload_n 0, 1) := by decide +kernel
theorem dL_20 : decode code 20 = .ok (.arraylength, 1) := by decide +kernel
theorem dL_21 : decode code 21 = .ok (.bipush 6, 2) := by decide +kernel
theorem dL_23 : decode code 23 = .ok (.isub, 1) := by decide +kernel
theorem dL_24 : decode code 24 = .ok (.if_icmp .gt 1936, 3) := by decide +kernel
theorem dL_27 : decode code 27 = .ok (.aload_n 0, 1) := by decide +kernel
theorem dL_28 : decode code 28 = .ok (.iload_n 3, 1) := by decide +kernel
theorem dL_29 : decode code 29 = .ok (.iaload, 1) := by decide +kernel
theorem dL_30 : decode code 30 = .ok (.bipush 127, 2) := by decide +kernel
theorem dL_32 : decode code 32 = .ok (.iand, 1) := by decide +kernel
theorem dL_1954 : decode code 1954 = .ok (.iinc 3 6, 3) := by decide +kernel
theorem dL_1957 : decode code 1957 = .ok (.goto (-1939), 3) := by decide +kernel
theorem dL_1960 : decode code 1960 = .ok (.iconst 1, 1) := by decide +kernel
theorem dL_1961 : decode code 1961 = .ok (.ireturn, 1) := by decide +kernel
set_option maxRecDepth 100000 in
theorem lawend {p : Program} {l : Launch} {e : Env} {s : State} {m : MethodId} {below : List Frame} {meth : Method} {c : Code} {b L : Nat} {xs : Nat → Int32} {H : Heap} {locs : List Loc} {ls : Array Slot} {cells slots : Nat} (C0 : lw_At p s m meth c b L xs) (hS : va_S (lawA s) s.heap H locs) (hc : cells ≤ 600000 ∧ slots ≤ 7302250) : W p l e room_1 s m #[Value.ref b] below meth c H locs cells slots (lw_Z below #[Value.ref b] s) (F0 m 1960 ls []) := by
  obtain ⟨hx, hb, hr, hml, hown, hts, hX, hbl, hlocks, hgv⟩ := C0
  refine lv_iconst (v := 1) hx hb dL_1960 (by decide) ?_
  refine va_forget (fun q hq => hS.2.2 q hq) ?_
  refine W.widen (k := 600000) (n := 7302250) hc.1 hc.2 ?_
  exact lw_ret hx hb hr hlocks dL_1961
theorem YI_start : YI yv0 ya0 := by
  refine ⟨by unfold YF; decide +kernel, ⟨fun j => ?_, fun j => by show 0 ≤ ((0 : Int32)).toInt ∧ ((0 : Int32)).toInt ≤ 60; decide, fun j => ?_, fun j => by show 0 ≤ ((0 : Int32)).toInt ∧ ((0 : Int32)).toInt ≤ 9; decide, fun j => by show 0 ≤ ((0 : Int32)).toInt ∧ ((0 : Int32)).toInt ≤ 9; decide⟩, ⟨by decide, fun r hr => ⟨fun h => ?_, fun k hk => ?_⟩⟩⟩
  · show -1 ≤ (if j = 3 then (-1 : Int32) else if j = 2 then (-1 : Int32) else if j = 1 then (-1 : Int32) else if j = 0 then (-1 : Int32) else 0).toInt ∧ (if j = 3 then (-1 : Int32) else if j = 2 then (-1 : Int32) else if j = 1 then (-1 : Int32) else if j = 0 then (-1 : Int32) else 0).toInt ≤ 3
    by_cases h3 : j = 3
    · rw [if_pos h3]; decide
    · rw [if_neg h3]
      by_cases h2 : j = 2
      · rw [if_pos h2]; decide
      · rw [if_neg h2]
        by_cases h1 : j = 1
        · rw [if_pos h1]; decide
        · rw [if_neg h1]
          by_cases h0 : j = 0
          · rw [if_pos h0]; decide
          · rw [if_neg h0]; decide
  · have e : (ya0 7 j).toInt = 0 := by show ((0 : Int32)).toInt = 0; decide
    rw [e]; unfold hasB; omega
  · have e : ∀ p q, p ≠ 1 → (ya0 p q).toInt = 0 := fun p q hp => by unfold ya0; rw [if_neg hp]; decide
    rw [e 6 _ (by decide), e 7 _ (by decide), e 7 _ (by decide)] at h
    omega
  · have e : ((ya0 7 (6 * r + 5)).toInt).toNat = 0 := by show ((0 : Int32)).toInt.toNat = 0; decide
    rw [e] at hk
    exact absurd hk (Nat.not_lt_zero _)
theorem XI_start : XI xv0 := by unfold XI; decide +kernel
