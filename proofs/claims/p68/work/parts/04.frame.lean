theorem tb_good : ∀ w ∈ tbG, goodWord w = true := fun _ h => (List.mem_filter.mp h).2
def wM (y : MethodName) (b : ByteArray) (n : Nat) (r : Option FieldType) : List Cond := Cond.code y b n r :: tbG
theorem gM {y : MethodName} {b : ByteArray} {n : Nat} {r : Option FieldType} (h : Cond.code y b n r ∈ tbG) : GoodIn tbG (wM y b n r) := by
  intro w hw
  rcases List.mem_cons.mp hw with rfl | hw
  · exact ⟨h, good_of_word (tb_good _ h)⟩
  · exact ⟨hw, good_of_word (tb_good _ hw)⟩
theorem gV {own C : String} {idx : Nat} {y : MethodName} {b : ByteArray} {n : Nat} {r : Option FieldType} (h1 : Cond.methodLink own idx y ∈ tbG) (h2 : Cond.instanceMethod y ∈ tbG) (h3 : Cond.selects C y y ∈ tbG) (h4 : Cond.initialized C ∈ tbG) (h5 : Cond.code y b n r ∈ tbG) : GoodIn tbG (wsV own idx C y (wM y b n r)) := by
  intro w hw
  rcases List.mem_append.mp hw with hw | hw
  · simp only [List.mem_cons, List.not_mem_nil, or_false] at hw
    rcases hw with rfl | rfl | rfl | rfl
    · exact ⟨h1, good_of_word (tb_good _ h1)⟩
    · exact ⟨h2, good_of_word (tb_good _ h2)⟩
    · exact ⟨h3, good_of_word (tb_good _ h3)⟩
    · exact ⟨h4, good_of_word (tb_good _ h4)⟩
  · exact gM h5 w hw
theorem gS {own : String} {idx : Nat} {y : MethodName} {b : ByteArray} {n : Nat} {r : Option FieldType} (h1 : Cond.methodLink own idx y ∈ tbG) (h2 : Cond.static y ∈ tbG) (h4 : Cond.initialized y.cls ∈ tbG) (h5 : Cond.code y b n r ∈ tbG) : GoodIn tbG (va_wsS own idx y (wM y b n r)) := by
  intro w hw
  rcases List.mem_append.mp hw with hw | hw
  · simp only [List.mem_cons, List.not_mem_nil, or_false] at hw
    rcases hw with rfl | rfl | rfl
    · exact ⟨h1, good_of_word (tb_good _ h1)⟩
    · exact ⟨h2, good_of_word (tb_good _ h2)⟩
    · exact ⟨h4, good_of_word (tb_good _ h4)⟩
  · exact gM h5 w hw
/-! the world by places -/
def pw (ad : Nat → Nat) (f : Nat → va_E) (N : Nat) : va_W := (List.range N).map (fun i => (ad i, f i))
theorem pw_at {ad : Nat → Nat} {f : Nat → va_E} {N i : Nat} (h : i < N) : (pw ad f N)[i]? = some (ad i, f i) := by simp [pw, h]
theorem pw_set {ad : Nat → Nat} {f : Nat → va_E} {N i : Nat} {e : va_E} : (pw ad f N).set i (ad i, e) = pw ad (va_up f i e) N := by
  apply List.ext_getElem?
  intro j
  rw [List.getElem?_set]
  by_cases hj : i = j
  · subst hj
    by_cases hl : i < N
    · simp [pw, hl, va_up]
    · simp [pw, hl]
  · by_cases hl : j < N
    · rw [if_neg hj, pw_at hl, pw_at hl]
      simp [va_up, Ne.symm hj]
    · simp [pw, hl, hj]
def apart (ad : Nat → Nat) (N : Nat) : Prop := ∀ i j : Nat, i < N → j < N → ad i = ad j → i = j
def inW (ad : Nat → Nat) (N : Nat) : Nat → Prop := fun q => ∃ i : Nat, i < N ∧ q = ad i
theorem pw_lt {ad : Nat → Nat} {f : Nat → va_E} {N k : Nat} {q : Nat × va_E} (h : (pw ad f N)[k]? = some q) : k < N ∧ q = (ad k, f k) := by
  by_cases hl : k < N
  · rw [pw_at hl] at h
    exact ⟨hl, (Option.some.inj h).symm⟩
  · simp [pw, hl] at h
theorem pw_D {ad : Nat → Nat} {f : Nat → va_E} {N : Nat} {A : Nat → Prop} (h : apart ad N) (hA : ∀ i, i < N → A (ad i)) : va_D A (pw ad f N) := by
  refine ⟨fun i j p q hi hj e => ?_, fun k q hk => ?_⟩
  · obtain ⟨h1, rfl⟩ := pw_lt hi
    obtain ⟨h2, rfl⟩ := pw_lt hj
    exact h i j h1 h2 e
  · obtain ⟨h1, rfl⟩ := pw_lt hk
    exact hA k h1
abbrev gT : Type := Nat → (Nat → Int32) → (Nat → Int32) → (Nat → Int64) → va_E
abbrev sI : Type := Nat → Nat → Int32
abbrev sL : Type := Nat → Nat → Int64
def gF (G : gT) (v ar : sI) (al : sL) : Nat → va_E := fun i => G i (v i) (ar i) (al i)
def wW (ad : Nat → Nat) (G : gT) (N : Nat) (v ar : sI) (al : sL) : va_W := pw ad (gF G v ar al) N
def xty (K : Nat → ClassId) : List (ClassId × FieldType) := [(K 0, .int), (K 1, .long), (K 2, .byte), (K 3, .boolean), (K 4, .object "TaleCourt$Row"), (K 5, .object "TaleCourt$Image")]
abbrev xcl : List vw_C := [(RX0, TX0, 6), (RX1, TX1, 20), (RX2, TX2, 5), (RX3, TX3, 3), (RX4, TX4, 7), (RX5, TX5, 3), (RX6, TX6, 8), (RX7, TX7, 14), (RX8, TX8, 10), (RX9, TX9, 50)]
theorem wW_at {ad : Nat → Nat} {G : gT} {N i : Nat} {v ar : sI} {al : sL} {e : va_E} (h : i < N) (hf : G i (v i) (ar i) (al i) = e) : (wW ad G N v ar al)[i]? = some (ad i, e) := by
  subst hf
  exact pw_at h
theorem gF_v {G : gT} {v ar : sI} {al : sL} {i : Nat} {x : Nat → Int32} : gF G (va_up v i x) ar al = va_up (gF G v ar al) i (G i x (ar i) (al i)) := by
  funext j
  by_cases h : j = i
  · subst h; simp [gF, va_up]
  · simp [gF, va_up, h]
theorem gF_a {G : gT} {v ar : sI} {al : sL} {i : Nat} {x : Nat → Int32} : gF G v (va_up ar i x) al = va_up (gF G v ar al) i (G i (v i) x (al i)) := by
  funext j
  by_cases h : j = i
  · subst h; simp [gF, va_up]
  · simp [gF, va_up, h]
theorem gF_l {G : gT} {v ar : sI} {al : sL} {i : Nat} {x : Nat → Int64} : gF G v ar (va_up al i x) = va_up (gF G v ar al) i (G i (v i) (ar i) x) := by
  funext j
  by_cases h : j = i
  · subst h; simp [gF, va_up]
  · simp [gF, va_up, h]
theorem wW_v {ad : Nat → Nat} {G : gT} {N i : Nat} {v ar : sI} {al : sL} {x : Nat → Int32} {e : va_E} (h : G i x (ar i) (al i) = e) : (wW ad G N v ar al).set i (ad i, e) = wW ad G N (va_up v i x) ar al := by
  subst h
  unfold wW
  rw [pw_set, gF_v]
theorem wW_a {ad : Nat → Nat} {G : gT} {N i : Nat} {v ar : sI} {al : sL} {x : Nat → Int32} {e : va_E} (h : G i (v i) x (al i) = e) : (wW ad G N v ar al).set i (ad i, e) = wW ad G N v (va_up ar i x) al := by
  subst h
  unfold wW
  rw [pw_set, gF_a]
theorem wW_l {ad : Nat → Nat} {G : gT} {N i : Nat} {v ar : sI} {al : sL} {x : Nat → Int64} {e : va_E} (h : G i (v i) (ar i) x = e) : (wW ad G N v ar al).set i (ad i, e) = wW ad G N v ar (va_up al i x) := by
  subst h
  unfold wW
  rw [pw_set, gF_l]
def wPre (D : va_G) (K : Nat → ClassId) (ad : Nat → Nat) (G : gT) (N : Nat) (v ar : sI) (al : sL) (U : State) : Prop := va_P D xcl (wW ad G N v ar al) U.heap ∧ va_K D xcl (xty K) U ∧ apart ad N
abbrev sT : Type := sI × sI × sL
def wB (D : va_G) (ad : Nat → Nat) (G : gT) (N : Nat) (u : sT) (t : State) : Prop := va_P D xcl (wW ad G N u.1 u.2.1 u.2.2) t.heap
def rmD (d : Nat) : Room := { frames := d, cells := 0, slots := 0, locals := 64 * d }
theorem wPre_blind {D : va_G} {K : Nat → ClassId} {ad : Nat → Nat} {G : gT} {N : Nat} {v ar : sI} {al : sL} {av : List Value} : FrameBlind (va_Pc av (wPre D K ad G N v ar al)) := fun a U g mk q => ⟨q.1, q.2.1, va_K.moved (u := U) (U := U.calling g mk a) (Vm.Alike.refl U.vm) q.2.2.1, q.2.2.2⟩
theorem tt_blind {av : List Value} : FrameBlind (va_Pc av (fun _ => True)) := fun a U g mk q => ⟨q.1, trivial⟩
theorem x_met {l : Launch} {y : MethodName} {b : ByteArray} {n : Nat} {ret : Option FieldType} {rm : Room} {av : List Value} {Bp : State → Prop} {Qc : Array Value → State → Outcome → State → Prop} {mc ms : Nat} {free : Addr → Prop} (hy : plainName y.cls = true) (hlen : (lg_sl av).length ≤ n)
    (body : ∀ (p : Program) (e : Env) (s : State) (m : MethodId) (below : List Frame) (meth : Method) (c : Code) (ls : Array Slot), CallFix p m c b n s av.toArray tbG y.cls → meth.sig.returnType = ret → meth.locks = false → meth.name = y.name → Bp s → lv_has ls n (lv_args 0 av) → W p l e rm s m av.toArray below meth c s.heap [] 0 0 (MQ below Qc av.toArray s mc ms free) (F0 m 0 ls [])) : Met l y (wM y b n ret) rm (va_Pc av Bp) Qc mc ms free := by
  refine Met.ofW (cc := b) (maxL := n) (ret := ret) hy rfl ?_
  intro p e s m args below meth c s₁ B hml hv
  obtain ⟨rfl, hv⟩ := hv
  have hts := atoms_spec (ws := wM y b n ret) B.pre
  rw [lg_entry_eq]
  exact body p e s m below meth c _ ⟨B.exec, B.bytes, hml, findClass_of_methodNamed B.named, fun w hw => hts w (List.mem_cons_of_mem _ hw)⟩ B.returns B.notSynchronized (name_of_methodNamed B.named B.method).1 hv (lv_entry av hlen)
section XR
variable {p : Program} {l : Launch} {e : Env} {R : Room} {s : State} {m : MethodId} {args : Array Value} {below : List Frame} {meth : Method} {c : Code} {cc : ByteArray} {H : Heap} {locs : List Loc} {cells slots : Nat} {Q : State → Prop} {pc nL : Nat} {ls : Array Slot} {rest st : List Value} {D : va_G} {K : Nat → ClassId} {ad : Nat → Nat} {G : gT} {N : Nat} {v ar : sI} {al : sL} {own : String}
theorem wPre_now {s : State} {H : Heap} (hK : va_K D xcl (xty K) s) (hN : apart ad N) (hP : va_P D xcl (wW ad G N v ar al) H) (U : State) (h : U.heap = H) (hW : s.WarmedH U.vm) : wPre D K ad G N v ar al U := ⟨by rw [h]; exact hP, va_K.moved hW.alike hK, hN⟩
theorem x_get (hE : CallFix p m c cc nL s args tbG own) (hK : va_K D xcl (xty K) s) (hP : va_P D xcl (wW ad G N v ar al) H) (i : Nat) (hi : i < N) {ci : Nat} {fs : List Value} (hf : G i (v i) (ar i) (al i) = .inr (ci, fs)) {C : String} {T : u_T} {Nc : Nat} (hc : xcl[ci]? = some (C, T, Nc)) (hin : ∀ w ∈ u_ws C T Nc, w ∈ tbG) (k : Nat) (hk : k < Nc) {index : Nat} (hlink : Cond.fieldLink own index (T k).1 (T k).2.1 (T k).2.2.1 ∈ tbG) {x : Value} (hv : fs[k]? = some x) (hdg : decode cc pc = .ok (.getfield index, 3))
    (kk : W p l e R s m args below meth c H locs cells slots Q (F0 m (pc + 3) ls (x :: rest))) : W p l e R s m args below meth c H locs cells slots Q (F0 m pc ls (.ref (ad i) :: rest)) :=
  va_get hE.1 hE.2.1 hE.2.2.2.2 hin hE.2.2.2.1 hK hP i (wW_at hi hf) hc k hk (hE.2.2.2.2 _ hlink) (fun _ h => h) hv hdg kk
theorem x_put (hE : CallFix p m c cc nL s args tbG own) (hK : va_K D xcl (xty K) s) (hN : apart ad N) (hP : va_P D xcl (wW ad G N v ar al) H) (hS : va_S (inW ad N) s.heap H locs) (i : Nat) (hi : i < N) {ci : Nat} {fs : List Value} (hf : G i (v i) (ar i) (al i) = .inr (ci, fs)) {C : String} {T : u_T} {Nc : Nat} (hc : xcl[ci]? = some (C, T, Nc)) (hin : ∀ w ∈ u_ws C T Nc, w ∈ tbG) (ty0 : Nat → FieldType) (hty : ∀ k, k < Nc → parseFieldDescriptor (T k).2.2.1 = some (ty0 k)) (hnm : ∀ a, a < Nc → ∀ b, b < Nc → a ≠ b → (T a).2.1 ≠ (T b).2.1) (k : Nat) (hk : k < Nc) {index : Nat} (hlink : Cond.fieldLink own index (T k).1 (T k).2.1 (T k).2.2.1 ∈ tbG) (hfin : (T k).2.2.2 = false) {x : Int32} (hn : narrow (ty0 k) (.int x) = .int x) (hfit : fits (ty0 k) (.int x) = true) (hl : k < fs.length) (hg : G i (upd (v i) k x) (ar i) (al i) = .inr (ci, fs.set k (.int x))) (hdg : decode cc pc = .ok (.putfield index, 3))
    (kk : ∀ (v' : sI) (H1 : Heap) (locs1 : List Loc), v' = va_up v i (upd (v i) k x) → va_P D xcl (wW ad G N v' ar al) H1 → va_S (inW ad N) s.heap H1 locs1 → W p l e R s m args below meth c H1 locs1 cells slots Q (F0 m (pc + 3) ls rest)) : W p l e R s m args below meth c H locs cells slots Q (F0 m pc ls (.int x :: .ref (ad i) :: rest)) := by
  refine va_put hE.1 hE.2.1 hE.2.2.2.2 hin ty0 hty hnm hE.2.2.2.1 hK hP (pw_D hN (fun i hi => ⟨i, hi, rfl⟩)) hS i (wW_at hi hf) hc k hk (hE.2.2.2.2 _ hlink) (fun _ h => h) hfin (hty k hk) hn hfit hl hdg (fun H1 locs1 h1 _ h3 => ?_)
  rw [wW_v hg] at h1
  exact kk _ H1 locs1 rfl h1 h3
theorem x_iald (hE : CallFix p m c cc nL s args tbG own) (hK : va_K D xcl (xty K) s) (hP : va_P D xcl (wW ad G N v ar al) H) (i : Nat) (hi : i < N) {n : Nat} (hf : G i (v i) (ar i) (al i) = .inl (K 0, n, .inl (ar i))) {j : Int32} (hin : vp_in j n) (hdg : decode cc pc = .ok (.iaload, 1))
    (kk : W p l e R s m args below meth c H locs cells slots Q (F0 m (pc + 1) ls (.int (ar i j.toNatClampNeg) :: rest))) : W p l e R s m args below meth c H locs cells slots Q (F0 m pc ls (.int j :: .ref (ad i) :: rest)) :=
  va_iald hE.1 hE.2.1 hK hP i 0 (wW_at hi hf) rfl hin hdg kk
theorem x_bald (hE : CallFix p m c cc nL s args tbG own) (hK : va_K D xcl (xty K) s) (hP : va_P D xcl (wW ad G N v ar al) H) (i : Nat) (hi : i < N) {n : Nat} (hf : G i (v i) (ar i) (al i) = .inl (K 2, n, .inl (ar i))) {j : Int32} (hin : vp_in j n) (hdg : decode cc pc = .ok (.baload, 1))
    (kk : W p l e R s m args below meth c H locs cells slots Q (F0 m (pc + 1) ls (.int (ar i j.toNatClampNeg) :: rest))) : W p l e R s m args below meth c H locs cells slots Q (F0 m pc ls (.int j :: .ref (ad i) :: rest)) :=
  va_bald hE.1 hE.2.1 hK hP i 2 (wW_at hi hf) rfl hin hdg kk
theorem x_zald (hE : CallFix p m c cc nL s args tbG own) (hK : va_K D xcl (xty K) s) (hP : va_P D xcl (wW ad G N v ar al) H) (i : Nat) (hi : i < N) {n : Nat} (hf : G i (v i) (ar i) (al i) = .inl (K 3, n, .inl (ar i))) {j : Int32} (hin : vp_in j n) (hdg : decode cc pc = .ok (.baload, 1))
    (kk : W p l e R s m args below meth c H locs cells slots Q (F0 m (pc + 1) ls (.int (ar i j.toNatClampNeg) :: rest))) : W p l e R s m args below meth c H locs cells slots Q (F0 m pc ls (.int j :: .ref (ad i) :: rest)) :=
  va_zald hE.1 hE.2.1 hK hP i 3 (wW_at hi hf) rfl hin hdg kk
theorem x_lald (hE : CallFix p m c cc nL s args tbG own) (hK : va_K D xcl (xty K) s) (hP : va_P D xcl (wW ad G N v ar al) H) (i : Nat) (hi : i < N) {n : Nat} (hf : G i (v i) (ar i) (al i) = .inl (K 1, n, .inr (.inl (al i)))) {j : Int32} (hin : vp_in j n) (hdg : decode cc pc = .ok (.laload, 1))
    (kk : W p l e R s m args below meth c H locs cells slots Q (F0 m (pc + 1) ls (.long (al i j.toNatClampNeg) :: rest))) : W p l e R s m args below meth c H locs cells slots Q (F0 m pc ls (.int j :: .ref (ad i) :: rest)) :=
  va_lald hE.1 hE.2.1 hK hP i 1 (wW_at hi hf) rfl hin hdg kk
theorem x_alen (hE : CallFix p m c cc nL s args tbG own) (hK : va_K D xcl (xty K) s) (hP : va_P D xcl (wW ad G N v ar al) H) (i t0 : Nat) (hi : i < N) {cA : ClassId} {x : vp_A} (hf : G i (v i) (ar i) (al i) = .inl (cA, x)) {ty : FieldType} (ht : (xty K)[t0]? = some (cA, ty)) {w : Int32} (hv : Int32.ofNat x.1 = w) (hdg : decode cc pc = .ok (.arraylength, 1))
    (kk : W p l e R s m args below meth c H locs cells slots Q (F0 m (pc + 1) ls (.int w :: rest))) : W p l e R s m args below meth c H locs cells slots Q (F0 m pc ls (.ref (ad i) :: rest)) :=
  va_alen hE.1 hE.2.1 hK hP i t0 (wW_at hi hf) ht hv hdg kk
theorem x_iast (hE : CallFix p m c cc nL s args tbG own) (hK : va_K D xcl (xty K) s) (hN : apart ad N) (hP : va_P D xcl (wW ad G N v ar al) H) (hS : va_S (inW ad N) s.heap H locs) (i : Nat) (hi : i < N) {n : Nat} (hf : ∀ g : Nat → Int32, G i (v i) g (al i) = .inl (K 0, n, .inl g)) {j x : Int32} (hin : vp_in j n) (hdg : decode cc pc = .ok (.iastore, 1))
    (kk : ∀ (ar' : sI) (H1 : Heap) (locs1 : List Loc), ar' = va_up ar i (upd (ar i) j.toNatClampNeg x) → va_P D xcl (wW ad G N v ar' al) H1 → va_S (inW ad N) s.heap H1 locs1 → W p l e R s m args below meth c H1 locs1 cells slots Q (F0 m (pc + 1) ls rest)) : W p l e R s m args below meth c H locs cells slots Q (F0 m pc ls (.int x :: .int j :: .ref (ad i) :: rest)) := by
  refine va_iast hE.1 hE.2.1 hK hP (pw_D hN (fun i hi => ⟨i, hi, rfl⟩)) hS i 0 (wW_at hi (hf _)) rfl hin hdg (fun H1 locs1 h1 _ h3 => ?_)
  rw [wW_a (hf _)] at h1
  exact kk _ H1 locs1 rfl h1 h3
theorem x_bast (hE : CallFix p m c cc nL s args tbG own) (hK : va_K D xcl (xty K) s) (hN : apart ad N) (hP : va_P D xcl (wW ad G N v ar al) H) (hS : va_S (inW ad N) s.heap H locs) (i : Nat) (hi : i < N) {n : Nat} (hf : ∀ g : Nat → Int32, G i (v i) g (al i) = .inl (K 2, n, .inl g)) {j x : Int32} (hin : vp_in j n) (hdg : decode cc pc = .ok (.bastore, 1))
    (kk : ∀ (ar' : sI) (H1 : Heap) (locs1 : List Loc), ar' = va_up ar i (upd (ar i) j.toNatClampNeg (vp_nar .byte x)) → va_P D xcl (wW ad G N v ar' al) H1 → va_S (inW ad N) s.heap H1 locs1 → W p l e R s m args below meth c H1 locs1 cells slots Q (F0 m (pc + 1) ls rest)) : W p l e R s m args below meth c H locs cells slots Q (F0 m pc ls (.int x :: .int j :: .ref (ad i) :: rest)) := by
  refine va_bast hE.1 hE.2.1 hK hP (pw_D hN (fun i hi => ⟨i, hi, rfl⟩)) hS i 2 (wW_at hi (hf _)) rfl hin hdg (fun H1 locs1 h1 _ h3 => ?_)
  rw [wW_a (hf _)] at h1
  exact kk _ H1 locs1 rfl h1 h3
theorem x_last (hE : CallFix p m c cc nL s args tbG own) (hK : va_K D xcl (xty K) s) (hN : apart ad N) (hP : va_P D xcl (wW ad G N v ar al) H) (hS : va_S (inW ad N) s.heap H locs) (i : Nat) (hi : i < N) {n : Nat} (hf : ∀ g : Nat → Int64, G i (v i) (ar i) g = .inl (K 1, n, .inr (.inl g))) {j : Int32} {x : Int64} (hin : vp_in j n) (hdg : decode cc pc = .ok (.lastore, 1))
    (kk : ∀ (al' : sL) (H1 : Heap) (locs1 : List Loc), al' = va_up al i (vp_updL (al i) j.toNatClampNeg x) → va_P D xcl (wW ad G N v ar al') H1 → va_S (inW ad N) s.heap H1 locs1 → W p l e R s m args below meth c H1 locs1 cells slots Q (F0 m (pc + 1) ls rest)) : W p l e R s m args below meth c H locs cells slots Q (F0 m pc ls (.long x :: .int j :: .ref (ad i) :: rest)) := by
  refine va_last hE.1 hE.2.1 hK hP (pw_D hN (fun i hi => ⟨i, hi, rfl⟩)) hS i 1 (wW_at hi (hf _)) rfl hin hdg (fun H1 locs1 h1 _ h3 => ?_)
  rw [wW_l (hf _)] at h1
  exact kk _ H1 locs1 rfl h1 h3
theorem x_copyi (hE : CallFix p m c cc nL s args tbG own) (hls : ls.size = nL) (hK : va_K D xcl (xty K) s) (hN : apart ad N) (hP : va_P D xcl (wW ad G N v ar al) H) (hS : va_S (inW ad N) s.heap H locs) {index : Nat} (hlink : Cond.methodLink own index arraycopyName ∈ tbG) (hnat : Cond.native arraycopyName ∈ tbG) (hstat : Cond.static arraycopyName ∈ tbG) (hini : Cond.initialized "java/lang/System" ∈ tbG) (i k : Nat) (hi : i < N) (hk : k < N) {n0 n1 : Nat} (hf : G i (v i) (ar i) (al i) = .inl (K 0, n0, .inl (ar i))) (hg : ∀ g : Nat → Int32, G k (v k) g (al k) = .inl (K 0, n1, .inl g)) {sp dp n : Int32} (h1 : ¬ sp < 0) (h2 : ¬ dp < 0) (h3 : ¬ n < 0) (h4 : sp.toNatClampNeg + n.toNatClampNeg ≤ n0) (h5 : dp.toNatClampNeg + n.toNatClampNeg ≤ n1) (hfr : 1 ≤ R.frames) (hlo : (rest.map fun v => v.category).sum + (nativeFrameWords "java/lang/System" "arraycopy" 5 + 11) ≤ R.locals) (hdg : decode cc pc = .ok (.invokestatic index, 3))
    (kk : ∀ (ar' : sI) (H1 : Heap) (locs1 : List Loc), ar' = va_up ar k (va_cpy (ar i) (ar k) sp.toNatClampNeg dp.toNatClampNeg n.toNatClampNeg) → va_P D xcl (wW ad G N v ar' al) H1 → va_S (inW ad N) s.heap H1 locs1 → W p l e R s m args below meth c H1 locs1 cells slots Q (F0 m (pc + 3) ls rest)) : W p l e R s m args below meth c H locs cells slots Q (F0 m pc ls (.int n :: .int dp :: .ref (ad k) :: .int sp :: .ref (ad i) :: rest)) := by
  refine va_copyi hE.1 hE.2.1 (hE.2.2.1.trans hls.symm) hE.2.2.2.1 (hE.2.2.2.2 _ hlink) (hE.2.2.2.2 _ hnat) (hE.2.2.2.2 _ hstat) (hE.2.2.2.2 _ hini) hK hP (pw_D hN (fun i hi => ⟨i, hi, rfl⟩)) hS i k 0 0 (wW_at hi hf) (wW_at hk (hg _)) rfl rfl rfl h1 h2 h3 h4 h5 (fun _ _ => rfl) hfr hlo hdg (fun H1 locs1 a1 _ a3 => ?_)
  rw [wW_a (hg _)] at a1
  exact kk _ H1 locs1 rfl a1 a3
theorem x_recv (hK : va_K D xcl (xty K) s) (hP : va_P D xcl (wW ad G N v ar al) H) (i : Nat) (hi : i < N) {ci : Nat} {fs : List Value} (hf : G i (v i) (ar i) (al i) = .inr (ci, fs)) {q : vw_C} (hc : xcl[ci]? = some q) : ∃ cell : Cell, H[ad i]? = some cell ∧ cell.vm.isStatics = false ∧ s.vm.findClass q.1 = some cell.cls := va_recv hK hP hc (wW_at hi hf)
/-- a virtual call that leaves the heap as it was -/
theorem x_vp (hE : CallFix p m c cc nL s args tbG own) {y : MethodName} {b : ByteArray} {mL d idx nn a : Nat} {ret : Option FieldType} {As : List Value} {Bp : State → Prop} {post : Int32 → Prop} (hM : Met l y (wM y b mL ret) (rmD d) (va_Pc (.ref a :: As) Bp) (vp_Si post) 0 0 (fun _ => False)) (hbl : FrameBlind (va_Pc (.ref a :: As) Bp)) (hB : ∀ U : State, U.heap = H → s.WarmedH U.vm → Bp U) (hrecv : ∃ cell : Cell, H[a]? = some cell ∧ cell.vm.isStatics = false ∧ s.vm.findClass y.cls = some cell.cls) (hnn : As.length = nn) (h1 : Cond.methodLink own idx y ∈ tbG) (h2 : Cond.instanceMethod y ∈ tbG) (h3 : Cond.selects y.cls y y ∈ tbG) (h4 : Cond.initialized y.cls ∈ tbG) (h5 : Cond.code y b mL ret ∈ tbG) (hd : y.cls = y.cls ∧ y.cls ≠ "java/lang/invoke/MethodHandle" ∧ y.cls ≠ "java/lang/invoke/VarHandle" ∧ (parseMethodDescriptor y.desc).map (fun d => d.parameters.length) = some nn) (hR : d + 1 ≤ R.frames ∧ 8 + (mL + 11) + 64 * d ≤ R.locals) (hls : ls.size = nL) (hst : st = As.reverse ++ .ref a :: rest) (hw : (rest.map fun v => v.category).sum ≤ 8) (hcs : cells ≤ R.cells ∧ slots ≤ R.slots) (hdg : decode cc pc = .ok (.invokevirtual idx, 3))
    (kk : ∀ r : Int32, post r → W p l e R s m args below meth c H locs cells slots Q (F0 m (pc + 3) ls (.int r :: rest))) : W p l e R s m args below meth c H locs cells slots Q (F0 m pc ls st) := by
  refine vp_callSi (va_runV (As := As) (rest := rest) hE hM (cwV nn hE.2.2.2.2 (gV h1 h2 h3 h4 h5) rfl rfl rfl hd hR) ⟨hbl, hrecv, fun U hU hW => ⟨rfl, hB U hU hW⟩⟩ rfl hnn hls hst (lv_room hw) hdg hcs).run kk
/-- a static call that leaves the heap as it was -/
theorem x_sp (hE : CallFix p m c cc nL s args tbG own) {y : MethodName} {b : ByteArray} {mL d idx nn : Nat} {ret : Option FieldType} {As : List Value} {Bp : State → Prop} {post : Int32 → Prop} (hM : Met l y (wM y b mL ret) (rmD d) (va_Pc As Bp) (vp_Si post) 0 0 (fun _ => False)) (hbl : FrameBlind (va_Pc As Bp)) (hB : ∀ U : State, U.heap = H → s.WarmedH U.vm → Bp U) (hnn : As.length = nn) (h1 : Cond.methodLink own idx y ∈ tbG) (h2 : Cond.static y ∈ tbG) (h4 : Cond.initialized y.cls ∈ tbG) (h5 : Cond.code y b mL ret ∈ tbG) (hd : y.cls ≠ "java/lang/invoke/MethodHandle" ∧ y.cls ≠ "java/lang/invoke/VarHandle" ∧ (parseMethodDescriptor y.desc).map (fun d => d.parameters.length) = some nn) (hR : d + 1 ≤ R.frames ∧ 8 + (mL + 11) + 64 * d ≤ R.locals) (hls : ls.size = nL) (hst : st = As.reverse ++ rest) (hw : (rest.map fun v => v.category).sum ≤ 8) (hcs : cells ≤ R.cells ∧ slots ≤ R.slots) (hdg : decode cc pc = .ok (.invokestatic idx, 3))
    (kk : ∀ r : Int32, post r → W p l e R s m args below meth c H locs cells slots Q (F0 m (pc + 3) ls (.int r :: rest))) : W p l e R s m args below meth c H locs cells slots Q (F0 m pc ls st) := by
  refine vp_callSi (va_runS (As := As) (rest := rest) hE hM (va_cwS nn hE.2.2.2.2 (gS h1 h2 h4 h5) rfl rfl rfl hd hR) ⟨hbl, fun U hU hW => ⟨rfl, hB U hU hW⟩⟩ rfl hnn hls hst (lv_room hw) hdg hcs).run kk
/-- a virtual call of an int method that works in the world -/
theorem x_vi (hE : CallFix p m c cc nL s args tbG own) (hK : va_K D xcl (xty K) s) (hN : apart ad N) (hP : va_P D xcl (wW ad G N v ar al) H) (hS : va_S (inW ad N) s.heap H locs) {y : MethodName} {b : ByteArray} {mL d idx nn a : Nat} {ret : Option FieldType} {As : List Value} {post : Int32 → sT → Prop} (hM : Met l y (wM y b mL ret) (rmD d) (va_Pc (.ref a :: As) (wPre D K ad G N v ar al)) (va_Qi post (wB D ad G N) (inW ad N)) 0 0 (inW ad N)) (hrecv : ∃ cell : Cell, H[a]? = some cell ∧ cell.vm.isStatics = false ∧ s.vm.findClass y.cls = some cell.cls) (hnn : As.length = nn) (h1 : Cond.methodLink own idx y ∈ tbG) (h2 : Cond.instanceMethod y ∈ tbG) (h3 : Cond.selects y.cls y y ∈ tbG) (h4 : Cond.initialized y.cls ∈ tbG) (h5 : Cond.code y b mL ret ∈ tbG) (hd : y.cls = y.cls ∧ y.cls ≠ "java/lang/invoke/MethodHandle" ∧ y.cls ≠ "java/lang/invoke/VarHandle" ∧ (parseMethodDescriptor y.desc).map (fun d => d.parameters.length) = some nn) (hR : d + 1 ≤ R.frames ∧ 8 + (mL + 11) + 64 * d ≤ R.locals) (hls : ls.size = nL) (hst : st = As.reverse ++ .ref a :: rest) (hw : (rest.map fun v => v.category).sum ≤ 8) (hcs : cells ≤ R.cells ∧ slots ≤ R.slots) (hdg : decode cc pc = .ok (.invokevirtual idx, 3))
    (kk : ∀ (r : Int32) (v' ar' : sI) (al' : sL) (H1 : Heap) (locs1 : List Loc), post r (v', ar', al') → va_P D xcl (wW ad G N v' ar' al') H1 → va_S (inW ad N) s.heap H1 locs1 → W p l e R s m args below meth c H1 locs1 cells slots Q (F0 m (pc + 3) ls (.int r :: rest))) : W p l e R s m args below meth c H locs cells slots Q (F0 m pc ls st) := by
  refine va_calli (va_runV (As := As) (rest := rest) hE hM (cwV nn hE.2.2.2.2 (gV h1 h2 h3 h4 h5) rfl rfl rfl hd hR) ⟨wPre_blind, hrecv, fun U hU hW => ⟨rfl, wPre_now hK hN hP U hU hW⟩⟩ rfl hnn hls hst (lv_room hw) hdg hcs) hS (fun q _ h => h) (fun q h => h) (fun r u t H1 locs1 ht _ hp hB _ _ hS1 => ?_)
  exact kk r u.1 u.2.1 u.2.2 H1 locs1 hp (by rw [← ht]; exact hB) hS1
/-- a virtual call of a void method that works in the world -/
theorem x_vv (hE : CallFix p m c cc nL s args tbG own) (hK : va_K D xcl (xty K) s) (hN : apart ad N) (hP : va_P D xcl (wW ad G N v ar al) H) (hS : va_S (inW ad N) s.heap H locs) {y : MethodName} {b : ByteArray} {mL d idx nn a : Nat} {As : List Value} {post : sT → Prop} (hM : Met l y (wM y b mL none) (rmD d) (va_Pc (.ref a :: As) (wPre D K ad G N v ar al)) (va_Qv post (wB D ad G N) (inW ad N)) 0 0 (inW ad N)) (hrecv : ∃ cell : Cell, H[a]? = some cell ∧ cell.vm.isStatics = false ∧ s.vm.findClass y.cls = some cell.cls) (hnn : As.length = nn) (h1 : Cond.methodLink own idx y ∈ tbG) (h2 : Cond.instanceMethod y ∈ tbG) (h3 : Cond.selects y.cls y y ∈ tbG) (h4 : Cond.initialized y.cls ∈ tbG) (h5 : Cond.code y b mL none ∈ tbG) (hd : y.cls = y.cls ∧ y.cls ≠ "java/lang/invoke/MethodHandle" ∧ y.cls ≠ "java/lang/invoke/VarHandle" ∧ (parseMethodDescriptor y.desc).map (fun d => d.parameters.length) = some nn) (hR : d + 1 ≤ R.frames ∧ 8 + (mL + 11) + 64 * d ≤ R.locals) (hls : ls.size = nL) (hst : st = As.reverse ++ .ref a :: rest) (hw : (rest.map fun v => v.category).sum ≤ 8) (hcs : cells ≤ R.cells ∧ slots ≤ R.slots) (hdg : decode cc pc = .ok (.invokevirtual idx, 3))
    (kk : ∀ (v' ar' : sI) (al' : sL) (H1 : Heap) (locs1 : List Loc), post (v', ar', al') → va_P D xcl (wW ad G N v' ar' al') H1 → va_S (inW ad N) s.heap H1 locs1 → W p l e R s m args below meth c H1 locs1 cells slots Q (F0 m (pc + 3) ls rest)) : W p l e R s m args below meth c H locs cells slots Q (F0 m pc ls st) := by
  refine va_callv (va_runV (As := As) (rest := rest) hE hM (cwV nn hE.2.2.2.2 (gV h1 h2 h3 h4 h5) rfl rfl rfl hd hR) ⟨wPre_blind, hrecv, fun U hU hW => ⟨rfl, wPre_now hK hN hP U hU hW⟩⟩ rfl hnn hls hst (lv_room hw) hdg hcs) hS (fun q _ h => h) (fun q h => h) (fun u t H1 locs1 ht _ hp hB _ _ hS1 => ?_)
  exact kk u.1 u.2.1 u.2.2 H1 locs1 hp (by rw [← ht]; exact hB) hS1
/-- a static call of a void method that works in the world -/
theorem x_sv (hE : CallFix p m c cc nL s args tbG own) (hK : va_K D xcl (xty K) s) (hN : apart ad N) (hP : va_P D xcl (wW ad G N v ar al) H) (hS : va_S (inW ad N) s.heap H locs) {y : MethodName} {b : ByteArray} {mL d idx nn : Nat} {As : List Value} {post : sT → Prop} (hM : Met l y (wM y b mL none) (rmD d) (va_Pc As (wPre D K ad G N v ar al)) (va_Qv post (wB D ad G N) (inW ad N)) 0 0 (inW ad N)) (hnn : As.length = nn) (h1 : Cond.methodLink own idx y ∈ tbG) (h2 : Cond.static y ∈ tbG) (h4 : Cond.initialized y.cls ∈ tbG) (h5 : Cond.code y b mL none ∈ tbG) (hd : y.cls ≠ "java/lang/invoke/MethodHandle" ∧ y.cls ≠ "java/lang/invoke/VarHandle" ∧ (parseMethodDescriptor y.desc).map (fun d => d.parameters.length) = some nn) (hR : d + 1 ≤ R.frames ∧ 8 + (mL + 11) + 64 * d ≤ R.locals) (hls : ls.size = nL) (hst : st = As.reverse ++ rest) (hw : (rest.map fun v => v.category).sum ≤ 8) (hcs : cells ≤ R.cells ∧ slots ≤ R.slots) (hdg : decode cc pc = .ok (.invokestatic idx, 3))
    (kk : ∀ (v' ar' : sI) (al' : sL) (H1 : Heap) (locs1 : List Loc), post (v', ar', al') → va_P D xcl (wW ad G N v' ar' al') H1 → va_S (inW ad N) s.heap H1 locs1 → W p l e R s m args below meth c H1 locs1 cells slots Q (F0 m (pc + 3) ls rest)) : W p l e R s m args below meth c H locs cells slots Q (F0 m pc ls st) := by
  refine va_callv (va_runS (As := As) (rest := rest) hE hM (va_cwS nn hE.2.2.2.2 (gS h1 h2 h4 h5) rfl rfl rfl hd hR) ⟨wPre_blind, fun U hU hW => ⟨rfl, wPre_now hK hN hP U hU hW⟩⟩ rfl hnn hls hst (lv_room hw) hdg hcs) hS (fun q _ h => h) (fun q h => h) (fun u t H1 locs1 ht _ hp hB _ _ hS1 => ?_)
  exact kk u.1 u.2.1 u.2.2 H1 locs1 hp (by rw [← ht]; exact hB) hS1
/-- the ends -/
theorem x_ri (hE : CallFix p m c cc nL s args tbG own) {ty : FieldType} (hr : meth.sig.returnType = some ty) (hlo : meth.locks = false) {post : Int32 → Prop} {x : Int32} (hn : narrow ty (.int x) = .int x) (hp : post x) (hdg : decode cc pc = .ok (.ireturn, 1)) : W p l e R s m args below meth c s.heap [] 0 0 (MQ below (vp_Si post) args s 0 0 (fun _ => False)) (F0 m pc ls [.int x]) :=
  W.zret hE.1 hE.2.1 hr hn (fun t ht _ => ⟨x, rfl, hp, ht⟩) (fun _ h => absurd h List.not_mem_nil) hdg hlo
theorem x_wi (hE : CallFix p m c cc nL s args tbG own) {ty : FieldType} (hr : meth.sig.returnType = some ty) (hlo : meth.locks = false) (hP : va_P D xcl (wW ad G N v ar al) H) (hS : va_S (inW ad N) s.heap H locs) {post : Int32 → sT → Prop} {x : Int32} (hn : narrow ty (.int x) = .int x) (hp : post x (v, ar, al)) (hdg : decode cc pc = .ok (.ireturn, 1)) : W p l e R s m args below meth c H locs 0 0 (MQ below (va_Qi post (wB D ad G N) (inW ad N)) args s 0 0 (inW ad N)) (F0 m pc ls [.int x]) :=
  W.zret hE.1 hE.2.1 hr hn (fun t ht _ => ⟨⟨x, (v, ar, al), rfl, hp, by show va_P _ _ _ t.heap; rw [ht]; exact hP⟩, hS.F ht⟩) hS.2.2 hdg hlo
theorem x_wv (hE : CallFix p m c cc nL s args tbG own) (hr : meth.sig.returnType = none) (hlo : meth.locks = false) (hP : va_P D xcl (wW ad G N v ar al) H) (hS : va_S (inW ad N) s.heap H locs) {post : sT → Prop} (hp : post (v, ar, al)) (hdg : decode cc pc = .ok (.return_, 1)) : W p l e R s m args below meth c H locs 0 0 (MQ below (va_Qv post (wB D ad G N) (inW ad N)) args s 0 0 (inW ad N)) (F0 m pc ls []) :=
  W.vret hE.1 hE.2.1 hr (fun t ht _ => ⟨⟨(v, ar, al), rfl, hp, by show va_P _ _ _ t.heap; rw [ht]; exact hP⟩, hS.F ht⟩) hS.2.2 hdg hlo
end XR
