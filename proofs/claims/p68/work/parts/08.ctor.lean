theorem P_mem {D : va_G} {cl : List vw_C} {ws : va_W} {H : Heap} : va_P D cl ws H ↔ ∀ q ∈ ws, va_at D cl q H :=
  ⟨fun h q hq => by obtain ⟨k, hk⟩ := List.mem_iff_getElem?.mp hq; exact h k q hk, fun h k q hk => h q (List.mem_of_getElem? hk)⟩
theorem P_perm {D : va_G} {cl : List vw_C} {ws ws' : va_W} {H : Heap} (h : va_P D cl ws H) (hp : ws.Perm ws') : va_P D cl ws' H := P_mem.mpr (fun q hq => P_mem.mp h q (hp.mem_iff.mpr hq))
theorem D_iff {A : Nat → Prop} {ws : va_W} : va_D A ws ↔ (ws.map Prod.fst).Pairwise (fun a b => a ≠ b) ∧ ∀ q ∈ ws, A q.1 := by
  constructor
  · intro h
    refine ⟨?_, fun q hq => ?_⟩
    · rw [List.pairwise_iff_getElem]
      intro i j hi hj hij he
      simp only [List.length_map] at hi hj
      simp only [List.getElem_map] at he
      have := h.1 i j _ _ (List.getElem?_eq_getElem hi) (List.getElem?_eq_getElem hj) he
      omega
    · obtain ⟨k, hk⟩ := List.mem_iff_getElem?.mp hq
      exact h.2 k q hk
  · intro h
    refine ⟨fun i j x y hi hj he => ?_, fun k q hk => h.2 q (List.mem_of_getElem? hk)⟩
    obtain ⟨hi', rfl⟩ := List.getElem?_eq_some_iff.mp hi
    obtain ⟨hj', rfl⟩ := List.getElem?_eq_some_iff.mp hj
    have hpw := List.pairwise_iff_getElem.mp h.1
    rcases Nat.lt_trichotomy i j with q | q | q
    · exact absurd (by rw [List.getElem_map, List.getElem_map]; exact he) (hpw i j (by simpa using hi') (by simpa using hj') q)
    · exact q
    · exact absurd (by rw [List.getElem_map, List.getElem_map]; exact he.symm) (hpw j i (by simpa using hj') (by simpa using hi') q)
theorem D_perm {A : Nat → Prop} {ws ws' : va_W} (h : va_D A ws) (hp : ws.Perm ws') : va_D A ws' := by
  rw [D_iff] at h ⊢
  refine ⟨?_, fun q hq => h.2 q (hp.mem_iff.mpr hq)⟩
  exact ((hp.map Prod.fst).pairwise_iff (fun {a b} h => Ne.symm h)).mp h.1
theorem ra_inj {U : State} {c1 c2 : ClassId} {ty : FieldType} (h1 : va_RA U c1 ty) (h2 : va_RA U c2 ty) : c1 = c2 := by
  cases ty with
  | object C =>
    obtain ⟨_, _, _, _, _, a⟩ := h1
    obtain ⟨_, _, _, _, _, b⟩ := h2
    exact Option.some.inj (a.symm.trans b)
  | _ =>
    have a : U.vm.findClass _ = some c1 := h1
    have b : U.vm.findClass _ = some c2 := h2
    exact Option.some.inj (a.symm.trans b)
theorem join_app {A0 : Nat → Prop} {D : va_G} {cl : List vw_C} {ws w1 : va_W} {q : Nat} {e : va_E} {H H1 : Heap} (hP : va_P D cl (ws ++ [(q, e)]) H) (hD : va_D A0 (ws ++ [(q, e)])) (hk : ∀ x : Nat, x < H.size → ¬ va_A [(q, e)] H.size x → H1[x]? = H[x]?) (hF : ∀ x, va_A [(q, e)] H.size x → A0 x) (hP1 : va_P D cl w1 H1) (hD1 : va_D (va_A [(q, e)] H.size) w1) : va_P D cl (ws ++ w1) H1 ∧ va_D A0 (ws ++ w1) := by
  have hat : ∀ (k : Nat) (x : Nat × va_E), ws[k]? = some x → (ws ++ [(q, e)])[k]? = some x := fun k x hx => by
    rw [List.getElem?_append_left (List.getElem?_eq_some_iff.mp hx).1]; exact hx
  have ap : ∀ (k : Nat) (x : Nat × va_E), ws[k]? = some x → x.1 < H.size ∧ ¬ va_A [(q, e)] H.size x.1 := by
    intro k x hx
    have hl := (hP k x (hat k x hx)).lt
    refine ⟨hl, fun h => ?_⟩
    rcases h with ⟨k2, e2, h⟩ | h
    · have h2 : k2 < 1 := (List.getElem?_eq_some_iff.mp h).1
      rw [show k2 = 0 by omega] at h
      have h3 : x.1 = q := by cases h; rfl
      have h4 := hD.1 k ws.length x (q, e) (hat k x hx) (by simp) h3
      have h5 := (List.getElem?_eq_some_iff.mp hx).1
      omega
    · omega
  have hDw : va_D A0 ws := ⟨fun i j x y hi hj he => hD.1 i j x y (hat i x hi) (hat j y hj) he, fun k x hx => hD.2 k x (hat k x hx)⟩
  refine ⟨va_P.app (fun k x hx => (hP k x (hat k x hx)).kept (hk x.1 (ap k x hx).1 (ap k x hx).2)) hP1, va_D.app hDw (hD1.weaken (fun k x _ h => hF x.1 h)) (fun i j x y hx hy hxy => ?_)⟩
  exact (ap i x hx).2 (by rw [hxy]; exact hD1.2 j y hy)
def nPre (U : State) : Prop := va_Nw (.methodLinkNest "TaleCourt" 11 ⟨"TaleCourt$Reader", "<init>", "()V"⟩ "TaleCourt") U ∧ va_Nw (.methodLinkNest "TaleCourt" 18 ⟨"TaleCourt$Court", "<init>", "()V"⟩ "TaleCourt") U ∧ va_Nw (.methodLinkNest "TaleCourt" 40 ⟨"TaleCourt$Claims", "<init>", "()V"⟩ "TaleCourt") U ∧ va_Nw (.methodLinkNest "TaleCourt" 73 ⟨"TaleCourt$Row", "<init>", "()V"⟩ "TaleCourt") U ∧ va_Nw (.methodLinkNest "TaleCourt" 74 ⟨"TaleCourt$Image", "<init>", "()V"⟩ "TaleCourt") U ∧ va_Nw (.methodLinkNest "TaleCourt$Image" 9 ⟨"TaleCourt$Court", "<init>", "()V"⟩ "TaleCourt") U ∧ va_AO "TaleCourt$Row" U ∧ va_AO "TaleCourt$Image" U
theorem nPre.warm {s U : State} (h : nPre s) (hW : s.WarmedH U.vm) : nPre U :=
  ⟨va_Nw.warmM hW h.1, va_Nw.warmM hW h.2.1, va_Nw.warmM hW h.2.2.1, va_Nw.warmM hW h.2.2.2.1, va_Nw.warmM hW h.2.2.2.2.1, va_Nw.warmM hW h.2.2.2.2.2.1, va_AO.moved hW.alike h.2.2.2.2.2.2.1, va_AO.moved hW.alike h.2.2.2.2.2.2.2⟩
theorem nPre.same {s U : State} (h : nPre s) (hW : s.vm = U.vm) : nPre U :=
  ⟨va_Nw.same rfl hW h.1, va_Nw.same rfl hW h.2.1, va_Nw.same rfl hW h.2.2.1, va_Nw.same rfl hW h.2.2.2.1, va_Nw.same rfl hW h.2.2.2.2.1, va_Nw.same rfl hW h.2.2.2.2.2.1, va_AO.moved (hW ▸ Vm.Alike.refl s.vm) h.2.2.2.2.2.2.1, va_AO.moved (hW ▸ Vm.Alike.refl s.vm) h.2.2.2.2.2.2.2⟩
def cPre (D : va_G) (K : Nat → ClassId) (q sz : Nat) (e : va_E) (U : State) : Prop := U.heap.size = sz ∧ va_P D xcl [(q, e)] U.heap ∧ va_K D xcl (xty K) U ∧ nPre U
def cB (D : va_G) (A : Nat → Prop) (blk : (Nat → Nat) → va_W) (a : Nat → Nat) (t : State) : Prop := va_P D xcl (blk a) t.heap ∧ va_D A (blk a)
def rmC (d mc ms : Nat) : Room := { frames := d, cells := mc, slots := ms, locals := 64 * d }
theorem cPre_blind {D : va_G} {K : Nat → ClassId} {q sz : Nat} {e : va_E} {av : List Value} : FrameBlind (va_Pc av (cPre D K q sz e)) := fun a U g mk h => ⟨h.1, h.2.1, h.2.2.1, va_K.moved (u := U) (U := U.calling g mk a) (Vm.Alike.refl U.vm) h.2.2.2.1, nPre.same h.2.2.2.2 rfl⟩
theorem x_cmet {l : Launch} {y : MethodName} {b : ByteArray} {n : Nat} {rm : Room} {As : List Value} {D : va_G} {K : Nat → ClassId} {q sz : Nat} {e0 : va_E} {blk : (Nat → Nat) → va_W} {mc ms : Nat} (hy : plainName y.cls = true) (hyn : y.name = "<init>") (hlen : (lg_sl (.ref q :: As)).length ≤ n)
    (body : ∀ (p : Program) (e : Env) (s : State) (m : MethodId) (below : List Frame) (meth : Method) (c : Code) (ls : Array Slot) (A : Nat → Prop), CallFix p m c b n s (.ref q :: As).toArray tbG y.cls → meth.sig.returnType = none → meth.locks = false → meth.name = "<init>" → va_P D xcl [(q, e0)] s.heap → va_D A [(q, e0)] → va_S A s.heap s.heap [] → (∀ x : Nat, s.heap.size ≤ x → A x) → va_K D xcl (xty K) s → nPre s → lv_has ls n (lv_args 0 (.ref q :: As)) →
      (∀ (a : Nat → Nat) (pc : Nat) (ls : Array Slot) (H : Heap) (locs : List Loc) (k z : Nat), k ≤ mc → z ≤ ms → a 0 = q → va_P D xcl (blk a) H → va_D A (blk a) → va_S A s.heap H locs → decode b pc = .ok (.return_, 1) → W p l e rm s m (.ref q :: As).toArray below meth c H locs k z (MQ below (va_Qv (fun a : Nat → Nat => a 0 = q) (cB D (va_A [(q, e0)] sz) blk) (va_A [(q, e0)] sz)) (.ref q :: As).toArray s mc ms (va_A [(q, e0)] sz)) (F0 m pc ls [])) →
      W p l e rm s m (.ref q :: As).toArray below meth c s.heap [] 0 0 (MQ below (va_Qv (fun a : Nat → Nat => a 0 = q) (cB D (va_A [(q, e0)] sz) blk) (va_A [(q, e0)] sz)) (.ref q :: As).toArray s mc ms (va_A [(q, e0)] sz)) (F0 m 0 ls [])) :
    Met l y (wM y b n none) rm (va_Pc (.ref q :: As) (cPre D K q sz e0)) (va_Qv (fun a : Nat → Nat => a 0 = q) (cB D (va_A [(q, e0)] sz) blk) (va_A [(q, e0)] sz)) mc ms (va_A [(q, e0)] sz) := by
  refine x_met hy hlen ?_
  intro p e s m below meth c ls hE hr hlo hnm hB hl
  obtain ⟨hsz, hP, hK, hn⟩ := hB
  subst hsz
  have hD0 : va_D (fun _ => True) [(q, e0)] := ⟨fun i j x y hi hj _ => by
    have h1 := (List.getElem?_eq_some_iff.mp hi).1
    have h2 := (List.getElem?_eq_some_iff.mp hj).1
    simp only [List.length_cons, List.length_nil] at h1 h2
    omega, fun _ _ _ => trivial⟩
  refine body p e s m below meth c ls (va_A [(q, e0)] s.heap.size) hE hr hlo (hnm.trans hyn) hP hD0.self va_S.rf (fun x h => Or.inr h) hK hn hl ?_
  intro a pc ls H locs k z hk hz ha hP hD hS hdg
  refine W.widen (k := mc) (n := ms) hk hz ?_
  exact W.vret hE.1 hE.2.1 hr (fun t ht _ => ⟨⟨a, rfl, ha, by rw [ht]; exact hP, hD⟩, hS.F ht⟩) hS.2.2 hdg hlo
section XC
variable {p : Program} {l : Launch} {e : Env} {R : Room} {s : State} {m : MethodId} {args : Array Value} {below : List Frame} {meth : Method} {c : Code} {cc : ByteArray} {H : Heap} {locs : List Loc} {cells slots : Nat} {Q : State → Prop} {pc nL : Nat} {ls : Array Slot} {rest st : List Value} {D : va_G} {K : Nat → ClassId} {own : String} {A : Nat → Prop} {ws : va_W}
theorem x_newa (hE : CallFix p m c cc nL s args tbG own) {atype : ArrayType} {ty : FieldType} (harr : Cond.arrayClass (newarray.typeOf atype) ∈ tbG) (hty : newarray.typeOf atype = ty) (hK : va_K D xcl (xty K) s) (t0 : Nat) {cA : ClassId} (ht : (xty K)[t0]? = some (cA, ty)) (hP : va_P D xcl ws H) (hD : va_D A ws) (hS : va_S A s.heap H locs) (hA : ∀ q, s.heap.size ≤ q → A q) {n : Int32} {N' : Nat} {a0 : vp_A} (ha : ∀ cA : ClassId, vp_cell cA a0 = arrV cA N' (fun _ => defaultValue ty)) (hn : ¬ n < 0) (hN : n.toNatClampNeg = N') (hbytes : N' * componentBytes ty ≤ 536870912) {k z : Nat} (hk : cells + 1 = k) (hz : slots + N' = z) (hcells : k ≤ R.cells) (hslots : z ≤ R.slots) (hdg : decode cc pc = .ok (.newarray atype, 2))
    (kk : ∀ (q : Nat) (H1 : Heap), va_P D xcl (ws ++ [(q, .inl (cA, a0))]) H1 → va_D A (ws ++ [(q, .inl (cA, a0))]) → va_S A s.heap H1 locs → W p l e R s m args below meth c H1 locs k z Q (F0 m (pc + 2) ls (.ref q :: rest))) : W p l e R s m args below meth c H locs cells slots Q (F0 m pc ls (.int n :: rest)) := by
  subst hk; subst hz
  refine va_newa (a0 := a0) hE.1 hE.2.1 (hE.2.2.2.2 _ harr) hty hK hP hD hS hA ha hn hN hbytes hcells hslots hdg (fun q cB H1 hK1 hP1 hD1 hS1 => ?_)
  have h1 := (hK.2 t0 _ ht).2
  have h2 := (hK1.2 (xty K).length (cB, ty) (by simp)).2
  have h3 : cB = cA := ra_inj h2 h1
  subst h3
  exact kk q H1 hP1 hD1 hS1
theorem x_newq (hE : CallFix p m c cc nL s args tbG own) {C : String} {index : Nat} (hcl : Cond.classLink own index C ∈ tbG) (hover : va_AO C s) (hK : va_K D xcl (xty K) s) (t0 : Nat) {cA : ClassId} (ht : (xty K)[t0]? = some (cA, .object C)) (hP : va_P D xcl ws H) (hD : va_D A ws) (hS : va_S A s.heap H locs) (hA : ∀ q, s.heap.size ≤ q → A q) {n : Int32} {N' : Nat} (hn : ¬ n < 0) (hN : n.toNatClampNeg = N') (hbytes : N' * 4 ≤ 536870912) {k z : Nat} (hk : cells + 1 = k) (hz : slots + N' = z) (hcells : k ≤ R.cells) (hslots : z ≤ R.slots) (hdg : decode cc pc = .ok (.anewarray index, 3))
    (kk : ∀ (q : Nat) (H1 : Heap), va_P D xcl (ws ++ [(q, .inl (cA, N', .inr (.inr (.inr (.inr (fun _ => none))))))]) H1 → va_D A (ws ++ [(q, .inl (cA, N', .inr (.inr (.inr (.inr (fun _ => none))))))]) → va_S A s.heap H1 locs → W p l e R s m args below meth c H1 locs k z Q (F0 m (pc + 3) ls (.ref q :: rest))) : W p l e R s m args below meth c H locs cells slots Q (F0 m pc ls (.int n :: rest)) := by
  subst hk; subst hz
  refine va_newq hE.1 hE.2.1 hE.2.2.2.1 (hE.2.2.2.2 _ hcl) hover hK hP hD hS hA hn hN hbytes hcells hslots hdg (fun q cB H1 hK1 hP1 hD1 hS1 => ?_)
  have h1 := (hK.2 t0 _ ht).2
  have h2 := (hK1.2 (xty K).length (cB, .object C) (by simp)).2
  have h3 : cB = cA := ra_inj h2 h1
  subst h3
  exact kk q H1 hP1 hD1 hS1
theorem x_newo (hE : CallFix p m c cc nL s args tbG own) {C : String} {T : u_T} {N ci index : Nat} (hin : ∀ w ∈ u_ws C T N, w ∈ tbG) (ty : Nat → FieldType) (hty : ∀ k, k < N → parseFieldDescriptor (T k).2.2.1 = some (ty k)) (hcl : Cond.classLink own index C ∈ tbG) (hinst : Cond.instantiable C N ∈ tbG) (hini : Cond.initialized C ∈ tbG) (hK : va_K D xcl (xty K) s) (hP : va_P D xcl ws H) (hD : va_D A ws) (hS : va_S A s.heap H locs) (hA : ∀ q, s.heap.size ≤ q → A q) (hc : xcl[ci]? = some (C, T, N)) {fs : List Value} (hfs : ∀ j, j < N → defaultValue (ty j) = vp_V fs j) {k z : Nat} (hk : cells + 1 = k) (hz : slots + N = z) (hcells : k ≤ R.cells) (hslots : z ≤ R.slots) (hdg : decode cc pc = .ok (.new index, 3))
    (kk : ∀ (q : Nat) (H1 : Heap), va_P D xcl (ws ++ [(q, .inr (ci, fs))]) H1 → va_D A (ws ++ [(q, .inr (ci, fs))]) → va_S A s.heap H1 locs → W p l e R s m args below meth c H1 locs k z Q (F0 m (pc + 3) ls (.ref q :: rest))) : W p l e R s m args below meth c H locs cells slots Q (F0 m pc ls rest) := by
  subst hk; subst hz
  exact va_new (ci := ci) (fs := fs) hE.1 hE.2.1 hE.2.2.2.2 hin ty hty hE.2.2.2.1 (hE.2.2.2.2 _ hcl) (hE.2.2.2.2 _ hinst) (hE.2.2.2.2 _ hini) hK hP hD hS hA hc hfs hcells hslots hdg kk
theorem x_oinit (hE : CallFix p m c cc nL s args tbG own) {idx : Nat} (hlink : Cond.methodLink own idx objectInit ∈ tbG) (hinst : Cond.instanceMethod objectInit ∈ tbG) (hcode : Cond.code objectInit ⟨#[0xb1]⟩ 1 none ∈ tbG) {a : Nat} (hls : ls.size = nL) (hd : decode cc pc = .ok (.invokespecial idx, 3)) (hfr : 1 ≤ R.frames) (hlo : (rest.map fun v => v.category).sum + 12 ≤ R.locals) (kk : W p l e R s m args below meth c H locs cells slots Q (F0 m (pc + 3) ls rest)) : W p l e R s m args below meth c H locs cells slots Q (F0 m pc ls (.ref a :: rest)) :=
  W.objInit hE.1 hE.2.1 hE.2.2.2.1 (hE.2.2.2.2 _ hlink) (hE.2.2.2.2 _ hinst) (hE.2.2.2.2 _ hcode) rfl (by rw [hE.2.2.1]; exact hls) rfl hd hfr (by show 2 * 0 + _ + 12 ≤ _; omega) kk
/-- a put of a final field, in a constructor; the object stands first -/
theorem x_putF (hE : CallFix p m c cc nL s args tbG own) (hinn : meth.name = "<init>") (hK : va_K D xcl (xty K) s) {q ci : Nat} {fs : List Value} (hP : va_P D xcl ((q, .inr (ci, fs)) :: ws) H) (hD : va_D A ((q, .inr (ci, fs)) :: ws)) (hS : va_S A s.heap H locs) {C : String} {T : u_T} {Nc : Nat} (hc : xcl[ci]? = some (C, T, Nc)) (hin : ∀ w ∈ u_ws C T Nc, w ∈ tbG) (ty0 : Nat → FieldType) (hty : ∀ k, k < Nc → parseFieldDescriptor (T k).2.2.1 = some (ty0 k)) (hnm : ∀ a, a < Nc → ∀ b, b < Nc → a ≠ b → (T a).2.1 ≠ (T b).2.1) (k : Nat) (hk : k < Nc) {index : Nat} (hlink : Cond.fieldLink own index (T k).1 (T k).2.1 (T k).2.2.1 ∈ tbG) (hfin : (T k).2.2.2 = true) (hdecl : (T k).1 = own) {v : Value} (hn : narrow (ty0 k) v = v) (hfit : fits (ty0 k) v = true) (hl : k < fs.length) {fs' : List Value} (hfs : fs.set k v = fs') (hdg : decode cc pc = .ok (.putfield index, 3))
    (kk : ∀ (H1 : Heap) (locs1 : List Loc), va_P D xcl ((q, .inr (ci, fs')) :: ws) H1 → va_D A ((q, .inr (ci, fs')) :: ws) → va_S A s.heap H1 locs1 → W p l e R s m args below meth c H1 locs1 cells slots Q (F0 m (pc + 3) ls rest)) : W p l e R s m args below meth c H locs cells slots Q (F0 m pc ls (v :: .ref q :: rest)) := by
  subst hfs
  exact va_putF hE.1 hE.2.1 hE.2.2.2.2 hin ty0 hty hnm hE.2.2.2.1 hK hP hD hS 0 rfl hc k hk (hE.2.2.2.2 _ hlink) (fun _ h => h) hfin hinn hdecl (hty k hk) hn hfit hl hdg kk
/-- a put of a field that is not final -/
theorem x_putN (hE : CallFix p m c cc nL s args tbG own) (hK : va_K D xcl (xty K) s) {q ci : Nat} {fs : List Value} (hP : va_P D xcl ((q, .inr (ci, fs)) :: ws) H) (hD : va_D A ((q, .inr (ci, fs)) :: ws)) (hS : va_S A s.heap H locs) {C : String} {T : u_T} {Nc : Nat} (hc : xcl[ci]? = some (C, T, Nc)) (hin : ∀ w ∈ u_ws C T Nc, w ∈ tbG) (ty0 : Nat → FieldType) (hty : ∀ k, k < Nc → parseFieldDescriptor (T k).2.2.1 = some (ty0 k)) (hnm : ∀ a, a < Nc → ∀ b, b < Nc → a ≠ b → (T a).2.1 ≠ (T b).2.1) (k : Nat) (hk : k < Nc) {index : Nat} (hlink : Cond.fieldLink own index (T k).1 (T k).2.1 (T k).2.2.1 ∈ tbG) (hfin : (T k).2.2.2 = false) {v : Value} (hn : narrow (ty0 k) v = v) (hfit : fits (ty0 k) v = true) (hl : k < fs.length) {fs' : List Value} (hfs : fs.set k v = fs') (hdg : decode cc pc = .ok (.putfield index, 3))
    (kk : ∀ (H1 : Heap) (locs1 : List Loc), va_P D xcl ((q, .inr (ci, fs')) :: ws) H1 → va_D A ((q, .inr (ci, fs')) :: ws) → va_S A s.heap H1 locs1 → W p l e R s m args below meth c H1 locs1 cells slots Q (F0 m (pc + 3) ls rest)) : W p l e R s m args below meth c H locs cells slots Q (F0 m pc ls (v :: .ref q :: rest)) := by
  subst hfs
  exact va_put hE.1 hE.2.1 hE.2.2.2.2 hin ty0 hty hnm hE.2.2.2.1 hK hP hD hS 0 rfl hc k hk (hE.2.2.2.2 _ hlink) (fun _ h => h) hfin (hty k hk) hn hfit hl hdg kk
theorem x_getN (hE : CallFix p m c cc nL s args tbG own) (hK : va_K D xcl (xty K) s) {q ci : Nat} {fs : List Value} (hP : va_P D xcl ((q, .inr (ci, fs)) :: ws) H) {C : String} {T : u_T} {Nc : Nat} (hc : xcl[ci]? = some (C, T, Nc)) (hin : ∀ w ∈ u_ws C T Nc, w ∈ tbG) (k : Nat) (hk : k < Nc) {index : Nat} (hlink : Cond.fieldLink own index (T k).1 (T k).2.1 (T k).2.2.1 ∈ tbG) {v : Value} (hv : fs[k]? = some v) (hdg : decode cc pc = .ok (.getfield index, 3))
    (kk : W p l e R s m args below meth c H locs cells slots Q (F0 m (pc + 3) ls (v :: rest))) : W p l e R s m args below meth c H locs cells slots Q (F0 m pc ls (.ref q :: rest)) :=
  va_get hE.1 hE.2.1 hE.2.2.2.2 hin hE.2.2.2.1 hK hP 0 rfl hc k hk (hE.2.2.2.2 _ hlink) (fun _ h => h) hv hdg kk
/-- a constructor's call: the new object stands last -/
theorem x_ctor (hE : CallFix p m c cc nL s args tbG own) (hK : va_K D xcl (xty K) s) (hnp : nPre s) {q : Nat} {e0 : va_E} (hP : va_P D xcl (ws ++ [(q, e0)]) H) (hD : va_D A (ws ++ [(q, e0)])) (hS : va_S A s.heap H locs) (hA : ∀ x, s.heap.size ≤ x → A x) {y : MethodName} {b : ByteArray} {mL d idx nn mc ms : Nat} {As : List Value} {blk : (Nat → Nat) → va_W} (hM : Met l y (wM y b mL none) (rmC d mc ms) (va_Pc (.ref q :: As) (cPre D K q H.size e0)) (va_Qv (fun a : Nat → Nat => a 0 = q) (cB D (va_A [(q, e0)] H.size) blk) (va_A [(q, e0)] H.size)) mc ms (va_A [(q, e0)] H.size)) (hnn : As.length = nn) (h1 : Cond.methodLink own idx y ∈ tbG) (h2 : Cond.instanceMethod y ∈ tbG) (h4 : Cond.initialized y.cls ∈ tbG) (h5 : Cond.code y b mL none ∈ tbG) (hyn : y.name = "<init>") (hd : y.cls ≠ "java/lang/invoke/MethodHandle" ∧ y.cls ≠ "java/lang/invoke/VarHandle" ∧ (parseMethodDescriptor y.desc).map (fun d => d.parameters.length) = some nn) (hR : d + 1 ≤ R.frames ∧ 8 + (mL + 11) + 64 * d ≤ R.locals) (hls : ls.size = nL) (hst : st = As.reverse ++ .ref q :: rest) (hw : (rest.map fun v => v.category).sum ≤ 8) {k z : Nat} (hk : cells + mc = k) (hz : slots + ms = z) (hcells : k ≤ R.cells) (hslots : z ≤ R.slots) (hdg : decode cc pc = .ok (.invokespecial idx, 3))
    (kk : ∀ (a : Nat → Nat) (H1 : Heap) (locs1 : List Loc), a 0 = q → va_P D xcl (ws ++ blk a) H1 → va_D A (ws ++ blk a) → va_S A s.heap H1 locs1 → W p l e R s m args below meth c H1 locs1 k z Q (F0 m (pc + 3) ls rest)) : W p l e R s m args below meth c H locs cells slots Q (F0 m pc ls st) := by
  subst hk; subst hz
  have hPc : va_P D xcl [(q, e0)] H := P_mem.mpr (fun x hx => P_mem.mp hP x (List.mem_append_right _ hx))
  have hF : ∀ x, va_A [(q, e0)] H.size x → A x := by
    intro x hx
    rcases hx with ⟨k2, e2, h⟩ | h
    · exact hD.2 ws.length (x, e2) (by
        have h9 : k2 < 1 := (List.getElem?_eq_some_iff.mp h).1
        rw [show k2 = 0 by omega] at h
        cases h
        simp)
    · exact hA x (Nat.le_trans hS.1 h)
  refine va_callv (va_runI (As := As) (rest := rest) hE hM (cwI nn hE.2.2.2.2 (gM h5) rfl rfl rfl (hE.2.2.2.2 _ h4) (hE.2.2.2.2 _ h1) (hE.2.2.2.2 _ h2) hyn hd hR) ⟨cPre_blind, fun U hU hW => ⟨rfl, by rw [hU], by rw [hU]; exact hPc, va_K.moved hW.alike hK, hnp.warm hW⟩⟩ rfl hnn hls hst (lv_room hw) hdg ⟨hcells, hslots⟩) hS (fun x _ h => hF x h) hF (fun a t H1 locs1 ht hvm ha hB _ hk1 hS1 => ?_)
  obtain ⟨hP1, hD1⟩ := hB
  rw [ht] at hP1
  obtain ⟨hP2, hD2⟩ := join_app hP hD hk1 hF hP1 hD1
  exact kk a H1 locs1 ha hP2 hD2 hS1
/-- the same, of a private constructor of a nest mate -/
theorem x_ctorN (hE : CallFix p m c cc nL s args tbG own) (hK : va_K D xcl (xty K) s) (hnp : nPre s) {q : Nat} {e0 : va_E} (hP : va_P D xcl (ws ++ [(q, e0)]) H) (hD : va_D A (ws ++ [(q, e0)])) (hS : va_S A s.heap H locs) (hA : ∀ x, s.heap.size ≤ x → A x) {y : MethodName} {host : String} {b : ByteArray} {mL d idx nn mc ms : Nat} {As : List Value} {blk : (Nat → Nat) → va_W} (hM : Met l y (wM y b mL none) (rmC d mc ms) (va_Pc (.ref q :: As) (cPre D K q H.size e0)) (va_Qv (fun a : Nat → Nat => a 0 = q) (cB D (va_A [(q, e0)] H.size) blk) (va_A [(q, e0)] H.size)) mc ms (va_A [(q, e0)] H.size)) (hnn : As.length = nn) (h1 : va_Nw (.methodLinkNest own idx y host) s) (h2 : Cond.instanceMethod y ∈ tbG) (h4 : Cond.initialized y.cls ∈ tbG) (h5 : Cond.code y b mL none ∈ tbG) (hyn : y.name = "<init>") (hd : y.cls ≠ "java/lang/invoke/MethodHandle" ∧ y.cls ≠ "java/lang/invoke/VarHandle" ∧ (parseMethodDescriptor y.desc).map (fun d => d.parameters.length) = some nn) (hR : d + 1 ≤ R.frames ∧ 8 + (mL + 11) + 64 * d ≤ R.locals) (hls : ls.size = nL) (hst : st = As.reverse ++ .ref q :: rest) (hw : (rest.map fun v => v.category).sum ≤ 8) {k z : Nat} (hk : cells + mc = k) (hz : slots + ms = z) (hcells : k ≤ R.cells) (hslots : z ≤ R.slots) (hdg : decode cc pc = .ok (.invokespecial idx, 3))
    (kk : ∀ (a : Nat → Nat) (H1 : Heap) (locs1 : List Loc), a 0 = q → va_P D xcl (ws ++ blk a) H1 → va_D A (ws ++ blk a) → va_S A s.heap H1 locs1 → W p l e R s m args below meth c H1 locs1 k z Q (F0 m (pc + 3) ls rest)) : W p l e R s m args below meth c H locs cells slots Q (F0 m pc ls st) := by
  subst hk; subst hz
  have hPc : va_P D xcl [(q, e0)] H := P_mem.mpr (fun x hx => P_mem.mp hP x (List.mem_append_right _ hx))
  have hF : ∀ x, va_A [(q, e0)] H.size x → A x := by
    intro x hx
    rcases hx with ⟨k2, e2, h⟩ | h
    · exact hD.2 ws.length (x, e2) (by
        have h9 : k2 < 1 := (List.getElem?_eq_some_iff.mp h).1
        rw [show k2 = 0 by omega] at h
        cases h
        simp)
    · exact hA x (Nat.le_trans hS.1 h)
  refine va_callv (va_runIN (As := As) (rest := rest) hE hM ⟨va_cnB nn hE.2.2.2.2 (gM h5) rfl rfl rfl h1 (hE.2.2.2.2 _ h4) hd hR, hyn, hE.2.2.2.2 _ h2⟩ ⟨cPre_blind, fun U hU hW => ⟨rfl, by rw [hU], by rw [hU]; exact hPc, va_K.moved hW.alike hK, hnp.warm hW⟩⟩ rfl hnn hls hst (lv_room hw) hdg ⟨hcells, hslots⟩) hS (fun x _ h => hF x h) hF (fun a t H1 locs1 ht hvm ha hB _ hk1 hS1 => ?_)
  obtain ⟨hP1, hD1⟩ := hB
  rw [ht] at hP1
  obtain ⟨hP2, hD2⟩ := join_app hP hD hk1 hF hP1 hD1
  exact kk a H1 locs1 ha hP2 hD2 hS1
end XC
