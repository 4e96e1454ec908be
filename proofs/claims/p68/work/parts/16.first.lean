theorem inA {ad : Nat → Nat} {N : Nat} {A : Nat → Prop} (hA : ∀ i, i < N → A (ad i)) : ∀ q, inW ad N q → A q := fun q h => by obtain ⟨i, hi, rfl⟩ := h; exact hA i hi
section AR
variable {p : Program} {l : Launch} {e : Env} {R : Room} {s : State} {m : MethodId} {args : Array Value} {below : List Frame} {meth : Method} {c : Code} {cc : ByteArray} {H : Heap} {locs : List Loc} {cells slots : Nat} {Q : State → Prop} {pc nL : Nat} {ls : Array Slot} {rest st : List Value} {D : va_G} {K : Nat → ClassId} {ad : Nat → Nat} {G : gT} {N : Nat} {v ar : sI} {al : sL} {own : String}
theorem a_vi (hE : CallFix p m c cc nL s args tbG own) (hK : va_K D xcl (xty K) s) (hN : apart ad N) (hP : va_P D xcl (wW ad G N v ar al) H) {A : Nat → Prop} (hS : va_S A s.heap H locs) (hA : ∀ i, i < N → A (ad i)) {y : MethodName} {b : ByteArray} {mL d idx nn a : Nat} {ret : Option FieldType} {As : List Value} {post : Int32 → sT → Prop} (hM : Met l y (wM y b mL ret) (rmD d) (va_Pc (.ref a :: As) (wPre D K ad G N v ar al)) (va_Qi post (wB D ad G N) (inW ad N)) 0 0 (inW ad N)) (hrecv : ∃ cell : Cell, H[a]? = some cell ∧ cell.vm.isStatics = false ∧ s.vm.findClass y.cls = some cell.cls) (hnn : As.length = nn) (h1 : Cond.methodLink own idx y ∈ tbG) (h2 : Cond.instanceMethod y ∈ tbG) (h3 : Cond.selects y.cls y y ∈ tbG) (h4 : Cond.initialized y.cls ∈ tbG) (h5 : Cond.code y b mL ret ∈ tbG) (hd : y.cls = y.cls ∧ y.cls ≠ "java/lang/invoke/MethodHandle" ∧ y.cls ≠ "java/lang/invoke/VarHandle" ∧ (parseMethodDescriptor y.desc).map (fun d => d.parameters.length) = some nn) (hR : d + 1 ≤ R.frames ∧ 8 + (mL + 11) + 64 * d ≤ R.locals) (hls : ls.size = nL) (hst : st = As.reverse ++ .ref a :: rest) (hw : (rest.map fun v => v.category).sum ≤ 8) (hcs : cells ≤ R.cells ∧ slots ≤ R.slots) (hdg : decode cc pc = .ok (.invokevirtual idx, 3))
    (kk : ∀ (r : Int32) (v' ar' : sI) (al' : sL) (H1 : Heap) (locs1 : List Loc), post r (v', ar', al') → va_P D xcl (wW ad G N v' ar' al') H1 → va_S A s.heap H1 locs1 → W p l e R s m args below meth c H1 locs1 cells slots Q (F0 m (pc + 3) ls (.int r :: rest))) : W p l e R s m args below meth c H locs cells slots Q (F0 m pc ls st) := by
  refine va_calli (va_runV (As := As) (rest := rest) hE hM (cwV nn hE.2.2.2.2 (gV h1 h2 h3 h4 h5) rfl rfl rfl hd hR) ⟨wPre_blind, hrecv, fun U hU hW => ⟨rfl, wPre_now hK hN hP U hU hW⟩⟩ rfl hnn hls hst (lv_room hw) hdg hcs) hS (fun q _ h => inA hA q h) (inA hA) (fun r u t H1 locs1 ht _ hp hB _ _ hS1 => ?_)
  exact kk r u.1 u.2.1 u.2.2 H1 locs1 hp (by rw [← ht]; exact hB) hS1
theorem a_vv (hE : CallFix p m c cc nL s args tbG own) (hK : va_K D xcl (xty K) s) (hN : apart ad N) (hP : va_P D xcl (wW ad G N v ar al) H) {A : Nat → Prop} (hS : va_S A s.heap H locs) (hA : ∀ i, i < N → A (ad i)) {y : MethodName} {b : ByteArray} {mL d idx nn a : Nat} {As : List Value} {post : sT → Prop} (hM : Met l y (wM y b mL none) (rmD d) (va_Pc (.ref a :: As) (wPre D K ad G N v ar al)) (va_Qv post (wB D ad G N) (inW ad N)) 0 0 (inW ad N)) (hrecv : ∃ cell : Cell, H[a]? = some cell ∧ cell.vm.isStatics = false ∧ s.vm.findClass y.cls = some cell.cls) (hnn : As.length = nn) (h1 : Cond.methodLink own idx y ∈ tbG) (h2 : Cond.instanceMethod y ∈ tbG) (h3 : Cond.selects y.cls y y ∈ tbG) (h4 : Cond.initialized y.cls ∈ tbG) (h5 : Cond.code y b mL none ∈ tbG) (hd : y.cls = y.cls ∧ y.cls ≠ "java/lang/invoke/MethodHandle" ∧ y.cls ≠ "java/lang/invoke/VarHandle" ∧ (parseMethodDescriptor y.desc).map (fun d => d.parameters.length) = some nn) (hR : d + 1 ≤ R.frames ∧ 8 + (mL + 11) + 64 * d ≤ R.locals) (hls : ls.size = nL) (hst : st = As.reverse ++ .ref a :: rest) (hw : (rest.map fun v => v.category).sum ≤ 8) (hcs : cells ≤ R.cells ∧ slots ≤ R.slots) (hdg : decode cc pc = .ok (.invokevirtual idx, 3))
    (kk : ∀ (v' ar' : sI) (al' : sL) (H1 : Heap) (locs1 : List Loc), post (v', ar', al') → va_P D xcl (wW ad G N v' ar' al') H1 → va_S A s.heap H1 locs1 → W p l e R s m args below meth c H1 locs1 cells slots Q (F0 m (pc + 3) ls rest)) : W p l e R s m args below meth c H locs cells slots Q (F0 m pc ls st) := by
  refine va_callv (va_runV (As := As) (rest := rest) hE hM (cwV nn hE.2.2.2.2 (gV h1 h2 h3 h4 h5) rfl rfl rfl hd hR) ⟨wPre_blind, hrecv, fun U hU hW => ⟨rfl, wPre_now hK hN hP U hU hW⟩⟩ rfl hnn hls hst (lv_room hw) hdg hcs) hS (fun q _ h => inA hA q h) (inA hA) (fun u t H1 locs1 ht _ hp hB _ _ hS1 => ?_)
  exact kk u.1 u.2.1 u.2.2 H1 locs1 hp (by rw [← ht]; exact hB) hS1
theorem a_put (hE : CallFix p m c cc nL s args tbG own) (hK : va_K D xcl (xty K) s) (hN : apart ad N) (hP : va_P D xcl (wW ad G N v ar al) H) {A : Nat → Prop} (hS : va_S A s.heap H locs) (hA : ∀ i, i < N → A (ad i)) (i : Nat) (hi : i < N) {ci : Nat} {fs : List Value} (hf : G i (v i) (ar i) (al i) = .inr (ci, fs)) {C : String} {T : u_T} {Nc : Nat} (hc : xcl[ci]? = some (C, T, Nc)) (hin : ∀ w ∈ u_ws C T Nc, w ∈ tbG) (ty0 : Nat → FieldType) (hty : ∀ k, k < Nc → parseFieldDescriptor (T k).2.2.1 = some (ty0 k)) (hnm : ∀ a, a < Nc → ∀ b, b < Nc → a ≠ b → (T a).2.1 ≠ (T b).2.1) (k : Nat) (hk : k < Nc) {index : Nat} (hlink : Cond.fieldLink own index (T k).1 (T k).2.1 (T k).2.2.1 ∈ tbG) (hfin : (T k).2.2.2 = false) {x : Int32} (hn : narrow (ty0 k) (.int x) = .int x) (hfit : fits (ty0 k) (.int x) = true) (hl : k < fs.length) (hg : G i (upd (v i) k x) (ar i) (al i) = .inr (ci, fs.set k (.int x))) (hdg : decode cc pc = .ok (.putfield index, 3))
    (kk : ∀ (v' : sI) (H1 : Heap) (locs1 : List Loc), v' = va_up v i (upd (v i) k x) → va_P D xcl (wW ad G N v' ar al) H1 → va_S A s.heap H1 locs1 → W p l e R s m args below meth c H1 locs1 cells slots Q (F0 m (pc + 3) ls rest)) : W p l e R s m args below meth c H locs cells slots Q (F0 m pc ls (.int x :: .ref (ad i) :: rest)) := by
  refine va_put hE.1 hE.2.1 hE.2.2.2.2 hin ty0 hty hnm hE.2.2.2.1 hK hP (pw_D hN hA) hS i (wW_at hi hf) hc k hk (hE.2.2.2.2 _ hlink) (fun _ h => h) hfin (hty k hk) hn hfit hl hdg (fun H1 locs1 h1 _ h3 => ?_)
  rw [wW_v hg] at h1
  exact kk _ H1 locs1 rfl h1 h3
end AR
def aF (ad : Nat → Nat) (sz : Nat) : Nat → Prop := fun q => inW ad 132 q ∨ sz ≤ q
def bF (D : va_G) (K : Nat → ClassId) (ad : Nat → Nat) (sz : Nat) (u : Option (Nat → Nat) × sT) (t : State) : Prop := match u.1 with
  | none => va_P D xcl (wW ad (xG ad K none) 132 u.2.1 u.2.2.1 u.2.2.2) t.heap
  | some a1 => (∀ i, i < 132 → a1 i = ad i) ∧ apart a1 133 ∧ (∀ i, i < 133 → aF ad sz (a1 i)) ∧ va_P D xcl (wW a1 (xG a1 K (some (a1 132))) 133 u.2.1 u.2.2.1 u.2.2.2) t.heap
def fPre (D : va_G) (K : Nat → ClassId) (ad : Nat → Nat) (sz : Nat) (v ar : sI) (al : sL) (U : State) : Prop := U.heap.size = sz ∧ wPre D K ad (xG ad K none) 132 v ar al U
theorem fPre_blind {D : va_G} {K : Nat → ClassId} {ad : Nat → Nat} {sz : Nat} {v ar : sI} {al : sL} {av : List Value} : FrameBlind (va_Pc av (fPre D K ad sz v ar al)) := fun a U g mk q => ⟨q.1, q.2.1, (wPre_blind (av := av) a U g mk ⟨q.1, q.2.2⟩).2⟩
theorem wW_len (ad : Nat → Nat) (Gx : gT) (n : Nat) (v ar : sI) (al : sL) : (wW ad Gx n v ar al).length = n := by simp [wW, pw]
theorem D_apart {A : Nat → Prop} {a : Nat → Nat} {f : Nat → va_E} {n : Nat} (h : va_D A (pw a f n)) : apart a n ∧ ∀ i, i < n → A (a i) := ⟨fun i j hi hj e => h.1 i j _ _ (pw_at hi) (pw_at hj) e, fun i hi => h.2 i _ (pw_at hi)⟩
theorem xtab : ∀ i, i < 132 → (xk i = 0 → i + 5 < 132) ∧ (xk i = 1 → i + 9 < 132) ∧ (xk i = 2 → i = 56) ∧ (xk i = 3 → i + 11 < 132) ∧ (xk i = 4 → i + 1 < 132) ∧ (xk i = 5 → i + 1 < 132) ∧ (xk i = 6 → i + 3 < 132) ∧ (xk i = 7 → i + 7 < 132) ∧ xc i < 132 ∧ xk i ≤ 14 ∧ xk i ≠ 9 := by decide +kernel
theorem xG_cong {ad a1 : Nat → Nat} (K : Nat → ClassId) {m1 m2 : Option Nat} (had : ∀ i, i < 132 → a1 i = ad i) (i : Nat) (hi : i < 132) (h56 : i ≠ 56) (v a : Nat → Int32) (l : Nat → Int64) : xG a1 K m1 i v a l = xG ad K m2 i v a l := by
  obtain ⟨t0, t1, t2, t3, t4, t5, t6, t7, tc, tk, t9⟩ := xtab i hi
  have cs : xk i = 0 ∨ xk i = 1 ∨ xk i = 2 ∨ xk i = 3 ∨ xk i = 4 ∨ xk i = 5 ∨ xk i = 6 ∨ xk i = 7 ∨ xk i = 8 ∨ xk i = 10 ∨ xk i = 11 ∨ xk i = 12 ∨ xk i = 13 ∨ xk i = 14 := by omega
  rcases cs with h | h | h | h | h | h | h | h | h | h | h | h | h | h
  · have := t0 h
    rw [xG_0 h, xG_0 h, had _ (by omega), had _ (by omega), had _ (by omega), had _ (by omega), had _ (by omega)]
  · have := t1 h
    rw [xG_1 h, xG_1 h, had _ (by omega), had _ (by omega), had _ (by omega), had _ (by omega), had _ (by omega), had _ (by omega), had _ (by omega), had _ (by omega), had _ (by omega)]
  · exact absurd (t2 h) h56
  · have := t3 h
    rw [xG_3 h, xG_3 h, had _ (by omega), had _ (by omega)]
  · have := t4 h
    rw [xG_4 h, xG_4 h, had _ (by omega)]
  · have := t5 h
    rw [xG_5 h, xG_5 h, had _ (by omega)]
  · have := t6 h
    rw [xG_6 h, xG_6 h, had _ (by omega), had 39 (by omega), had (i + 1) (by omega), had (i + 2) (by omega)]
  · have := t7 h
    rw [xG_7 h, xG_7 h, had _ (by omega), had _ (by omega), had _ tc, had _ (by omega), had _ (by omega), had _ (by omega), had _ (by omega), had _ (by omega)]
  · rw [xG_8 h, xG_8 h, had 1 (by omega), had 3 (by omega), had 13 (by omega), had 23 (by omega), had 31 (by omega), had 39 (by omega), had 45 (by omega), had 56 (by omega), had 65 (by omega), had 66 (by omega)]
  · rw [xG_10 h, xG_10 h]
  · rw [xG_11 h, xG_11 h]
  · rw [xG_12 h, xG_12 h]
  · rw [xG_13 h, xG_13 h]
    have e : xrow a1 = xrow ad := by
      unfold xrow
      rw [had 73 (by omega), had 71 (by omega), had 69 (by omega), had 67 (by omega)]
    rw [e]
  · rw [xG_14 h, xG_14 h]
    have e : ximg a1 = ximg ad := by
      unfold ximg
      rw [had 113 (by omega), had 94 (by omega), had 75 (by omega)]
    rw [e]
set_option maxRecDepth 100000 in
theorem memo_join (ad : Nat → Nat) (K : Nat → ClassId) (v ar : sI) (al : sL) (q : Nat) (a1 : Nat → Nat) (ha1 : a1 = va_up ad 132 q) : (wW ad (xG ad K none) 132 v ar al ++ ([(q, .inl (K 0, 36880, .inl (fun _ => 0)))] : va_W)).set 56 ((ad 56, .inr (2, [.ref (ad 3), .ref (ad 57), .ref q, .int (v 56 3), .int (v 56 4)])) : Nat × va_E) = wW a1 (xG a1 K (some (a1 132))) 133 v (va_up ar 132 (fun _ => 0)) al := by
  have had : ∀ i, i < 132 → a1 i = ad i := fun i hi => by rw [ha1]; simp [va_up]; omega
  have hq : a1 132 = q := by rw [ha1]; simp [va_up]
  apply List.ext_getElem?
  intro i
  rw [List.getElem?_set]
  by_cases h56 : 56 = i
  · subst h56
    rw [if_pos rfl, if_pos (by simp [wW_len])]
    have e := wW_at (ad := a1) (G := xG a1 K (some (a1 132))) (N := 133) (i := 56) (v := v) (ar := va_up ar 132 (fun _ => 0)) (al := al) (by decide) (xG_2 rfl)
    rw [e, had 56 (by decide), had 3 (by decide), had 57 (by decide), hq]
    rfl
  · rw [if_neg h56]
    by_cases hi : i < 132
    · rw [List.getElem?_append_left (by rw [wW_len]; exact hi), wW_at hi rfl, wW_at (by omega) rfl, had i hi, xG_cong K (m2 := none) had i hi (fun z => h56 z.symm)]
      have e2 : va_up ar 132 (fun _ => 0) i = ar i := by simp [va_up]; omega
      rw [e2]
    · by_cases h2 : i = 132
      · subst h2
        rw [List.getElem?_append_right (by rw [wW_len]; exact Nat.le_refl _), wW_len, wW_at (by decide) (xG_10 rfl), hq]
        simp [va_up]
        rfl
      · rw [List.getElem?_eq_none (by rw [List.length_append, wW_len]; simp; omega), List.getElem?_eq_none (by rw [wW_len]; omega)]
theorem s_metF {l : Launch} {y : MethodName} {b : ByteArray} {n : Nat} {ty : FieldType} {rm : Room} {av : List Value} {D : va_G} {K : Nat → ClassId} {ad : Nat → Nat} {v ar : sI} {al : sL} {sz : Nat} {post : Int32 → Option (Nat → Nat) × sT → Prop} (hy : plainName y.cls = true) (hlen : (lg_sl av).length ≤ n)
    (body : ∀ (p : Program) (e : Env) (s : State) (m : MethodId) (below : List Frame) (meth : Method) (c : Code) (ls : Array Slot) (args : Array Value) (Q : State → Prop), CallFix p m c b n s args tbG y.cls → sz = s.heap.size → wPre D K ad (xG ad K none) 132 v ar al s → lv_has ls n (lv_args 0 av) →
      (∀ (r : Int32) (v ar : sI) (al : sL) (H : Heap) (locs : List Loc) (pc : Nat) (ls : Array Slot), narrow ty (.int r) = .int r → post r (none, (v, ar, al)) → va_P D xcl (wW ad (xG ad K none) 132 v ar al) H → va_S (aF ad sz) s.heap H locs → decode b pc = .ok (.ireturn, 1) → W p l e rm s m args below meth c H locs 0 0 Q (F0 m pc ls [.int r])) →
      (∀ (r : Int32) (a1 : Nat → Nat) (v ar : sI) (al : sL) (H : Heap) (locs : List Loc) (pc : Nat) (ls : Array Slot), narrow ty (.int r) = .int r → post r (some a1, (v, ar, al)) → (∀ i, i < 132 → a1 i = ad i) → apart a1 133 → (∀ i, i < 133 → aF ad sz (a1 i)) → va_P D xcl (wW a1 (xG a1 K (some (a1 132))) 133 v ar al) H → va_S (aF ad sz) s.heap H locs → decode b pc = .ok (.ireturn, 1) → W p l e rm s m args below meth c H locs 1 36880 Q (F0 m pc ls [.int r])) →
      W p l e rm s m args below meth c s.heap [] 0 0 Q (F0 m 0 ls [])) : Met l y (wM y b n (some ty)) rm (va_Pc av (fPre D K ad sz v ar al)) (va_Qi post (bF D K ad sz) (aF ad sz)) 1 36880 (aF ad sz) := by
  refine x_met hy hlen (fun p e s m below meth c ls hE hr hlo _ hB hl => body p e s m below meth c ls _ _ hE hB.1.symm hB.2 hl (fun r v ar al H locs pc ls hn hp hP hS hd => ?_) (fun r a1 v ar al H locs pc ls hn hp had hN hA hP hS hd => ?_))
  · refine W.widen (k := 1) (n := 36880) (Nat.zero_le _) (Nat.zero_le _) ?_
    exact W.zret hE.1 hE.2.1 hr hn (fun t ht _ => ⟨⟨r, (none, (v, ar, al)), rfl, hp, by show va_P _ _ _ t.heap; rw [ht]; exact hP⟩, hS.F ht⟩) hS.2.2 hd hlo
  · exact W.zret hE.1 hE.2.1 hr hn (fun t ht _ => ⟨⟨r, (some a1, (v, ar, al)), rfl, hp, had, hN, hA, by rw [ht]; exact hP⟩, hS.F ht⟩) hS.2.2 hd hlo
section FR
variable {p : Program} {l : Launch} {e : Env} {R : Room} {s : State} {m : MethodId} {args : Array Value} {below : List Frame} {meth : Method} {c : Code} {cc : ByteArray} {H : Heap} {locs : List Loc} {Q : State → Prop} {pc nL : Nat} {ls : Array Slot} {rest st : List Value} {D : va_G} {K : Nat → ClassId} {ad : Nat → Nat} {G : gT} {N : Nat} {v ar : sI} {al : sL} {own : String}
theorem aF_sub {A : Nat → Prop} (hS : va_S A s.heap H locs) (hA0 : ∀ q, s.heap.size ≤ q → A q) (hA : ∀ i, i < 132 → A (ad i)) : ∀ q, aF ad H.size q → A q := fun q h => h.elim (inA hA q) (fun h => hA0 q (Nat.le_trans hS.1 h))
theorem a_vvF (hE : CallFix p m c cc nL s args tbG own) (hK : va_K D xcl (xty K) s) (hN : apart ad 132) (hP : va_P D xcl (wW ad (xG ad K none) 132 v ar al) H) {A : Nat → Prop} (hS : va_S A s.heap H locs) (hA0 : ∀ q, s.heap.size ≤ q → A q) (hA : ∀ i, i < 132 → A (ad i)) {y : MethodName} {b : ByteArray} {mL d idx nn a : Nat} {ret : Option FieldType} {As : List Value} {post : Option (Nat → Nat) × sT → Prop} (hM : Met l y (wM y b mL ret) (rmC d 1 36880) (va_Pc (.ref a :: As) (fPre D K ad H.size v ar al)) (va_Qv post (bF D K ad H.size) (aF ad H.size)) 1 36880 (aF ad H.size)) (hrecv : ∃ cell : Cell, H[a]? = some cell ∧ cell.vm.isStatics = false ∧ s.vm.findClass y.cls = some cell.cls) (hnn : As.length = nn) (h1 : Cond.methodLink own idx y ∈ tbG) (h2 : Cond.instanceMethod y ∈ tbG) (h3 : Cond.selects y.cls y y ∈ tbG) (h4 : Cond.initialized y.cls ∈ tbG) (h5 : Cond.code y b mL ret ∈ tbG) (hd : y.cls = y.cls ∧ y.cls ≠ "java/lang/invoke/MethodHandle" ∧ y.cls ≠ "java/lang/invoke/VarHandle" ∧ (parseMethodDescriptor y.desc).map (fun d => d.parameters.length) = some nn) (hR : d + 1 ≤ R.frames ∧ 8 + (mL + 11) + 64 * d ≤ R.locals) (hls : ls.size = nL) (hst : st = As.reverse ++ .ref a :: rest) (hw : (rest.map fun v => v.category).sum ≤ 8) (hcs : 0 + 1 ≤ R.cells ∧ 0 + 36880 ≤ R.slots) (hdg : decode cc pc = .ok (.invokevirtual idx, 3))
    (kk : ∀ (u : Option (Nat → Nat) × sT) (t : State) (H1 : Heap) (locs1 : List Loc), t.heap = H1 → post u → bF D K ad H.size u t → va_S A s.heap H1 locs1 → W p l e R s m args below meth c H1 locs1 1 36880 Q (F0 m (pc + 3) ls rest)) : W p l e R s m args below meth c H locs 0 0 Q (F0 m pc ls st) := by
  refine va_callv (va_runV (As := As) (rest := rest) hE hM (cwV nn hE.2.2.2.2 (gV h1 h2 h3 h4 h5) rfl rfl rfl hd hR) ⟨fPre_blind, hrecv, fun U hU hW => ⟨rfl, by rw [hU], wPre_now hK hN hP U hU hW⟩⟩ rfl hnn hls hst (lv_room hw) hdg hcs) hS (fun q _ h => aF_sub hS hA0 hA q h) (aF_sub hS hA0 hA) (fun u t H1 locs1 ht _ hp hB _ _ hS1 => ?_)
  exact kk u t H1 locs1 ht hp hB hS1
theorem a_viF (hE : CallFix p m c cc nL s args tbG own) (hK : va_K D xcl (xty K) s) (hN : apart ad 132) (hP : va_P D xcl (wW ad (xG ad K none) 132 v ar al) H) {A : Nat → Prop} (hS : va_S A s.heap H locs) (hA0 : ∀ q, s.heap.size ≤ q → A q) (hA : ∀ i, i < 132 → A (ad i)) {y : MethodName} {b : ByteArray} {mL d idx nn a : Nat} {ret : Option FieldType} {As : List Value} {post : Int32 → Option (Nat → Nat) × sT → Prop} (hM : Met l y (wM y b mL ret) (rmC d 1 36880) (va_Pc (.ref a :: As) (fPre D K ad H.size v ar al)) (va_Qi post (bF D K ad H.size) (aF ad H.size)) 1 36880 (aF ad H.size)) (hrecv : ∃ cell : Cell, H[a]? = some cell ∧ cell.vm.isStatics = false ∧ s.vm.findClass y.cls = some cell.cls) (hnn : As.length = nn) (h1 : Cond.methodLink own idx y ∈ tbG) (h2 : Cond.instanceMethod y ∈ tbG) (h3 : Cond.selects y.cls y y ∈ tbG) (h4 : Cond.initialized y.cls ∈ tbG) (h5 : Cond.code y b mL ret ∈ tbG) (hd : y.cls = y.cls ∧ y.cls ≠ "java/lang/invoke/MethodHandle" ∧ y.cls ≠ "java/lang/invoke/VarHandle" ∧ (parseMethodDescriptor y.desc).map (fun d => d.parameters.length) = some nn) (hR : d + 1 ≤ R.frames ∧ 8 + (mL + 11) + 64 * d ≤ R.locals) (hls : ls.size = nL) (hst : st = As.reverse ++ .ref a :: rest) (hw : (rest.map fun v => v.category).sum ≤ 8) (hcs : 0 + 1 ≤ R.cells ∧ 0 + 36880 ≤ R.slots) (hdg : decode cc pc = .ok (.invokevirtual idx, 3))
    (kk : ∀ (r : Int32) (u : Option (Nat → Nat) × sT) (t : State) (H1 : Heap) (locs1 : List Loc), t.heap = H1 → post r u → bF D K ad H.size u t → va_S A s.heap H1 locs1 → W p l e R s m args below meth c H1 locs1 1 36880 Q (F0 m (pc + 3) ls (.int r :: rest))) : W p l e R s m args below meth c H locs 0 0 Q (F0 m pc ls st) := by
  refine va_calli (va_runV (As := As) (rest := rest) hE hM (cwV nn hE.2.2.2.2 (gV h1 h2 h3 h4 h5) rfl rfl rfl hd hR) ⟨fPre_blind, hrecv, fun U hU hW => ⟨rfl, by rw [hU], wPre_now hK hN hP U hU hW⟩⟩ rfl hnn hls hst (lv_room hw) hdg hcs) hS (fun q _ h => aF_sub hS hA0 hA q h) (aF_sub hS hA0 hA) (fun r u t H1 locs1 ht _ hp hB _ _ hS1 => ?_)
  exact kk r u t H1 locs1 ht hp hB hS1
end FR
theorem dX2_begin_20 : decode cX2_begin 20 = .ok (.aload_n 0, 1) := by decide +kernel
theorem dX2_begin_21 : decode cX2_begin 21 = .ok (.ldc 36, 2) := by decide +kernel
theorem dX2_begin_23 : decode cX2_begin 23 = .ok (.newarray .int, 2) := by decide +kernel
theorem dX2_begin_25 : decode cX2_begin 25 = .ok (.putfield 11, 3) := by decide +kernel
set_option maxHeartbeats 4000000 in
set_option maxRecDepth 100000 in
theorem f_begin (l : Launch) (D : va_G) (K : Nat → ClassId) (ad : Nat → Nat) (v ar : sI) (al : sL) (hI : XI v) (sz : Nat) (z_1 : Int) (hz_1 : 0 ≤ z_1 ∧ z_1 ≤ 1) : Met l yX2_begin (wM yX2_begin cX2_begin 3 none) (rmC 2 1 36880) (va_Pc [.ref (ad 56), .ref (ad 23), .int (iI (z_1))] (fPre D K ad sz v ar al)) (va_Qv (fun u : Option (Nat → Nat) × sT => (∃ a1, u.1 = some a1) ∧ XI u.2.1) (bF D K ad sz) (aF ad sz)) 1 36880 (aF ad sz) := by
  refine x_met (by decide) (Nat.le_of_ble_eq_true rfl) ?_
  intro p e s m below meth c ls hE hr hlo hnm hB hl
  have hE : CallFix p m c cX2_begin 3 s _ tbG "TaleCourt$Game" := hE
  obtain ⟨hsz, hP, hK, hN⟩ := hB
  subst hsz
  have hA : ∀ i, i < 132 → aF ad s.heap.size (ad i) := fun i hi => Or.inl ⟨i, hi, rfl⟩
  have hA0 : ∀ q, s.heap.size ≤ q → aF ad s.heap.size q := fun q h => Or.inr h
  have hS : va_S (aF ad s.heap.size) s.heap s.heap [] := va_S.rf
  have hl : lv_has ls 3 [(0, .ref (ad 56)), (1, .ref (ad 23)), (2, .int (iI (z_1)))] := hl
  refine lv_aload_n hE.1 hE.2.1 dX2_begin_0 rfl (lv_at hl 0 rfl) ?_
  refine x_get (x := .ref (ad 57)) hE hK hP 56 (by decide) (xG_2 rfl) rfl hin2 1 (by decide) mw_421 rfl dX2_begin_1 ?_
  refine lv_aload_n hE.1 hE.2.1 dX2_begin_4 rfl (lv_at hl 1 rfl) ?_
  refine a_vv (nn := 1) (As := [.ref (ad 23)]) (rest := []) hE hK hN hP hS hA (s_X7_copyFrom_57_23 l D K ad none 132 (by decide) v ar al hI) (x_recv hK hP 57 (by decide) (xG_7 rfl) rfl) rfl mw_1035 mw_909 mw_910 mw_117 mw_911 (by decide +kernel) ⟨by decide, by decide⟩ hl.1 rfl (Nat.le_of_ble_eq_true rfl) ⟨Nat.zero_le _, Nat.zero_le _⟩ dX2_begin_5 (fun v1 ar1 al1 H locs hq hP hS => ?_)
  obtain ⟨hI, -⟩ := hq
  have hI : XI v1 := hI
  refine lv_aload_n hE.1 hE.2.1 dX2_begin_8 rfl (lv_at hl 0 rfl) ?_
  refine lv_iload_n hE.1 hE.2.1 dX2_begin_9 rfl (lv_at hl 2 rfl) ?_
  refine a_put (x := iI (z_1)) hE hK hN hP hS hA 56 (by decide) (xG_2 rfl) rfl hin2 tyX2 tyX2_ok nmX2 4 (by decide) mw_424 rfl (nar01 (by omega)) (fit01 (by omega)) (Nat.le_of_ble_eq_true rfl) (xG_2 rfl) dX2_begin_10 (fun v2 H locs hv2 hP hS => ?_)
  have hI := XI_putN hI hv2 (by decide)
  refine lv_aload_n hE.1 hE.2.1 dX2_begin_13 rfl (lv_at hl 0 rfl) ?_
  refine x_get (x := .null) hE hK hP 56 (by decide) (xG_2 rfl) rfl hin2 2 (by decide) mw_422 rfl dX2_begin_14 ?_
  refine lv_ifnonnullN hE.1 hE.2.1 dX2_begin_17 ?_
  refine lv_aload_n hE.1 hE.2.1 dX2_begin_20 rfl (lv_at hl 0 rfl) ?_
  refine lv_ldc (v := 36880) hE.1 hE.2.1 hE.2.2.2.1 (hE.2.2.2.2 _ mw_1036) dX2_begin_21 ?_
  refine x_newa (atype := .int) (ty := .int) (a0 := (36880, .inl (fun _ => 0))) (N' := 36880) (k := 1) (z := 36880) hE mw_288 rfl hK 0 rfl hP (pw_D hN hA) hS hA0 (fun _ => rfl) (by decide) (by decide) (Nat.le_of_ble_eq_true rfl) rfl rfl (Nat.le_of_ble_eq_true rfl) (Nat.le_of_ble_eq_true rfl) dX2_begin_23 (fun q H hP hD hS => ?_)
  have he : (wW ad (xG ad K none) 132 v2 ar1 al1 ++ ([(q, .inl (K 0, 36880, .inl (fun _ => 0)))] : va_W))[56]? = some (ad 56, .inr (2, [.ref (ad 3), .ref (ad 57), .null, .int (v2 56 3), .int (v2 56 4)])) := by
    rw [List.getElem?_append_left (by rw [wW_len]; decide)]
    exact wW_at (by decide) (xG_2 rfl)
  refine va_put (v := .ref q) hE.1 hE.2.1 hE.2.2.2.2 hin2 tyX2 tyX2_ok nmX2 hE.2.2.2.1 hK hP hD hS 56 he rfl 2 (by decide) (hE.2.2.2.2 _ mw_422) (fun _ h => h) rfl (tyX2_ok 2 (by decide)) rfl rfl (Nat.le_of_ble_eq_true rfl) dX2_begin_25 (fun H locs hP hD hS => ?_)
  obtain ⟨a1, ha1⟩ : ∃ a, a = va_up ad 132 q := ⟨_, rfl⟩
  have had : ∀ i, i < 132 → a1 i = ad i := fun i hi => by rw [ha1]; simp [va_up]; omega
  have ej := memo_join ad K v2 ar1 al1 q a1 ha1
  have hP : va_P D xcl (wW a1 (xG a1 K (some (a1 132))) 133 v2 (va_up ar1 132 (fun _ => 0)) al1) H := by rw [← ej]; exact hP
  have hD : va_D (aF ad s.heap.size) (wW a1 (xG a1 K (some (a1 132))) 133 v2 (va_up ar1 132 (fun _ => 0)) al1) := by rw [← ej]; exact hD
  obtain ⟨hN1, hA1⟩ := D_apart hD
  have hl : lv_has ls 3 [(0, .ref (a1 56)), (1, .ref (ad 23)), (2, .int (iI (z_1)))] := by rw [had 56 (by decide)]; exact hl
  obtain ⟨zs, hzs, ezs⟩ := iI_of (v2 56 3)
  obtain ⟨zt, hzt, ezt⟩ := iI_of (iI zs + iI 1)
  refine lv_aload_n hE.1 hE.2.1 dX2_begin_28 rfl (lv_at hl 0 rfl) ?_
  refine lv_dup hE.1 hE.2.1 dX2_begin_29 rfl ?_
  refine x_get (x := .int (v2 56 3)) hE hK hP 56 (by decide) (xG_2 rfl) rfl hin2 3 (by decide) mw_423 rfl dX2_begin_30 ?_
  refine x_top (y := iI zs) ezs ?_
  refine lv_iconst (v := iI (1)) hE.1 hE.2.1 dX2_begin_33 (by decide) ?_
  refine lv_iadd hE.1 hE.2.1 dX2_begin_34 ?_
  refine x_top ezt ?_
  refine a_put (x := iI (zt)) hE hK hN1 hP hS hA1 56 (by decide) (xG_2 rfl) rfl hin2 tyX2 tyX2_ok nmX2 3 (by decide) mw_423 rfl rfl rfl (Nat.le_of_ble_eq_true rfl) (xG_2 rfl) dX2_begin_35 (fun v3 H locs hv3 hP hS => ?_)
  have hI := XI_putN hI hv3 (by decide)
  exact W.vret hE.1 hE.2.1 hr (fun t ht _ => ⟨⟨(some a1, (v3, va_up ar1 132 (fun _ => 0), al1)), rfl, ⟨⟨a1, rfl⟩, hI⟩, had, hN1, hA1, by rw [ht]; exact hP⟩, hS.F ht⟩) hS.2.2 dX2_begin_38 hlo
set_option maxHeartbeats 4000000 in
set_option maxRecDepth 100000 in
theorem f_X2_firstBlunder (l : Launch) (D : va_G) (K : Nat → ClassId) (ad : Nat → Nat) (v ar : sI) (al : sL) (hI : XI v) (sz : Nat) : Met l yX2_firstBlunder (wM yX2_firstBlunder cX2_firstBlunder 5 (some .int)) (rmC 25 1 36880) (va_Pc [.ref (ad 56), .ref (ad 23)] (fPre D K ad sz v ar al)) (va_Qi (fun (r : Int32) (u : Option (Nat → Nat) × sT) => (∃ z : Int, (-2147483648 ≤ z ∧ z ≤ 2147483647) ∧ r = iI z) ∧ (∃ a1, u.1 = some a1) ∧ XI u.2.1) (bF D K ad sz) (aF ad sz)) 1 36880 (aF ad sz) := by
  refine s_metF (by decide) (Nat.le_of_ble_eq_true rfl) ?_
  intro p e s m below meth c ls args Q hE hsz hB hl kr0 kr1
  subst hsz
  have hE : CallFix p m c cX2_firstBlunder 5 s args tbG "TaleCourt$Game" := hE
  obtain ⟨hP, hK, hN⟩ := hB
  obtain ⟨AF, hAF⟩ : ∃ A, A = aF ad s.heap.size := ⟨_, rfl⟩
  rw [← hAF] at kr0 kr1
  have hA : ∀ i, i < 132 → AF (ad i) := fun i hi => by rw [hAF]; exact Or.inl ⟨i, hi, rfl⟩
  have hA0 : ∀ q, s.heap.size ≤ q → AF q := fun q h => by rw [hAF]; exact Or.inr h
  have hS : va_S AF s.heap s.heap [] := va_S.rf
  have hl : lv_has ls 5 [(0, .ref (ad 56)), (1, .ref (ad 23))] := hl
  refine lv_aload_n hE.1 hE.2.1 dX2_firstBlunder_0 rfl (lv_at hl 0 rfl) ?_
  refine lv_aload_n hE.1 hE.2.1 dX2_firstBlunder_1 rfl (lv_at hl 1 rfl) ?_
  refine lv_iconst (v := iI (1)) hE.1 hE.2.1 dX2_firstBlunder_2 (by decide) ?_
  have hsub := aF_sub hS hA0 hA
  refine a_vvF (nn := 2) (As := [.ref (ad 23), .int (iI (1))]) (rest := []) hE hK hN hP hS hA0 hA (f_begin l D K ad v ar al hI _ (1) (by omega)) (x_recv hK hP 56 (by decide) (xG_2 rfl) rfl) rfl mw_1116 mw_1032 mw_1033 mw_120 mw_1034 (by decide +kernel) ⟨by decide, by decide⟩ hl.1 rfl (Nat.le_of_ble_eq_true rfl) ⟨Nat.le_of_ble_eq_true rfl, Nat.le_of_ble_eq_true rfl⟩ dX2_firstBlunder_3 (fun u1 t1 H locs ht1 hp1 hb1 hS => ?_)
  obtain ⟨o1, v1, ar1, al1⟩ := u1
  obtain ⟨⟨ad1, ho1⟩, hI⟩ := hp1
  have ho1 : o1 = some ad1 := ho1
  subst ho1
  have hI : XI v1 := hI
  obtain ⟨had, hN, hA1, hP⟩ := hb1
  have hP : va_P D xcl (wW ad1 (xG ad1 K (some (ad1 132))) 133 v1 ar1 al1) H := by rw [← ht1]; exact hP
  rw [← had 23 (by decide)] at hl
  rw [← had 56 (by decide)] at hl
  replace hA : ∀ i, i < 133 → AF (ad1 i) := fun i hi => hsub _ (hA1 i hi)
  refine lv_aload_n hE.1 hE.2.1 dX2_firstBlunder_6 rfl (lv_at hl 0 rfl) ?_
  refine x_get (x := .ref (ad1 57)) hE hK hP 56 (by decide) (xG_2 rfl) rfl hin2 1 (by decide) mw_421 rfl dX2_firstBlunder_7 ?_
  refine a_vv (nn := 0) (As := []) (rest := []) hE hK hN hP hS hA (s_X7_clear_57 l D K ad1 (some (ad1 132)) 133 (by decide) v1 ar1 al1 hI  ) (x_recv hK hP 57 (by decide) (xG_7 rfl) rfl) rfl mw_1117 mw_682 mw_683 mw_117 mw_684 (by decide +kernel) ⟨by decide, by decide⟩ hl.1 rfl (Nat.le_of_ble_eq_true rfl) ⟨Nat.le_of_ble_eq_true rfl, Nat.le_of_ble_eq_true rfl⟩ dX2_firstBlunder_10 (fun v2 ar2 al2 H locs hq2 hP hS => ?_)
  obtain ⟨hI, hq2⟩ := hq2
  have hI : XI v2 := hI
  refine lv_aload_n hE.1 hE.2.1 dX2_firstBlunder_13 rfl (lv_at hl 0 rfl) ?_
  refine a_vi (nn := 0) (As := []) (rest := []) hE hK hN hP hS hA (s_X2_isWon_56 l D K ad1  v2 ar2 al2 hI  ) (x_recv hK hP 56 (by decide) (xG_2 rfl) rfl) rfl mw_1072 mw_1038 mw_1039 mw_120 mw_1040 (by decide +kernel) ⟨by decide, by decide⟩ hl.1 rfl (Nat.le_of_ble_eq_true rfl) ⟨Nat.le_of_ble_eq_true rfl, Nat.le_of_ble_eq_true rfl⟩ dX2_firstBlunder_14 (fun r3 v3 ar3 al3 H locs hq3 hP hS => ?_)
  obtain ⟨⟨z3, hz3, rfl⟩, hI, hq3⟩ := hq3
  have hI : XI v3 := hI
  refine lv_istore_n (lv' := [(2, .int (iI (z3))), (0, .ref (ad1 56)), (1, .ref (ad1 23))]) hE.1 hE.2.1 dX2_firstBlunder_17 rfl hl (by decide) rfl (fun ls hl => ?_)
  refine lv_iconst (v := iI (0)) hE.1 hE.2.1 dX2_firstBlunder_18 (by decide) ?_
  refine lv_istore_n (lv' := [(3, .int (iI (0))), (2, .int (iI (z3))), (0, .ref (ad1 56)), (1, .ref (ad1 23))]) hE.1 hE.2.1 dX2_firstBlunder_19 rfl hl (by decide) rfl (fun ls hl => ?_)
  have loop4 : ∀ (k4 : Nat) (y4_3 : Int) (y4_2 : Int) (vl4 arl4 : sI) (all4 : sL) (H : Heap) (locs : List Loc) (ls : Array Slot), (18 - y4_3).toNat = k4 → (0 ≤ y4_3 ∧ y4_3 ≤ 18) → (-2147483648 ≤ y4_2 ∧ y4_2 ≤ 2147483647) → XI vl4 → (∀ i j : Nat, (i, j) ∉ ([(57, 2), (57, 3), (57, 4), (57, 5), (57, 8), (57, 9)] : List (Nat × Nat)) → vl4 i j = v3 i j) → va_P D xcl (wW ad1 (xG ad1 K (some (ad1 132))) 133 vl4 arl4 all4) H → va_S AF s.heap H locs → lv_has ls 5 [(3, .int (iI (y4_3))), (2, .int (iI (y4_2))), (0, .ref (ad1 56)), (1, .ref (ad1 23))] → W p l e (rmC 25 1 36880) s m args below meth c H locs 1 36880 Q (F0 m 20 ls []) := by
    intro k4
    induction k4 using Nat.strongRecOn with
    | _ k4 ih4 =>
      intro y4_3 y4_2 vl4 arl4 all4 H locs ls hk4 hb_y4_3 hb_y4_2 hI hfr4 hP hS hl
      refine lv_iload_n hE.1 hE.2.1 dX2_firstBlunder_20 rfl (lv_at hl 0 rfl) ?_
      refine lv_aload_n hE.1 hE.2.1 dX2_firstBlunder_21 rfl (lv_at hl 3 rfl) ?_
      obtain ⟨z5, hz5, ez5⟩ := XI_get hI 23 2 0 18 (by decide)
      refine x_get (x := .int (vl4 23 2)) hE hK hP 23 (by decide) (xG_7 rfl) rfl hin7 2 (by decide) mw_303 rfl dX2_firstBlunder_22 ?_
      refine x_top (y := iI (z5)) ez5 ?_
      refine s_icmp_ge (a := y4_3) (b := z5) (tgt := 70) hE.1 hE.2.1 (by omega) (by omega) dX2_firstBlunder_25 (by decide) (fun c6 => ?_) (fun c6 => ?_)
      · skip
        refine lv_iconst (v := iI (-1)) hE.1 hE.2.1 dX2_firstBlunder_70 (by decide) ?_
        exact kr1 _ ad1 _ _ _ _ _ _ _ rfl ⟨⟨-1, by omega, rfl⟩, ⟨ad1, rfl⟩, hI⟩ had hN (fun i hi => hA i hi) hP hS dX2_firstBlunder_71
      · skip
        refine lv_iload_n hE.1 hE.2.1 dX2_firstBlunder_28 rfl (lv_at hl 0 rfl) ?_
        refine lv_bipush (v := iI (18)) hE.1 hE.2.1 dX2_firstBlunder_29 (by decide) ?_
        refine s_icmp_ge (a := y4_3) (b := 18) (tgt := 70) hE.1 hE.2.1 (by omega) (by omega) dX2_firstBlunder_31 (by decide) (fun c7 => False.elim (by omega)) (fun _ => ?_)
        refine lv_aload_n hE.1 hE.2.1 dX2_firstBlunder_34 rfl (lv_at hl 2 rfl) ?_
        refine lv_aload_n hE.1 hE.2.1 dX2_firstBlunder_35 rfl (lv_at hl 3 rfl) ?_
        refine x_get (x := .ref (ad1 24)) hE hK hP 23 (by decide) (xG_7 rfl) rfl hin7 0 (by decide) mw_297 rfl dX2_firstBlunder_36 ?_
        refine lv_iload_n hE.1 hE.2.1 dX2_firstBlunder_39 rfl (lv_at hl 0 rfl) ?_
        refine x_iald (j := iI (y4_3)) hE hK hP 24 (by decide) (xG_10 rfl) (iI_in (n := 18) (by omega)) dX2_firstBlunder_40 ?_
        obtain ⟨z9, hz9, ez9⟩ := iI_of (arl4 24 (iI (y4_3)).toNatClampNeg)
        refine x_top ez9 ?_
        refine a_vv (nn := 1) (As := [.int (iI (z9))]) (rest := []) hE hK hN hP hS hA (s_X2_play_56 l D K ad1 (some (ad1 132)) 133 (by decide) vl4 arl4 all4 hI  (z9) (by omega)) (x_recv hK hP 56 (by decide) (xG_2 rfl) rfl) rfl mw_1056 mw_1058 mw_34 mw_120 mw_1059 (by decide +kernel) ⟨by decide, by decide⟩ hl.1 rfl (Nat.le_of_ble_eq_true rfl) ⟨Nat.le_of_ble_eq_true rfl, Nat.le_of_ble_eq_true rfl⟩ dX2_firstBlunder_41 (fun v10 ar10 al10 H locs hq10 hP hS => ?_)
        obtain ⟨hI, hq10⟩ := hq10
        have hI : XI v10 := hI
        refine lv_aload_n hE.1 hE.2.1 dX2_firstBlunder_44 rfl (lv_at hl 2 rfl) ?_
        refine a_vi (nn := 0) (As := []) (rest := []) hE hK hN hP hS hA (s_X2_isWon_56 l D K ad1  v10 ar10 al10 hI  ) (x_recv hK hP 56 (by decide) (xG_2 rfl) rfl) rfl mw_1072 mw_1038 mw_1039 mw_120 mw_1040 (by decide +kernel) ⟨by decide, by decide⟩ hl.1 rfl (Nat.le_of_ble_eq_true rfl) ⟨Nat.le_of_ble_eq_true rfl, Nat.le_of_ble_eq_true rfl⟩ dX2_firstBlunder_45 (fun r11 v11 ar11 al11 H locs hq11 hP hS => ?_)
        obtain ⟨⟨z11, hz11, rfl⟩, hI, hq11⟩ := hq11
        have hI : XI v11 := hI
        refine lv_istore (lv' := [(4, .int (iI (z11))), (3, .int (iI (y4_3))), (2, .int (iI (y4_2))), (0, .ref (ad1 56)), (1, .ref (ad1 23))]) hE.1 hE.2.1 dX2_firstBlunder_48 hl (by decide) rfl (fun ls hl => ?_)
        refine lv_iload_n hE.1 hE.2.1 dX2_firstBlunder_50 rfl (lv_at hl 2 rfl) ?_
        refine s_if_eq (a := y4_2) (tgt := 61) hE.1 hE.2.1 (by omega) dX2_firstBlunder_51 (by decide) (fun c12 => ?_) (fun c12 => ?_)
        · skip
          refine lv_iload hE.1 hE.2.1 dX2_firstBlunder_61 (lv_at hl 0 rfl) ?_
          refine lv_istore_n (lv' := [(2, .int (iI (z11))), (4, .int (iI (z11))), (3, .int (iI (y4_3))), (0, .ref (ad1 56)), (1, .ref (ad1 23))]) hE.1 hE.2.1 dX2_firstBlunder_63 rfl hl (by decide) rfl (fun ls hl => ?_)
          refine lv_iinc (v := iI (y4_3 + 1)) (lv' := [(3, .int (iI (y4_3 + 1))), (2, .int (iI (z11))), (4, .int (iI (z11))), (0, .ref (ad1 56)), (1, .ref (ad1 23))]) hE.1 hE.2.1 dX2_firstBlunder_64 hl (k := 2) rfl ((iI_add (y4_3) (1)).trans (congrArg iI (by omega))) (by decide) rfl (fun ls hl => ?_)
          refine lv_goto (tgt := 20) hE.1 hE.2.1 dX2_firstBlunder_67 (by decide) ?_
          exact ih4 _ (by omega) (y4_3 + 1) (z11) v11 ar11 al11 _ _ _ rfl (by omega) (by omega) hI (fun i j h => (((hq11 i j (fun q => h (mem_sub (by decide) q))).trans (hq10 i j (fun q => h (mem_sub (by decide) q)))).trans (hfr4 i j h))) hP hS (lv_sub hl [0, 1, 3, 4] rfl)
        · skip
          refine lv_iload hE.1 hE.2.1 dX2_firstBlunder_54 (lv_at hl 0 rfl) ?_
          refine s_if_eq (a := z11) (tgt := 61) hE.1 hE.2.1 (by omega) dX2_firstBlunder_56 (by decide) (fun c13 => ?_) (fun c13 => ?_)
          · skip
            refine lv_iload hE.1 hE.2.1 dX2_firstBlunder_61 (lv_at hl 0 rfl) ?_
            refine lv_istore_n (lv' := [(2, .int (iI (z11))), (4, .int (iI (z11))), (3, .int (iI (y4_3))), (0, .ref (ad1 56)), (1, .ref (ad1 23))]) hE.1 hE.2.1 dX2_firstBlunder_63 rfl hl (by decide) rfl (fun ls hl => ?_)
            refine lv_iinc (v := iI (y4_3 + 1)) (lv' := [(3, .int (iI (y4_3 + 1))), (2, .int (iI (z11))), (4, .int (iI (z11))), (0, .ref (ad1 56)), (1, .ref (ad1 23))]) hE.1 hE.2.1 dX2_firstBlunder_64 hl (k := 2) rfl ((iI_add (y4_3) (1)).trans (congrArg iI (by omega))) (by decide) rfl (fun ls hl => ?_)
            refine lv_goto (tgt := 20) hE.1 hE.2.1 dX2_firstBlunder_67 (by decide) ?_
            exact ih4 _ (by omega) (y4_3 + 1) (z11) v11 ar11 al11 _ _ _ rfl (by omega) (by omega) hI (fun i j h => (((hq11 i j (fun q => h (mem_sub (by decide) q))).trans (hq10 i j (fun q => h (mem_sub (by decide) q)))).trans (hfr4 i j h))) hP hS (lv_sub hl [0, 1, 3, 4] rfl)
          · skip
            refine lv_iload_n hE.1 hE.2.1 dX2_firstBlunder_59 rfl (lv_at hl 1 rfl) ?_
            exact kr1 _ ad1 _ _ _ _ _ _ _ rfl ⟨⟨y4_3, by omega, rfl⟩, ⟨ad1, rfl⟩, hI⟩ had hN (fun i hi => hA i hi) hP hS dX2_firstBlunder_60
  exact loop4 _ (0) (z3) v3 ar3 al3 _ _ _ rfl (by omega) (by omega) hI (fun _ _ _ => rfl) hP hS hl

set_option maxHeartbeats 4000000 in
set_option maxRecDepth 100000 in
theorem f_X8_wins (l : Launch) (D : va_G) (K : Nat → ClassId) (ad : Nat → Nat) (v ar : sI) (al : sL) (hI : XI v) (sz : Nat) : Met l yX8_wins (wM yX8_wins cX8_wins 2 (some .int)) (rmC 25 1 36880) (va_Pc [.ref (ad 0)] (fPre D K ad sz v ar al)) (va_Qi (fun (r : Int32) (u : Option (Nat → Nat) × sT) => (∃ z : Int, (-2147483648 ≤ z ∧ z ≤ 2147483647) ∧ r = iI z) ∧ XI u.2.1) (bF D K ad sz) (aF ad sz)) 1 36880 (aF ad sz) := by
  refine s_metF (by decide) (Nat.le_of_ble_eq_true rfl) ?_
  intro p e s m below meth c ls args Q hE hsz hB hl kr0 kr1
  subst hsz
  have hE : CallFix p m c cX8_wins 2 s args tbG "TaleCourt" := hE
  obtain ⟨hP, hK, hN⟩ := hB
  obtain ⟨AF, hAF⟩ : ∃ A, A = aF ad s.heap.size := ⟨_, rfl⟩
  rw [← hAF] at kr0 kr1
  have hA : ∀ i, i < 132 → AF (ad i) := fun i hi => by rw [hAF]; exact Or.inl ⟨i, hi, rfl⟩
  have hA0 : ∀ q, s.heap.size ≤ q → AF q := fun q h => by rw [hAF]; exact Or.inr h
  have hS : va_S AF s.heap s.heap [] := va_S.rf
  have hl : lv_has ls 2 [(0, .ref (ad 0))] := hl
  refine lv_aload_n hE.1 hE.2.1 dX8_wins_0 rfl (lv_at hl 0 rfl) ?_
  refine x_vp (nn := 0) (As := []) (rest := []) hE (s_X8_gameBar_0 l D K ad none 132 (by decide) v ar al hI  ) wPre_blind (wPre_now hK hN hP) (x_recv hK hP 0 (by decide) (xG_8 rfl) rfl) rfl mw_1027 mw_1029 mw_30 mw_114 mw_1030 (by decide +kernel) ⟨by decide, by decide⟩ hl.1 rfl (Nat.le_of_ble_eq_true rfl) ⟨Nat.le_of_ble_eq_true rfl, Nat.le_of_ble_eq_true rfl⟩ dX8_wins_1 (fun r1 hr1 => ?_)
  obtain ⟨z1, hz1, rfl⟩ := hr1
  refine lv_istore_n (lv' := [(1, .int (iI (z1))), (0, .ref (ad 0))]) hE.1 hE.2.1 dX8_wins_4 rfl hl (by decide) rfl (fun ls hl => ?_)
  refine lv_iload_n hE.1 hE.2.1 dX8_wins_5 rfl (lv_at hl 0 rfl) ?_
  refine s_if_eq (a := z1) (tgt := 11) hE.1 hE.2.1 (by omega) dX8_wins_6 (by decide) (fun c2 => ?_) (fun c2 => ?_)
  · skip
    refine lv_aload_n hE.1 hE.2.1 dX8_wins_11 rfl (lv_at hl 1 rfl) ?_
    refine x_get (x := .ref (ad 56)) hE hK hP 0 (by decide) (xG_8 rfl) rfl hin8 7 (by decide) mw_487 rfl dX8_wins_12 ?_
    refine lv_aload_n hE.1 hE.2.1 dX8_wins_15 rfl (lv_at hl 1 rfl) ?_
    refine x_get (x := .ref (ad 23)) hE hK hP 0 (by decide) (xG_8 rfl) rfl hin8 3 (by decide) mw_483 rfl dX8_wins_16 ?_
    refine lv_iconst (v := iI (1)) hE.1 hE.2.1 dX8_wins_19 (by decide) ?_
    have hsub := aF_sub hS hA0 hA
    refine a_vvF (nn := 2) (As := [.ref (ad 23), .int (iI (1))]) (rest := []) hE hK hN hP hS hA0 hA (f_begin l D K ad v ar al hI _ (1) (by omega)) (x_recv hK hP 56 (by decide) (xG_2 rfl) rfl) rfl mw_1031 mw_1032 mw_1033 mw_120 mw_1034 (by decide +kernel) ⟨by decide, by decide⟩ hl.1 rfl (Nat.le_of_ble_eq_true rfl) ⟨Nat.le_of_ble_eq_true rfl, Nat.le_of_ble_eq_true rfl⟩ dX8_wins_20 (fun u3 t3 H locs ht3 hp3 hb3 hS => ?_)
    obtain ⟨o3, v3, ar3, al3⟩ := u3
    obtain ⟨⟨ad1, ho3⟩, hI⟩ := hp3
    have ho3 : o3 = some ad1 := ho3
    subst ho3
    have hI : XI v3 := hI
    obtain ⟨had, hN, hA1, hP⟩ := hb3
    have hP : va_P D xcl (wW ad1 (xG ad1 K (some (ad1 132))) 133 v3 ar3 al3) H := by rw [← ht3]; exact hP
    rw [← had 0 (by decide)] at hl
    replace hA : ∀ i, i < 133 → AF (ad1 i) := fun i hi => hsub _ (hA1 i hi)
    refine lv_aload_n hE.1 hE.2.1 dX8_wins_23 rfl (lv_at hl 1 rfl) ?_
    refine x_get (x := .ref (ad1 56)) hE hK hP 0 (by decide) (xG_8 rfl) rfl hin8 7 (by decide) mw_487 rfl dX8_wins_24 ?_
    refine a_vi (nn := 0) (As := []) (rest := []) hE hK hN hP hS hA (s_X2_isWon_56 l D K ad1  v3 ar3 al3 hI  ) (x_recv hK hP 56 (by decide) (xG_2 rfl) rfl) rfl mw_1037 mw_1038 mw_1039 mw_120 mw_1040 (by decide +kernel) ⟨by decide, by decide⟩ hl.1 rfl (Nat.le_of_ble_eq_true rfl) ⟨Nat.le_of_ble_eq_true rfl, Nat.le_of_ble_eq_true rfl⟩ dX8_wins_27 (fun r4 v4 ar4 al4 H locs hq4 hP hS => ?_)
    obtain ⟨⟨z4, hz4, rfl⟩, hI, hq4⟩ := hq4
    have hI : XI v4 := hI
    refine s_if_eq (a := z4) (tgt := 37) hE.1 hE.2.1 (by omega) dX8_wins_30 (by decide) (fun c5 => ?_) (fun c5 => ?_)
    · skip
      refine lv_iconst (v := iI (0)) hE.1 hE.2.1 dX8_wins_37 (by decide) ?_
      exact kr1 _ ad1 _ _ _ _ _ _ _ rfl ⟨⟨0, by omega, rfl⟩, hI⟩ had hN (fun i hi => hA i hi) hP hS dX8_wins_38
    · skip
      refine lv_iconst (v := iI (1)) hE.1 hE.2.1 dX8_wins_33 (by decide) ?_
      refine lv_goto (tgt := 38) hE.1 hE.2.1 dX8_wins_34 (by decide) ?_
      exact kr1 _ ad1 _ _ _ _ _ _ _ rfl ⟨⟨1, by omega, rfl⟩, hI⟩ had hN (fun i hi => hA i hi) hP hS dX8_wins_38
  · skip
    refine lv_iload_n hE.1 hE.2.1 dX8_wins_9 rfl (lv_at hl 0 rfl) ?_
    exact kr0 _ _ _ _ _ _ _ _ rfl ⟨⟨z1, by omega, rfl⟩, hI⟩ hP hS dX8_wins_10

set_option maxHeartbeats 4000000 in
set_option maxRecDepth 100000 in
theorem f_X8_move (l : Launch) (D : va_G) (K : Nat → ClassId) (ad : Nat → Nat) (v ar : sI) (al : sL) (hI : XI v) (sz : Nat) : Met l yX8_move (wM yX8_move cX8_move 4 (some .int)) (rmC 26 1 36880) (va_Pc [.ref (ad 0)] (fPre D K ad sz v ar al)) (va_Qi (fun (r : Int32) (u : Option (Nat → Nat) × sT) => (∃ z : Int, (-2147483648 ≤ z ∧ z ≤ 2147483647) ∧ r = iI z) ∧ XI u.2.1) (bF D K ad sz) (aF ad sz)) 1 36880 (aF ad sz) := by
  refine s_metF (by decide) (Nat.le_of_ble_eq_true rfl) ?_
  intro p e s m below meth c ls args Q hE hsz hB hl kr0 kr1
  subst hsz
  have hE : CallFix p m c cX8_move 4 s args tbG "TaleCourt" := hE
  obtain ⟨hP, hK, hN⟩ := hB
  obtain ⟨AF, hAF⟩ : ∃ A, A = aF ad s.heap.size := ⟨_, rfl⟩
  rw [← hAF] at kr0 kr1
  have hA : ∀ i, i < 132 → AF (ad i) := fun i hi => by rw [hAF]; exact Or.inl ⟨i, hi, rfl⟩
  have hA0 : ∀ q, s.heap.size ≤ q → AF q := fun q h => by rw [hAF]; exact Or.inr h
  have hS : va_S AF s.heap s.heap [] := va_S.rf
  have hl : lv_has ls 4 [(0, .ref (ad 0))] := hl
  refine lv_aload_n hE.1 hE.2.1 dX8_move_0 rfl (lv_at hl 0 rfl) ?_
  refine x_vp (nn := 0) (As := []) (rest := []) hE (s_X8_gameBar_0 l D K ad none 132 (by decide) v ar al hI  ) wPre_blind (wPre_now hK hN hP) (x_recv hK hP 0 (by decide) (xG_8 rfl) rfl) rfl mw_1027 mw_1029 mw_30 mw_114 mw_1030 (by decide +kernel) ⟨by decide, by decide⟩ hl.1 rfl (Nat.le_of_ble_eq_true rfl) ⟨Nat.le_of_ble_eq_true rfl, Nat.le_of_ble_eq_true rfl⟩ dX8_move_1 (fun r1 hr1 => ?_)
  obtain ⟨z1, hz1, rfl⟩ := hr1
  refine lv_istore_n (lv' := [(1, .int (iI (z1))), (0, .ref (ad 0))]) hE.1 hE.2.1 dX8_move_4 rfl hl (by decide) rfl (fun ls hl => ?_)
  refine lv_iload_n hE.1 hE.2.1 dX8_move_5 rfl (lv_at hl 0 rfl) ?_
  refine s_if_eq (a := z1) (tgt := 11) hE.1 hE.2.1 (by omega) dX8_move_6 (by decide) (fun c2 => ?_) (fun c2 => ?_)
  · skip
    refine lv_aload_n hE.1 hE.2.1 dX8_move_11 rfl (lv_at hl 1 rfl) ?_
    refine x_get (x := .ref (ad 56)) hE hK hP 0 (by decide) (xG_8 rfl) rfl hin8 7 (by decide) mw_487 rfl dX8_move_12 ?_
    refine lv_aload_n hE.1 hE.2.1 dX8_move_15 rfl (lv_at hl 1 rfl) ?_
    refine x_get (x := .ref (ad 23)) hE hK hP 0 (by decide) (xG_8 rfl) rfl hin8 3 (by decide) mw_483 rfl dX8_move_16 ?_
    refine lv_iconst (v := iI (1)) hE.1 hE.2.1 dX8_move_19 (by decide) ?_
    have hsub := aF_sub hS hA0 hA
    refine a_vvF (nn := 2) (As := [.ref (ad 23), .int (iI (1))]) (rest := []) hE hK hN hP hS hA0 hA (f_begin l D K ad v ar al hI _ (1) (by omega)) (x_recv hK hP 56 (by decide) (xG_2 rfl) rfl) rfl mw_1031 mw_1032 mw_1033 mw_120 mw_1034 (by decide +kernel) ⟨by decide, by decide⟩ hl.1 rfl (Nat.le_of_ble_eq_true rfl) ⟨Nat.le_of_ble_eq_true rfl, Nat.le_of_ble_eq_true rfl⟩ dX8_move_20 (fun u3 t3 H locs ht3 hp3 hb3 hS => ?_)
    obtain ⟨o3, v3, ar3, al3⟩ := u3
    obtain ⟨⟨ad1, ho3⟩, hI⟩ := hp3
    have ho3 : o3 = some ad1 := ho3
    subst ho3
    have hI : XI v3 := hI
    obtain ⟨had, hN, hA1, hP⟩ := hb3
    have hP : va_P D xcl (wW ad1 (xG ad1 K (some (ad1 132))) 133 v3 ar3 al3) H := by rw [← ht3]; exact hP
    rw [← had 0 (by decide)] at hl
    replace hA : ∀ i, i < 133 → AF (ad1 i) := fun i hi => hsub _ (hA1 i hi)
    refine lv_aload_n hE.1 hE.2.1 dX8_move_23 rfl (lv_at hl 1 rfl) ?_
    refine x_get (x := .ref (ad1 56)) hE hK hP 0 (by decide) (xG_8 rfl) rfl hin8 7 (by decide) mw_487 rfl dX8_move_24 ?_
    refine a_vi (nn := 0) (As := []) (rest := []) hE hK hN hP hS hA (s_X2_winningMoves_56 l D K ad1  v3 ar3 al3 hI  ) (x_recv hK hP 56 (by decide) (xG_2 rfl) rfl) rfl mw_1068 mw_1069 mw_1070 mw_120 mw_1071 (by decide +kernel) ⟨by decide, by decide⟩ hl.1 rfl (Nat.le_of_ble_eq_true rfl) ⟨Nat.le_of_ble_eq_true rfl, Nat.le_of_ble_eq_true rfl⟩ dX8_move_27 (fun r4 v4 ar4 al4 H locs hq4 hP hS => ?_)
    obtain ⟨⟨z4, hz4, rfl⟩, hI, hq4⟩ := hq4
    have hI : XI v4 := hI
    refine lv_istore_n (lv' := [(2, .int (iI (z4))), (1, .int (iI (z1))), (0, .ref (ad1 0))]) hE.1 hE.2.1 dX8_move_30 rfl hl (by decide) rfl (fun ls hl => ?_)
    refine lv_iconst (v := iI (0)) hE.1 hE.2.1 dX8_move_31 (by decide) ?_
    refine lv_istore_n (lv' := [(3, .int (iI (0))), (2, .int (iI (z4))), (1, .int (iI (z1))), (0, .ref (ad1 0))]) hE.1 hE.2.1 dX8_move_32 rfl hl (by decide) rfl (fun ls hl => ?_)
    have loop5 : ∀ (k5 : Nat) (y5_3 : Int) (vl5 arl5 : sI) (all5 : sL) (H : Heap) (locs : List Loc) (ls : Array Slot), (10 - y5_3).toNat = k5 → (0 ≤ y5_3 ∧ y5_3 ≤ 10) → XI vl5 → (∀ i j : Nat, (i, j) ∉ ([] : List (Nat × Nat)) → vl5 i j = v4 i j) → va_P D xcl (wW ad1 (xG ad1 K (some (ad1 132))) 133 vl5 arl5 all5) H → va_S AF s.heap H locs → lv_has ls 4 [(3, .int (iI (y5_3))), (2, .int (iI (z4))), (1, .int (iI (z1))), (0, .ref (ad1 0))] → W p l e (rmC 26 1 36880) s m args below meth c H locs 1 36880 Q (F0 m 33 ls []) := by
      intro k5
      induction k5 using Nat.strongRecOn with
      | _ k5 ih5 =>
        intro y5_3 vl5 arl5 all5 H locs ls hk5 hb_y5_3 hI hfr5 hP hS hl
        refine lv_iload_n hE.1 hE.2.1 dX8_move_33 rfl (lv_at hl 0 rfl) ?_
        refine lv_bipush (v := iI (9)) hE.1 hE.2.1 dX8_move_34 (by decide) ?_
        refine s_icmp_gt (a := y5_3) (b := 9) (tgt := 55) hE.1 hE.2.1 (by omega) (by omega) dX8_move_36 (by decide) (fun c6 => ?_) (fun c6 => ?_)
        · skip
          refine lv_iconst (v := iI (-1)) hE.1 hE.2.1 dX8_move_55 (by decide) ?_
          exact kr1 _ ad1 _ _ _ _ _ _ _ rfl ⟨⟨-1, by omega, rfl⟩, hI⟩ had hN (fun i hi => hA i hi) hP hS dX8_move_56
        · skip
          refine lv_iload_n hE.1 hE.2.1 dX8_move_39 rfl (lv_at hl 1 rfl) ?_
          refine lv_iload_n hE.1 hE.2.1 dX8_move_40 rfl (lv_at hl 0 rfl) ?_
          refine lv_ishr hE.1 hE.2.1 dX8_move_41 ?_
          obtain ⟨z7, hz7, ez7⟩ := iI_of (iI (z4) >>> (iI (y5_3) &&& 31))
          refine x_top ez7 ?_
          refine lv_iconst (v := iI (1)) hE.1 hE.2.1 dX8_move_42 (by decide) ?_
          refine lv_iand hE.1 hE.2.1 dX8_move_43 ?_
          obtain ⟨z8, hz8, ez8⟩ := iI_and (iI (z7)) (iI (1)) 1 (by decide)
          refine x_top ez8 ?_
          refine s_if_eq (a := z8) (tgt := 49) hE.1 hE.2.1 (by omega) dX8_move_44 (by decide) (fun c9 => ?_) (fun c9 => ?_)
          · skip
            refine lv_iinc (v := iI (y5_3 + 1)) (lv' := [(3, .int (iI (y5_3 + 1))), (2, .int (iI (z4))), (1, .int (iI (z1))), (0, .ref (ad1 0))]) hE.1 hE.2.1 dX8_move_49 hl (k := 0) rfl ((iI_add (y5_3) (1)).trans (congrArg iI (by omega))) (by decide) rfl (fun ls hl => ?_)
            refine lv_goto (tgt := 33) hE.1 hE.2.1 dX8_move_52 (by decide) ?_
            exact ih5 _ (by omega) (y5_3 + 1) vl5 arl5 all5 _ _ _ rfl (by omega) hI (fun i j h => (hfr5 i j h)) hP hS (lv_sub hl [0, 1, 2, 3] rfl)
          · skip
            refine lv_iload_n hE.1 hE.2.1 dX8_move_47 rfl (lv_at hl 0 rfl) ?_
            exact kr1 _ ad1 _ _ _ _ _ _ _ rfl ⟨⟨y5_3, by omega, rfl⟩, hI⟩ had hN (fun i hi => hA i hi) hP hS dX8_move_48
    exact loop5 _ (0) v4 ar4 al4 _ _ _ rfl (by omega) hI (fun _ _ _ => rfl) hP hS hl
  · skip
    refine lv_iload_n hE.1 hE.2.1 dX8_move_9 rfl (lv_at hl 0 rfl) ?_
    exact kr0 _ _ _ _ _ _ _ _ rfl ⟨⟨z1, by omega, rfl⟩, hI⟩ hP hS dX8_move_10

set_option maxHeartbeats 4000000 in
set_option maxRecDepth 100000 in
theorem f_X8_lasts (l : Launch) (D : va_G) (K : Nat → ClassId) (ad : Nat → Nat) (v ar : sI) (al : sL) (hI : XI v) (sz : Nat) : Met l yX8_lasts (wM yX8_lasts cX8_lasts 2 (some .int)) (rmC 25 1 36880) (va_Pc [.ref (ad 0)] (fPre D K ad sz v ar al)) (va_Qi (fun (r : Int32) (u : Option (Nat → Nat) × sT) => (∃ z : Int, (-2147483648 ≤ z ∧ z ≤ 2147483647) ∧ r = iI z) ∧ XI u.2.1) (bF D K ad sz) (aF ad sz)) 1 36880 (aF ad sz) := by
  refine s_metF (by decide) (Nat.le_of_ble_eq_true rfl) ?_
  intro p e s m below meth c ls args Q hE hsz hB hl kr0 kr1
  subst hsz
  have hE : CallFix p m c cX8_lasts 2 s args tbG "TaleCourt" := hE
  obtain ⟨hP, hK, hN⟩ := hB
  obtain ⟨AF, hAF⟩ : ∃ A, A = aF ad s.heap.size := ⟨_, rfl⟩
  rw [← hAF] at kr0 kr1
  have hA : ∀ i, i < 132 → AF (ad i) := fun i hi => by rw [hAF]; exact Or.inl ⟨i, hi, rfl⟩
  have hA0 : ∀ q, s.heap.size ≤ q → AF q := fun q h => by rw [hAF]; exact Or.inr h
  have hS : va_S AF s.heap s.heap [] := va_S.rf
  have hl : lv_has ls 2 [(0, .ref (ad 0))] := hl
  refine lv_aload_n hE.1 hE.2.1 dX8_lasts_0 rfl (lv_at hl 0 rfl) ?_
  refine x_vp (nn := 0) (As := []) (rest := []) hE (s_X8_gameBar_0 l D K ad none 132 (by decide) v ar al hI  ) wPre_blind (wPre_now hK hN hP) (x_recv hK hP 0 (by decide) (xG_8 rfl) rfl) rfl mw_1027 mw_1029 mw_30 mw_114 mw_1030 (by decide +kernel) ⟨by decide, by decide⟩ hl.1 rfl (Nat.le_of_ble_eq_true rfl) ⟨Nat.le_of_ble_eq_true rfl, Nat.le_of_ble_eq_true rfl⟩ dX8_lasts_1 (fun r1 hr1 => ?_)
  obtain ⟨z1, hz1, rfl⟩ := hr1
  refine lv_istore_n (lv' := [(1, .int (iI (z1))), (0, .ref (ad 0))]) hE.1 hE.2.1 dX8_lasts_4 rfl hl (by decide) rfl (fun ls hl => ?_)
  refine lv_iload_n hE.1 hE.2.1 dX8_lasts_5 rfl (lv_at hl 0 rfl) ?_
  refine s_if_eq (a := z1) (tgt := 11) hE.1 hE.2.1 (by omega) dX8_lasts_6 (by decide) (fun c2 => ?_) (fun c2 => ?_)
  · skip
    refine lv_aload_n hE.1 hE.2.1 dX8_lasts_11 rfl (lv_at hl 1 rfl) ?_
    refine x_get (x := .ref (ad 56)) hE hK hP 0 (by decide) (xG_8 rfl) rfl hin8 7 (by decide) mw_487 rfl dX8_lasts_12 ?_
    refine lv_aload_n hE.1 hE.2.1 dX8_lasts_15 rfl (lv_at hl 1 rfl) ?_
    refine x_get (x := .ref (ad 23)) hE hK hP 0 (by decide) (xG_8 rfl) rfl hin8 3 (by decide) mw_483 rfl dX8_lasts_16 ?_
    refine lv_iconst (v := iI (0)) hE.1 hE.2.1 dX8_lasts_19 (by decide) ?_
    have hsub := aF_sub hS hA0 hA
    refine a_vvF (nn := 2) (As := [.ref (ad 23), .int (iI (0))]) (rest := []) hE hK hN hP hS hA0 hA (f_begin l D K ad v ar al hI _ (0) (by omega)) (x_recv hK hP 56 (by decide) (xG_2 rfl) rfl) rfl mw_1031 mw_1032 mw_1033 mw_120 mw_1034 (by decide +kernel) ⟨by decide, by decide⟩ hl.1 rfl (Nat.le_of_ble_eq_true rfl) ⟨Nat.le_of_ble_eq_true rfl, Nat.le_of_ble_eq_true rfl⟩ dX8_lasts_20 (fun u3 t3 H locs ht3 hp3 hb3 hS => ?_)
    obtain ⟨o3, v3, ar3, al3⟩ := u3
    obtain ⟨⟨ad1, ho3⟩, hI⟩ := hp3
    have ho3 : o3 = some ad1 := ho3
    subst ho3
    have hI : XI v3 := hI
    obtain ⟨had, hN, hA1, hP⟩ := hb3
    have hP : va_P D xcl (wW ad1 (xG ad1 K (some (ad1 132))) 133 v3 ar3 al3) H := by rw [← ht3]; exact hP
    rw [← had 0 (by decide)] at hl
    replace hA : ∀ i, i < 133 → AF (ad1 i) := fun i hi => hsub _ (hA1 i hi)
    refine lv_aload_n hE.1 hE.2.1 dX8_lasts_23 rfl (lv_at hl 1 rfl) ?_
    refine x_get (x := .ref (ad1 56)) hE hK hP 0 (by decide) (xG_8 rfl) rfl hin8 7 (by decide) mw_487 rfl dX8_lasts_24 ?_
    refine a_vi (nn := 0) (As := []) (rest := []) hE hK hN hP hS hA (s_X2_turnsToEnd_56 l D K ad1  v3 ar3 al3 hI  ) (x_recv hK hP 56 (by decide) (xG_2 rfl) rfl) rfl mw_1077 mw_1078 mw_1079 mw_120 mw_1080 (by decide +kernel) ⟨by decide, by decide⟩ hl.1 rfl (Nat.le_of_ble_eq_true rfl) ⟨Nat.le_of_ble_eq_true rfl, Nat.le_of_ble_eq_true rfl⟩ dX8_lasts_27 (fun r4 v4 ar4 al4 H locs hq4 hP hS => ?_)
    obtain ⟨⟨z4, hz4, rfl⟩, hI, hq4⟩ := hq4
    have hI : XI v4 := hI
    exact kr1 _ ad1 _ _ _ _ _ _ _ rfl ⟨⟨z4, by omega, rfl⟩, hI⟩ had hN (fun i hi => hA i hi) hP hS dX8_lasts_30
  · skip
    refine lv_iload_n hE.1 hE.2.1 dX8_lasts_9 rfl (lv_at hl 0 rfl) ?_
    exact kr0 _ _ _ _ _ _ _ _ rfl ⟨⟨z1, by omega, rfl⟩, hI⟩ hP hS dX8_lasts_10

set_option maxHeartbeats 4000000 in
set_option maxRecDepth 100000 in
theorem f_X8_good (l : Launch) (D : va_G) (K : Nat → ClassId) (ad : Nat → Nat) (v ar : sI) (al : sL) (hI : XI v) (sz : Nat) : Met l yX8_good (wM yX8_good cX8_good 2 (some .int)) (rmC 26 1 36880) (va_Pc [.ref (ad 0)] (fPre D K ad sz v ar al)) (va_Qi (fun (r : Int32) (u : Option (Nat → Nat) × sT) => (∃ z : Int, (-2147483648 ≤ z ∧ z ≤ 2147483647) ∧ r = iI z) ∧ XI u.2.1) (bF D K ad sz) (aF ad sz)) 1 36880 (aF ad sz) := by
  refine s_metF (by decide) (Nat.le_of_ble_eq_true rfl) ?_
  intro p e s m below meth c ls args Q hE hsz hB hl kr0 kr1
  subst hsz
  have hE : CallFix p m c cX8_good 2 s args tbG "TaleCourt" := hE
  obtain ⟨hP, hK, hN⟩ := hB
  obtain ⟨AF, hAF⟩ : ∃ A, A = aF ad s.heap.size := ⟨_, rfl⟩
  rw [← hAF] at kr0 kr1
  have hA : ∀ i, i < 132 → AF (ad i) := fun i hi => by rw [hAF]; exact Or.inl ⟨i, hi, rfl⟩
  have hA0 : ∀ q, s.heap.size ≤ q → AF q := fun q h => by rw [hAF]; exact Or.inr h
  have hS : va_S AF s.heap s.heap [] := va_S.rf
  have hl : lv_has ls 2 [(0, .ref (ad 0))] := hl
  refine lv_aload_n hE.1 hE.2.1 dX8_good_0 rfl (lv_at hl 0 rfl) ?_
  refine x_vp (nn := 0) (As := []) (rest := []) hE (s_X8_gameBar_0 l D K ad none 132 (by decide) v ar al hI  ) wPre_blind (wPre_now hK hN hP) (x_recv hK hP 0 (by decide) (xG_8 rfl) rfl) rfl mw_1027 mw_1029 mw_30 mw_114 mw_1030 (by decide +kernel) ⟨by decide, by decide⟩ hl.1 rfl (Nat.le_of_ble_eq_true rfl) ⟨Nat.le_of_ble_eq_true rfl, Nat.le_of_ble_eq_true rfl⟩ dX8_good_1 (fun r1 hr1 => ?_)
  obtain ⟨z1, hz1, rfl⟩ := hr1
  refine lv_istore_n (lv' := [(1, .int (iI (z1))), (0, .ref (ad 0))]) hE.1 hE.2.1 dX8_good_4 rfl hl (by decide) rfl (fun ls hl => ?_)
  refine lv_iload_n hE.1 hE.2.1 dX8_good_5 rfl (lv_at hl 0 rfl) ?_
  refine s_if_eq (a := z1) (tgt := 11) hE.1 hE.2.1 (by omega) dX8_good_6 (by decide) (fun c2 => ?_) (fun c2 => ?_)
  · skip
    refine lv_aload_n hE.1 hE.2.1 dX8_good_11 rfl (lv_at hl 1 rfl) ?_
    refine x_get (x := .ref (ad 56)) hE hK hP 0 (by decide) (xG_8 rfl) rfl hin8 7 (by decide) mw_487 rfl dX8_good_12 ?_
    refine lv_aload_n hE.1 hE.2.1 dX8_good_15 rfl (lv_at hl 1 rfl) ?_
    refine x_get (x := .ref (ad 23)) hE hK hP 0 (by decide) (xG_8 rfl) rfl hin8 3 (by decide) mw_483 rfl dX8_good_16 ?_
    refine lv_iconst (v := iI (1)) hE.1 hE.2.1 dX8_good_19 (by decide) ?_
    have hsub := aF_sub hS hA0 hA
    refine a_vvF (nn := 2) (As := [.ref (ad 23), .int (iI (1))]) (rest := []) hE hK hN hP hS hA0 hA (f_begin l D K ad v ar al hI _ (1) (by omega)) (x_recv hK hP 56 (by decide) (xG_2 rfl) rfl) rfl mw_1031 mw_1032 mw_1033 mw_120 mw_1034 (by decide +kernel) ⟨by decide, by decide⟩ hl.1 rfl (Nat.le_of_ble_eq_true rfl) ⟨Nat.le_of_ble_eq_true rfl, Nat.le_of_ble_eq_true rfl⟩ dX8_good_20 (fun u3 t3 H locs ht3 hp3 hb3 hS => ?_)
    obtain ⟨o3, v3, ar3, al3⟩ := u3
    obtain ⟨⟨ad1, ho3⟩, hI⟩ := hp3
    have ho3 : o3 = some ad1 := ho3
    subst ho3
    have hI : XI v3 := hI
    obtain ⟨had, hN, hA1, hP⟩ := hb3
    have hP : va_P D xcl (wW ad1 (xG ad1 K (some (ad1 132))) 133 v3 ar3 al3) H := by rw [← ht3]; exact hP
    rw [← had 0 (by decide)] at hl
    replace hA : ∀ i, i < 133 → AF (ad1 i) := fun i hi => hsub _ (hA1 i hi)
    refine lv_aload_n hE.1 hE.2.1 dX8_good_23 rfl (lv_at hl 1 rfl) ?_
    refine x_get (x := .ref (ad1 56)) hE hK hP 0 (by decide) (xG_8 rfl) rfl hin8 7 (by decide) mw_487 rfl dX8_good_24 ?_
    refine a_vi (nn := 0) (As := []) (rest := []) hE hK hN hP hS hA (s_X2_winningMoves_56 l D K ad1  v3 ar3 al3 hI  ) (x_recv hK hP 56 (by decide) (xG_2 rfl) rfl) rfl mw_1068 mw_1069 mw_1070 mw_120 mw_1071 (by decide +kernel) ⟨by decide, by decide⟩ hl.1 rfl (Nat.le_of_ble_eq_true rfl) ⟨Nat.le_of_ble_eq_true rfl, Nat.le_of_ble_eq_true rfl⟩ dX8_good_27 (fun r4 v4 ar4 al4 H locs hq4 hP hS => ?_)
    obtain ⟨⟨z4, hz4, rfl⟩, hI, hq4⟩ := hq4
    have hI : XI v4 := hI
    exact kr1 _ ad1 _ _ _ _ _ _ _ rfl ⟨⟨z4, by omega, rfl⟩, hI⟩ had hN (fun i hi => hA i hi) hP hS dX8_good_30
  · skip
    refine lv_iload_n hE.1 hE.2.1 dX8_good_9 rfl (lv_at hl 0 rfl) ?_
    exact kr0 _ _ _ _ _ _ _ _ rfl ⟨⟨z1, by omega, rfl⟩, hI⟩ hP hS dX8_good_10

set_option maxHeartbeats 4000000 in
set_option maxRecDepth 100000 in
theorem f_X8_kept (l : Launch) (D : va_G) (K : Nat → ClassId) (ad : Nat → Nat) (v ar : sI) (al : sL) (hI : XI v) (sz : Nat) (z_1 : Int) (hz_1 : -2147483648 ≤ z_1 ∧ z_1 ≤ 2147483647) (z_2 : Int) (hz_2 : -2147483648 ≤ z_2 ∧ z_2 ≤ 2147483647) : Met l yX8_kept (wM yX8_kept cX8_kept 6 (some .int)) (rmC 25 1 36880) (va_Pc [.ref (ad 0), .int (iI (z_1)), .int (iI (z_2))] (fPre D K ad sz v ar al)) (va_Qi (fun (r : Int32) (u : Option (Nat → Nat) × sT) => (∃ z : Int, (-2147483648 ≤ z ∧ z ≤ 2147483647) ∧ r = iI z) ∧ XI u.2.1) (bF D K ad sz) (aF ad sz)) 1 36880 (aF ad sz) := by
  refine s_metF (by decide) (Nat.le_of_ble_eq_true rfl) ?_
  intro p e s m below meth c ls args Q hE hsz hB hl kr0 kr1
  subst hsz
  have hE : CallFix p m c cX8_kept 6 s args tbG "TaleCourt" := hE
  obtain ⟨hP, hK, hN⟩ := hB
  obtain ⟨AF, hAF⟩ : ∃ A, A = aF ad s.heap.size := ⟨_, rfl⟩
  rw [← hAF] at kr0 kr1
  have hA : ∀ i, i < 132 → AF (ad i) := fun i hi => by rw [hAF]; exact Or.inl ⟨i, hi, rfl⟩
  have hA0 : ∀ q, s.heap.size ≤ q → AF q := fun q h => by rw [hAF]; exact Or.inr h
  have hS : va_S AF s.heap s.heap [] := va_S.rf
  have hl : lv_has ls 6 [(0, .ref (ad 0)), (1, .int (iI (z_1))), (2, .int (iI (z_2)))] := hl
  refine lv_aload_n hE.1 hE.2.1 dX8_kept_0 rfl (lv_at hl 0 rfl) ?_
  refine x_vp (nn := 0) (As := []) (rest := []) hE (s_X8_gameBar_0 l D K ad none 132 (by decide) v ar al hI  ) wPre_blind (wPre_now hK hN hP) (x_recv hK hP 0 (by decide) (xG_8 rfl) rfl) rfl mw_1027 mw_1029 mw_30 mw_114 mw_1030 (by decide +kernel) ⟨by decide, by decide⟩ hl.1 rfl (Nat.le_of_ble_eq_true rfl) ⟨Nat.le_of_ble_eq_true rfl, Nat.le_of_ble_eq_true rfl⟩ dX8_kept_1 (fun r1 hr1 => ?_)
  obtain ⟨z1, hz1, rfl⟩ := hr1
  refine lv_istore_n (lv' := [(3, .int (iI (z1))), (0, .ref (ad 0)), (1, .int (iI (z_1))), (2, .int (iI (z_2)))]) hE.1 hE.2.1 dX8_kept_4 rfl hl (by decide) rfl (fun ls hl => ?_)
  refine lv_iload_n hE.1 hE.2.1 dX8_kept_5 rfl (lv_at hl 0 rfl) ?_
  refine s_if_eq (a := z1) (tgt := 11) hE.1 hE.2.1 (by omega) dX8_kept_6 (by decide) (fun c2 => ?_) (fun c2 => ?_)
  · skip
    refine lv_aload_n hE.1 hE.2.1 dX8_kept_11 rfl (lv_at hl 1 rfl) ?_
    refine x_get (x := .ref (ad 3)) hE hK hP 0 (by decide) (xG_8 rfl) rfl hin8 1 (by decide) mw_481 rfl dX8_kept_12 ?_
    refine lv_iload_n hE.1 hE.2.1 dX8_kept_15 rfl (lv_at hl 2 rfl) ?_
    refine x_vp (nn := 1) (As := [.int (iI (z_1))]) (rest := []) hE (s_X1_hasMotif_3 l D K ad none 132 (by decide) v ar al hI  (z_1) (by omega)) wPre_blind (wPre_now hK hN hP) (x_recv hK hP 3 (by decide) (xG_1 rfl) rfl) rfl mw_694 mw_695 mw_696 mw_116 mw_697 (by decide +kernel) ⟨by decide, by decide⟩ hl.1 rfl (Nat.le_of_ble_eq_true rfl) ⟨Nat.le_of_ble_eq_true rfl, Nat.le_of_ble_eq_true rfl⟩ dX8_kept_16 (fun r3 hr3 => ?_)
    obtain ⟨z3, hz3, rfl⟩ := hr3
    refine s_if_eq (a := z3) (tgt := 33) hE.1 hE.2.1 (by omega) dX8_kept_19 (by decide) (fun c4 => ?_) (fun c4 => ?_)
    · skip
      refine lv_bipush (v := iI (-2)) hE.1 hE.2.1 dX8_kept_33 (by decide) ?_
      exact kr0 _ _ _ _ _ _ _ _ rfl ⟨⟨-2, by omega, rfl⟩, hI⟩ hP hS dX8_kept_35
    · skip
      refine lv_aload_n hE.1 hE.2.1 dX8_kept_22 rfl (lv_at hl 1 rfl) ?_
      refine x_get (x := .ref (ad 3)) hE hK hP 0 (by decide) (xG_8 rfl) rfl hin8 1 (by decide) mw_481 rfl dX8_kept_23 ?_
      refine lv_iload_n hE.1 hE.2.1 dX8_kept_26 rfl (lv_at hl 3 rfl) ?_
      refine x_vp (nn := 1) (As := [.int (iI (z_2))]) (rest := []) hE (s_X1_mayKeep_3 l D K ad none 132 (by decide) v ar al hI  (z_2) (by omega)) wPre_blind (wPre_now hK hN hP) (x_recv hK hP 3 (by decide) (xG_1 rfl) rfl) rfl mw_1089 mw_1090 mw_1091 mw_116 mw_1092 (by decide +kernel) ⟨by decide, by decide⟩ hl.1 rfl (Nat.le_of_ble_eq_true rfl) ⟨Nat.le_of_ble_eq_true rfl, Nat.le_of_ble_eq_true rfl⟩ dX8_kept_27 (fun r5 hr5 => ?_)
      obtain ⟨z5, hz5, rfl⟩ := hr5
      refine s_if_ne (a := z5) (tgt := 36) hE.1 hE.2.1 (by omega) dX8_kept_30 (by decide) (fun c6 => ?_) (fun c6 => ?_)
      · skip
        refine lv_aload_n hE.1 hE.2.1 dX8_kept_36 rfl (lv_at hl 1 rfl) ?_
        refine x_get (x := .ref (ad 3)) hE hK hP 0 (by decide) (xG_8 rfl) rfl hin8 1 (by decide) mw_481 rfl dX8_kept_37 ?_
        refine x_get (x := .ref (ad 7)) hE hK hP 3 (by decide) (xG_1 rfl) rfl hin1 14 (by decide) mw_230 rfl dX8_kept_40 ?_
        refine lv_iload_n hE.1 hE.2.1 dX8_kept_43 rfl (lv_at hl 2 rfl) ?_
        refine x_iald (j := iI (z_1)) hE hK hP 7 (by decide) (xG_10 rfl) (iI_in (n := 9) (by omega)) dX8_kept_44 ?_
        obtain ⟨z8, hz8, ez8⟩ := iI_of (ar 7 (iI (z_1)).toNatClampNeg)
        refine x_top ez8 ?_
        refine lv_istore (lv' := [(4, .int (iI (z8))), (3, .int (iI (z1))), (0, .ref (ad 0)), (1, .int (iI (z_1))), (2, .int (iI (z_2)))]) hE.1 hE.2.1 dX8_kept_45 hl (by decide) rfl (fun ls hl => ?_)
        refine lv_aload_n hE.1 hE.2.1 dX8_kept_47 rfl (lv_at hl 2 rfl) ?_
        refine x_get (x := .ref (ad 3)) hE hK hP 0 (by decide) (xG_8 rfl) rfl hin8 1 (by decide) mw_481 rfl dX8_kept_48 ?_
        refine lv_iload_n hE.1 hE.2.1 dX8_kept_51 rfl (lv_at hl 3 rfl) ?_
        refine lv_iload_n hE.1 hE.2.1 dX8_kept_52 rfl (lv_at hl 4 rfl) ?_
        refine a_vv (nn := 2) (As := [.int (iI (z_1)), .int (iI (z_2))]) (rest := []) hE hK hN hP hS hA (s_X1_setKeeper_3 l D K ad none 132 (by decide) v ar al hI  (z_1) (by omega) (z_2) (by omega)) (x_recv hK hP 3 (by decide) (xG_1 rfl) rfl) rfl mw_1094 mw_664 mw_665 mw_116 mw_666 (by decide +kernel) ⟨by decide, by decide⟩ hl.1 rfl (Nat.le_of_ble_eq_true rfl) ⟨Nat.le_of_ble_eq_true rfl, Nat.le_of_ble_eq_true rfl⟩ dX8_kept_53 (fun v9 ar9 al9 H locs hq9 hP hS => ?_)
        obtain ⟨hI, hq9⟩ := hq9
        have hI : XI v9 := hI
        refine lv_aload_n hE.1 hE.2.1 dX8_kept_56 rfl (lv_at hl 2 rfl) ?_
        refine x_get (x := .ref (ad 56)) hE hK hP 0 (by decide) (xG_8 rfl) rfl hin8 7 (by decide) mw_487 rfl dX8_kept_57 ?_
        refine lv_aload_n hE.1 hE.2.1 dX8_kept_60 rfl (lv_at hl 2 rfl) ?_
        refine x_get (x := .ref (ad 23)) hE hK hP 0 (by decide) (xG_8 rfl) rfl hin8 3 (by decide) mw_483 rfl dX8_kept_61 ?_
        refine lv_iconst (v := iI (1)) hE.1 hE.2.1 dX8_kept_64 (by decide) ?_
        have hsub := aF_sub hS hA0 hA
        refine a_vvF (nn := 2) (As := [.ref (ad 23), .int (iI (1))]) (rest := []) hE hK hN hP hS hA0 hA (f_begin l D K ad v9 ar9 al9 hI _ (1) (by omega)) (x_recv hK hP 56 (by decide) (xG_2 rfl) rfl) rfl mw_1031 mw_1032 mw_1033 mw_120 mw_1034 (by decide +kernel) ⟨by decide, by decide⟩ hl.1 rfl (Nat.le_of_ble_eq_true rfl) ⟨Nat.le_of_ble_eq_true rfl, Nat.le_of_ble_eq_true rfl⟩ dX8_kept_65 (fun u10 t10 H locs ht10 hp10 hb10 hS => ?_)
        obtain ⟨o10, v10, ar10, al10⟩ := u10
        obtain ⟨⟨ad1, ho10⟩, hI⟩ := hp10
        have ho10 : o10 = some ad1 := ho10
        subst ho10
        have hI : XI v10 := hI
        obtain ⟨had, hN, hA1, hP⟩ := hb10
        have hP : va_P D xcl (wW ad1 (xG ad1 K (some (ad1 132))) 133 v10 ar10 al10) H := by rw [← ht10]; exact hP
        rw [← had 0 (by decide)] at hl
        replace hA : ∀ i, i < 133 → AF (ad1 i) := fun i hi => hsub _ (hA1 i hi)
        refine lv_aload_n hE.1 hE.2.1 dX8_kept_68 rfl (lv_at hl 2 rfl) ?_
        refine x_get (x := .ref (ad1 56)) hE hK hP 0 (by decide) (xG_8 rfl) rfl hin8 7 (by decide) mw_487 rfl dX8_kept_69 ?_
        refine a_vi (nn := 0) (As := []) (rest := []) hE hK hN hP hS hA (s_X2_isWon_56 l D K ad1  v10 ar10 al10 hI  ) (x_recv hK hP 56 (by decide) (xG_2 rfl) rfl) rfl mw_1037 mw_1038 mw_1039 mw_120 mw_1040 (by decide +kernel) ⟨by decide, by decide⟩ hl.1 rfl (Nat.le_of_ble_eq_true rfl) ⟨Nat.le_of_ble_eq_true rfl, Nat.le_of_ble_eq_true rfl⟩ dX8_kept_72 (fun r11 v11 ar11 al11 H locs hq11 hP hS => ?_)
        obtain ⟨⟨z11, hz11, rfl⟩, hI, hq11⟩ := hq11
        have hI : XI v11 := hI
        refine lv_istore (lv' := [(5, .int (iI (z11))), (4, .int (iI (z8))), (3, .int (iI (z1))), (0, .ref (ad1 0)), (1, .int (iI (z_1))), (2, .int (iI (z_2)))]) hE.1 hE.2.1 dX8_kept_75 hl (by decide) rfl (fun ls hl => ?_)
        refine lv_aload_n hE.1 hE.2.1 dX8_kept_77 rfl (lv_at hl 3 rfl) ?_
        refine x_get (x := .ref (ad1 3)) hE hK hP 0 (by decide) (xG_8 rfl) rfl hin8 1 (by decide) mw_481 rfl dX8_kept_78 ?_
        refine lv_iload_n hE.1 hE.2.1 dX8_kept_81 rfl (lv_at hl 4 rfl) ?_
        refine lv_iload hE.1 hE.2.1 dX8_kept_82 (lv_at hl 1 rfl) ?_
        refine a_vv (nn := 2) (As := [.int (iI (z_1)), .int (iI (z8))]) (rest := []) hE hK hN hP hS hA (s_X1_setKeeper_3 l D K ad1 (some (ad1 132)) 133 (by decide) v11 ar11 al11 hI  (z_1) (by omega) (z8) (by omega)) (x_recv hK hP 3 (by decide) (xG_1 rfl) rfl) rfl mw_1094 mw_664 mw_665 mw_116 mw_666 (by decide +kernel) ⟨by decide, by decide⟩ hl.1 rfl (Nat.le_of_ble_eq_true rfl) ⟨Nat.le_of_ble_eq_true rfl, Nat.le_of_ble_eq_true rfl⟩ dX8_kept_84 (fun v12 ar12 al12 H locs hq12 hP hS => ?_)
        obtain ⟨hI, hq12⟩ := hq12
        have hI : XI v12 := hI
        refine lv_iload hE.1 hE.2.1 dX8_kept_87 (lv_at hl 0 rfl) ?_
        refine s_if_eq (a := z11) (tgt := 96) hE.1 hE.2.1 (by omega) dX8_kept_89 (by decide) (fun c13 => ?_) (fun c13 => ?_)
        · skip
          refine lv_iconst (v := iI (0)) hE.1 hE.2.1 dX8_kept_96 (by decide) ?_
          exact kr1 _ ad1 _ _ _ _ _ _ _ rfl ⟨⟨0, by omega, rfl⟩, hI⟩ had hN (fun i hi => hA i hi) hP hS dX8_kept_97
        · skip
          refine lv_iconst (v := iI (1)) hE.1 hE.2.1 dX8_kept_92 (by decide) ?_
          refine lv_goto (tgt := 97) hE.1 hE.2.1 dX8_kept_93 (by decide) ?_
          exact kr1 _ ad1 _ _ _ _ _ _ _ rfl ⟨⟨1, by omega, rfl⟩, hI⟩ had hN (fun i hi => hA i hi) hP hS dX8_kept_97
      · skip
        refine lv_bipush (v := iI (-2)) hE.1 hE.2.1 dX8_kept_33 (by decide) ?_
        exact kr0 _ _ _ _ _ _ _ _ rfl ⟨⟨-2, by omega, rfl⟩, hI⟩ hP hS dX8_kept_35
  · skip
    refine lv_iload_n hE.1 hE.2.1 dX8_kept_9 rfl (lv_at hl 0 rfl) ?_
    exact kr0 _ _ _ _ _ _ _ _ rfl ⟨⟨z1, by omega, rfl⟩, hI⟩ hP hS dX8_kept_10

set_option maxHeartbeats 4000000 in
set_option maxRecDepth 100000 in
theorem f_X8_trade (l : Launch) (D : va_G) (K : Nat → ClassId) (ad : Nat → Nat) (v ar : sI) (al : sL) (hI : XI v) (sz : Nat) : Met l yX8_trade (wM yX8_trade cX8_trade 4 (some .int)) (rmC 26 1 36880) (va_Pc [.ref (ad 0)] (fPre D K ad sz v ar al)) (va_Qi (fun (r : Int32) (u : Option (Nat → Nat) × sT) => (∃ z : Int, (-2147483648 ≤ z ∧ z ≤ 2147483647) ∧ r = iI z) ∧ XI u.2.1) (bF D K ad sz) (aF ad sz)) 1 36880 (aF ad sz) := by
  refine s_metF (by decide) (Nat.le_of_ble_eq_true rfl) ?_
  intro p e s m below meth c ls args Q hE hsz hB hl kr0 kr1
  subst hsz
  have hE : CallFix p m c cX8_trade 4 s args tbG "TaleCourt" := hE
  obtain ⟨hP, hK, hN⟩ := hB
  obtain ⟨AF, hAF⟩ : ∃ A, A = aF ad s.heap.size := ⟨_, rfl⟩
  rw [← hAF] at kr0 kr1
  have hA : ∀ i, i < 132 → AF (ad i) := fun i hi => by rw [hAF]; exact Or.inl ⟨i, hi, rfl⟩
  have hA0 : ∀ q, s.heap.size ≤ q → AF q := fun q h => by rw [hAF]; exact Or.inr h
  have hS : va_S AF s.heap s.heap [] := va_S.rf
  have hl : lv_has ls 4 [(0, .ref (ad 0))] := hl
  refine lv_aload_n hE.1 hE.2.1 dX8_trade_0 rfl (lv_at hl 0 rfl) ?_
  refine x_vp (nn := 0) (As := []) (rest := []) hE (s_X8_gameBar_0 l D K ad none 132 (by decide) v ar al hI  ) wPre_blind (wPre_now hK hN hP) (x_recv hK hP 0 (by decide) (xG_8 rfl) rfl) rfl mw_1027 mw_1029 mw_30 mw_114 mw_1030 (by decide +kernel) ⟨by decide, by decide⟩ hl.1 rfl (Nat.le_of_ble_eq_true rfl) ⟨Nat.le_of_ble_eq_true rfl, Nat.le_of_ble_eq_true rfl⟩ dX8_trade_1 (fun r1 hr1 => ?_)
  obtain ⟨z1, hz1, rfl⟩ := hr1
  refine lv_istore_n (lv' := [(1, .int (iI (z1))), (0, .ref (ad 0))]) hE.1 hE.2.1 dX8_trade_4 rfl hl (by decide) rfl (fun ls hl => ?_)
  refine lv_iload_n hE.1 hE.2.1 dX8_trade_5 rfl (lv_at hl 0 rfl) ?_
  refine s_if_eq (a := z1) (tgt := 11) hE.1 hE.2.1 (by omega) dX8_trade_6 (by decide) (fun c2 => ?_) (fun c2 => ?_)
  · skip
    refine lv_aload_n hE.1 hE.2.1 dX8_trade_11 rfl (lv_at hl 1 rfl) ?_
    refine x_get (x := .ref (ad 56)) hE hK hP 0 (by decide) (xG_8 rfl) rfl hin8 7 (by decide) mw_487 rfl dX8_trade_12 ?_
    refine lv_aload_n hE.1 hE.2.1 dX8_trade_15 rfl (lv_at hl 1 rfl) ?_
    refine x_get (x := .ref (ad 23)) hE hK hP 0 (by decide) (xG_8 rfl) rfl hin8 3 (by decide) mw_483 rfl dX8_trade_16 ?_
    refine lv_iconst (v := iI (1)) hE.1 hE.2.1 dX8_trade_19 (by decide) ?_
    have hsub := aF_sub hS hA0 hA
    refine a_vvF (nn := 2) (As := [.ref (ad 23), .int (iI (1))]) (rest := []) hE hK hN hP hS hA0 hA (f_begin l D K ad v ar al hI _ (1) (by omega)) (x_recv hK hP 56 (by decide) (xG_2 rfl) rfl) rfl mw_1031 mw_1032 mw_1033 mw_120 mw_1034 (by decide +kernel) ⟨by decide, by decide⟩ hl.1 rfl (Nat.le_of_ble_eq_true rfl) ⟨Nat.le_of_ble_eq_true rfl, Nat.le_of_ble_eq_true rfl⟩ dX8_trade_20 (fun u3 t3 H locs ht3 hp3 hb3 hS => ?_)
    obtain ⟨o3, v3, ar3, al3⟩ := u3
    obtain ⟨⟨ad1, ho3⟩, hI⟩ := hp3
    have ho3 : o3 = some ad1 := ho3
    subst ho3
    have hI : XI v3 := hI
    obtain ⟨had, hN, hA1, hP⟩ := hb3
    have hP : va_P D xcl (wW ad1 (xG ad1 K (some (ad1 132))) 133 v3 ar3 al3) H := by rw [← ht3]; exact hP
    rw [← had 0 (by decide)] at hl
    replace hA : ∀ i, i < 133 → AF (ad1 i) := fun i hi => hsub _ (hA1 i hi)
    refine lv_aload_n hE.1 hE.2.1 dX8_trade_23 rfl (lv_at hl 1 rfl) ?_
    refine x_get (x := .ref (ad1 56)) hE hK hP 0 (by decide) (xG_8 rfl) rfl hin8 7 (by decide) mw_487 rfl dX8_trade_24 ?_
    refine a_vi (nn := 0) (As := []) (rest := []) hE hK hN hP hS hA (s_X2_isWon_56 l D K ad1  v3 ar3 al3 hI  ) (x_recv hK hP 56 (by decide) (xG_2 rfl) rfl) rfl mw_1037 mw_1038 mw_1039 mw_120 mw_1040 (by decide +kernel) ⟨by decide, by decide⟩ hl.1 rfl (Nat.le_of_ble_eq_true rfl) ⟨Nat.le_of_ble_eq_true rfl, Nat.le_of_ble_eq_true rfl⟩ dX8_trade_27 (fun r4 v4 ar4 al4 H locs hq4 hP hS => ?_)
    obtain ⟨⟨z4, hz4, rfl⟩, hI, hq4⟩ := hq4
    have hI : XI v4 := hI
    refine s_if_eq (a := z4) (tgt := 35) hE.1 hE.2.1 (by omega) dX8_trade_30 (by decide) (fun c5 => ?_) (fun c5 => ?_)
    · skip
      refine lv_iconst (v := iI (0)) hE.1 hE.2.1 dX8_trade_35 (by decide) ?_
      refine lv_istore_n (lv' := [(2, .int (iI (0))), (1, .int (iI (z1))), (0, .ref (ad1 0))]) hE.1 hE.2.1 dX8_trade_36 rfl hl (by decide) rfl (fun ls hl => ?_)
      have loop6 : ∀ (k6 : Nat) (y6_2 : Int) (vl6 arl6 : sI) (all6 : sL) (H : Heap) (locs : List Loc) (ls : Array Slot), (9 - y6_2).toNat = k6 → (0 ≤ y6_2 ∧ y6_2 ≤ 9) → XI vl6 → (∀ i j : Nat, (i, j) ∉ ([(56, 3), (56, 4), (57, 2), (57, 3), (57, 4), (57, 5), (57, 8), (57, 9)] : List (Nat × Nat)) → vl6 i j = v4 i j) → va_P D xcl (wW ad1 (xG ad1 K (some (ad1 132))) 133 vl6 arl6 all6) H → va_S AF s.heap H locs → lv_has ls 4 [(2, .int (iI (y6_2))), (1, .int (iI (z1))), (0, .ref (ad1 0))] → W p l e (rmC 26 1 36880) s m args below meth c H locs 1 36880 Q (F0 m 37 ls []) := by
        intro k6
        induction k6 using Nat.strongRecOn with
        | _ k6 ih6 =>
          intro y6_2 vl6 arl6 all6 H locs ls hk6 hb_y6_2 hI hfr6 hP hS hl
          refine lv_iload_n hE.1 hE.2.1 dX8_trade_37 rfl (lv_at hl 0 rfl) ?_
          refine lv_aload_n hE.1 hE.2.1 dX8_trade_38 rfl (lv_at hl 2 rfl) ?_
          refine x_get (x := .ref (ad1 3)) hE hK hP 0 (by decide) (xG_8 rfl) rfl hin8 1 (by decide) mw_481 rfl dX8_trade_39 ?_
          obtain ⟨z7, hz7, ez7⟩ := XI_get hI 3 2 0 9 (by decide)
          refine x_get (x := .int (vl6 3 2)) hE hK hP 3 (by decide) (xG_1 rfl) rfl hin1 2 (by decide) mw_189 rfl dX8_trade_42 ?_
          refine x_top (y := iI (z7)) ez7 ?_
          refine s_icmp_ge (a := y6_2) (b := z7) (tgt := 91) hE.1 hE.2.1 (by omega) (by omega) dX8_trade_45 (by decide) (fun c8 => ?_) (fun c8 => ?_)
          · skip
            refine lv_iconst (v := iI (-1)) hE.1 hE.2.1 dX8_trade_91 (by decide) ?_
            exact kr1 _ ad1 _ _ _ _ _ _ _ rfl ⟨⟨-1, by omega, rfl⟩, hI⟩ had hN (fun i hi => hA i hi) hP hS dX8_trade_92
          · skip
            refine lv_iload_n hE.1 hE.2.1 dX8_trade_48 rfl (lv_at hl 0 rfl) ?_
            refine lv_iconst (v := iI (1)) hE.1 hE.2.1 dX8_trade_49 (by decide) ?_
            refine lv_iadd hE.1 hE.2.1 dX8_trade_50 ?_
            refine x_top (y := iI (y6_2 + 1)) ((iI_add (y6_2) (1)).trans (congrArg iI (by omega))) ?_
            refine lv_istore_n (lv' := [(3, .int (iI (y6_2 + 1))), (2, .int (iI (y6_2))), (1, .int (iI (z1))), (0, .ref (ad1 0))]) hE.1 hE.2.1 dX8_trade_51 rfl hl (by decide) rfl (fun ls hl => ?_)
            have loop9 : ∀ (k9 : Nat) (y9_3 : Int) (vl9 arl9 : sI) (all9 : sL) (H : Heap) (locs : List Loc) (ls : Array Slot), (10 - y9_3).toNat = k9 → (1 ≤ y9_3 ∧ y9_3 ≤ 10) → XI vl9 → (∀ i j : Nat, (i, j) ∉ ([(56, 3), (56, 4), (57, 2), (57, 3), (57, 4), (57, 5), (57, 8), (57, 9)] : List (Nat × Nat)) → vl9 i j = vl6 i j) → va_P D xcl (wW ad1 (xG ad1 K (some (ad1 132))) 133 vl9 arl9 all9) H → va_S AF s.heap H locs → lv_has ls 4 [(3, .int (iI (y9_3))), (2, .int (iI (y6_2))), (1, .int (iI (z1))), (0, .ref (ad1 0))] → W p l e (rmC 26 1 36880) s m args below meth c H locs 1 36880 Q (F0 m 52 ls []) := by
              intro k9
              induction k9 using Nat.strongRecOn with
              | _ k9 ih9 =>
                intro y9_3 vl9 arl9 all9 H locs ls hk9 hb_y9_3 hI hfr9 hP hS hl
                refine lv_iload_n hE.1 hE.2.1 dX8_trade_52 rfl (lv_at hl 0 rfl) ?_
                refine lv_aload_n hE.1 hE.2.1 dX8_trade_53 rfl (lv_at hl 3 rfl) ?_
                refine x_get (x := .ref (ad1 3)) hE hK hP 0 (by decide) (xG_8 rfl) rfl hin8 1 (by decide) mw_481 rfl dX8_trade_54 ?_
                refine x_get (x := .int (vl9 3 2)) hE hK hP 3 (by decide) (xG_1 rfl) rfl hin1 2 (by decide) mw_189 rfl dX8_trade_57 ?_
                refine x_top (y := iI (z7)) ((hfr9 3 2 (by decide)).trans ez7) ?_
                refine s_icmp_ge (a := y9_3) (b := z7) (tgt := 85) hE.1 hE.2.1 (by omega) (by omega) dX8_trade_60 (by decide) (fun c10 => ?_) (fun c10 => ?_)
                · skip
                  refine lv_iinc (v := iI (y6_2 + 1)) (lv' := [(2, .int (iI (y6_2 + 1))), (3, .int (iI (y9_3))), (1, .int (iI (z1))), (0, .ref (ad1 0))]) hE.1 hE.2.1 dX8_trade_85 hl (k := 1) rfl ((iI_add (y6_2) (1)).trans (congrArg iI (by omega))) (by decide) rfl (fun ls hl => ?_)
                  refine lv_goto (tgt := 37) hE.1 hE.2.1 dX8_trade_88 (by decide) ?_
                  exact ih6 _ (by omega) (y6_2 + 1) vl9 arl9 all9 _ _ _ rfl (by omega) hI (fun i j h => ((hfr9 i j (fun q => h (mem_sub (by decide) q))).trans (hfr6 i j h))) hP hS (lv_sub hl [0, 2, 3] rfl)
                · skip
                  refine lv_aload_n hE.1 hE.2.1 dX8_trade_63 rfl (lv_at hl 3 rfl) ?_
                  refine lv_iload_n hE.1 hE.2.1 dX8_trade_64 rfl (lv_at hl 1 rfl) ?_
                  refine lv_iload_n hE.1 hE.2.1 dX8_trade_65 rfl (lv_at hl 0 rfl) ?_
                  refine a_vi (nn := 2) (As := [.int (iI (y6_2)), .int (iI (y9_3))]) (rest := []) hE hK hN hP hS hA (s_X8_tradeWins_0 l D K ad1  vl9 arl9 all9 hI  (y6_2) (by omega) (y9_3) (by omega)) (x_recv hK hP 0 (by decide) (xG_8 rfl) rfl) rfl mw_1099 mw_1101 mw_35 mw_114 mw_1102 (by decide +kernel) ⟨by decide, by decide⟩ hl.1 rfl (Nat.le_of_ble_eq_true rfl) ⟨Nat.le_of_ble_eq_true rfl, Nat.le_of_ble_eq_true rfl⟩ dX8_trade_66 (fun r11 v11 ar11 al11 H locs hq11 hP hS => ?_)
                  obtain ⟨⟨z11, hz11, rfl⟩, hI, hq11⟩ := hq11
                  have hI : XI v11 := hI
                  refine s_if_eq (a := z11) (tgt := 79) hE.1 hE.2.1 (by omega) dX8_trade_69 (by decide) (fun c12 => ?_) (fun c12 => ?_)
                  · skip
                    refine lv_iinc (v := iI (y9_3 + 1)) (lv' := [(3, .int (iI (y9_3 + 1))), (2, .int (iI (y6_2))), (1, .int (iI (z1))), (0, .ref (ad1 0))]) hE.1 hE.2.1 dX8_trade_79 hl (k := 0) rfl ((iI_add (y9_3) (1)).trans (congrArg iI (by omega))) (by decide) rfl (fun ls hl => ?_)
                    refine lv_goto (tgt := 52) hE.1 hE.2.1 dX8_trade_82 (by decide) ?_
                    exact ih9 _ (by omega) (y9_3 + 1) v11 ar11 al11 _ _ _ rfl (by omega) hI (fun i j h => ((hq11 i j (fun q => h (mem_sub (by decide) q))).trans (hfr9 i j h))) hP hS (lv_sub hl [0, 1, 2, 3] rfl)
                  · skip
                    refine lv_bipush (v := iI (10)) hE.1 hE.2.1 dX8_trade_72 (by decide) ?_
                    refine lv_iload_n hE.1 hE.2.1 dX8_trade_74 rfl (lv_at hl 1 rfl) ?_
                    refine lv_imul hE.1 hE.2.1 dX8_trade_75 ?_
                    refine x_top (y := iI (10 * y6_2)) ((iI_mul (10) (y6_2)).trans (congrArg iI (by omega))) ?_
                    refine lv_iload_n hE.1 hE.2.1 dX8_trade_76 rfl (lv_at hl 0 rfl) ?_
                    refine lv_iadd hE.1 hE.2.1 dX8_trade_77 ?_
                    refine x_top (y := iI (10 * y6_2 + y9_3)) ((iI_add (10 * y6_2) (y9_3)).trans (congrArg iI (by omega))) ?_
                    exact kr1 _ ad1 _ _ _ _ _ _ _ rfl ⟨⟨10 * y6_2 + y9_3, by omega, rfl⟩, hI⟩ had hN (fun i hi => hA i hi) hP hS dX8_trade_78
            exact loop9 _ (y6_2 + 1) vl6 arl6 all6 _ _ _ rfl (by omega) hI (fun _ _ _ => rfl) hP hS hl
      exact loop6 _ (0) v4 ar4 al4 _ _ _ rfl (by omega) hI (fun _ _ _ => rfl) hP hS hl
    · skip
      refine lv_iconst (v := iI (-1)) hE.1 hE.2.1 dX8_trade_33 (by decide) ?_
      exact kr1 _ ad1 _ _ _ _ _ _ _ rfl ⟨⟨-1, by omega, rfl⟩, hI⟩ had hN (fun i hi => hA i hi) hP hS dX8_trade_34
  · skip
    refine lv_iload_n hE.1 hE.2.1 dX8_trade_9 rfl (lv_at hl 0 rfl) ?_
    exact kr0 _ _ _ _ _ _ _ _ rfl ⟨⟨z1, by omega, rfl⟩, hI⟩ hP hS dX8_trade_10

set_option maxHeartbeats 4000000 in
set_option maxRecDepth 100000 in
theorem f_X8_blunder (l : Launch) (D : va_G) (K : Nat → ClassId) (ad : Nat → Nat) (v ar : sI) (al : sL) (hI : XI v) (sz : Nat) : Met l yX8_blunder (wM yX8_blunder cX8_blunder 2 (some .int)) (rmC 26 1 36880) (va_Pc [.ref (ad 0)] (fPre D K ad sz v ar al)) (va_Qi (fun (r : Int32) (u : Option (Nat → Nat) × sT) => (∃ z : Int, (-2147483648 ≤ z ∧ z ≤ 2147483647) ∧ r = iI z) ∧ XI u.2.1) (bF D K ad sz) (aF ad sz)) 1 36880 (aF ad sz) := by
  refine s_metF (by decide) (Nat.le_of_ble_eq_true rfl) ?_
  intro p e s m below meth c ls args Q hE hsz hB hl kr0 kr1
  subst hsz
  have hE : CallFix p m c cX8_blunder 2 s args tbG "TaleCourt" := hE
  obtain ⟨hP, hK, hN⟩ := hB
  obtain ⟨AF, hAF⟩ : ∃ A, A = aF ad s.heap.size := ⟨_, rfl⟩
  rw [← hAF] at kr0 kr1
  have hA : ∀ i, i < 132 → AF (ad i) := fun i hi => by rw [hAF]; exact Or.inl ⟨i, hi, rfl⟩
  have hA0 : ∀ q, s.heap.size ≤ q → AF q := fun q h => by rw [hAF]; exact Or.inr h
  have hS : va_S AF s.heap s.heap [] := va_S.rf
  have hl : lv_has ls 2 [(0, .ref (ad 0))] := hl
  refine lv_aload_n hE.1 hE.2.1 dX8_blunder_0 rfl (lv_at hl 0 rfl) ?_
  refine x_vp (nn := 0) (As := []) (rest := []) hE (s_X8_gameBar_0 l D K ad none 132 (by decide) v ar al hI  ) wPre_blind (wPre_now hK hN hP) (x_recv hK hP 0 (by decide) (xG_8 rfl) rfl) rfl mw_1027 mw_1029 mw_30 mw_114 mw_1030 (by decide +kernel) ⟨by decide, by decide⟩ hl.1 rfl (Nat.le_of_ble_eq_true rfl) ⟨Nat.le_of_ble_eq_true rfl, Nat.le_of_ble_eq_true rfl⟩ dX8_blunder_1 (fun r1 hr1 => ?_)
  obtain ⟨z1, hz1, rfl⟩ := hr1
  refine lv_istore_n (lv' := [(1, .int (iI (z1))), (0, .ref (ad 0))]) hE.1 hE.2.1 dX8_blunder_4 rfl hl (by decide) rfl (fun ls hl => ?_)
  refine lv_iload_n hE.1 hE.2.1 dX8_blunder_5 rfl (lv_at hl 0 rfl) ?_
  refine s_if_eq (a := z1) (tgt := 11) hE.1 hE.2.1 (by omega) dX8_blunder_6 (by decide) (fun c2 => ?_) (fun c2 => ?_)
  · skip
    refine lv_aload_n hE.1 hE.2.1 dX8_blunder_11 rfl (lv_at hl 1 rfl) ?_
    refine x_get (x := .ref (ad 56)) hE hK hP 0 (by decide) (xG_8 rfl) rfl hin8 7 (by decide) mw_487 rfl dX8_blunder_12 ?_
    refine lv_aload_n hE.1 hE.2.1 dX8_blunder_15 rfl (lv_at hl 1 rfl) ?_
    refine x_get (x := .ref (ad 23)) hE hK hP 0 (by decide) (xG_8 rfl) rfl hin8 3 (by decide) mw_483 rfl dX8_blunder_16 ?_
    have hsub := aF_sub hS hA0 hA
    refine a_viF (nn := 1) (As := [.ref (ad 23)]) (rest := []) hE hK hN hP hS hA0 hA (f_X2_firstBlunder l D K ad v ar al hI _ ) (x_recv hK hP 56 (by decide) (xG_2 rfl) rfl) rfl mw_1112 mw_1113 mw_1114 mw_120 mw_1115 (by decide +kernel) ⟨by decide, by decide⟩ hl.1 rfl (Nat.le_of_ble_eq_true rfl) ⟨Nat.le_of_ble_eq_true rfl, Nat.le_of_ble_eq_true rfl⟩ dX8_blunder_19 (fun r3 u3 t3 H locs ht3 hp3 hb3 hS => ?_)
    obtain ⟨o3, v3, ar3, al3⟩ := u3
    obtain ⟨⟨z3, hz3, rfl⟩, ⟨ad1, ho3⟩, hI⟩ := hp3
    have ho3 : o3 = some ad1 := ho3
    subst ho3
    have hI : XI v3 := hI
    obtain ⟨had, hN, hA1, hP⟩ := hb3
    have hP : va_P D xcl (wW ad1 (xG ad1 K (some (ad1 132))) 133 v3 ar3 al3) H := by rw [← ht3]; exact hP
    rw [← had 0 (by decide)] at hl
    replace hA : ∀ i, i < 133 → AF (ad1 i) := fun i hi => hsub _ (hA1 i hi)
    exact kr1 _ ad1 _ _ _ _ _ _ _ rfl ⟨⟨z3, by omega, rfl⟩, hI⟩ had hN (fun i hi => hA i hi) hP hS dX8_blunder_22
  · skip
    refine lv_iload_n hE.1 hE.2.1 dX8_blunder_9 rfl (lv_at hl 0 rfl) ?_
    exact kr0 _ _ _ _ _ _ _ _ rfl ⟨⟨z1, by omega, rfl⟩, hI⟩ hP hS dX8_blunder_10
