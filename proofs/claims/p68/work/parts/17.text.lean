def tLen : List Nat := [5, 7, 6, 5, 5, 5, 8, 4, 4, 6, 4, 2, 5, 3, 5, 6, 8, 5]
def tByt : List (List Int32) := [[99, 111, 117, 114, 116], [116, 101, 108, 108, 101, 114, 115], [115, 105, 108, 101, 110, 116], [109, 111, 116, 105, 102], [119, 111, 114, 116, 104], [111, 112, 101, 110, 115], [115, 116, 114, 97, 110, 103, 101, 114], [115, 111, 110, 103], [111, 119, 101, 115], [119, 105, 116, 104, 105, 110], [106, 111, 105, 110], [116, 111], [99, 108, 97, 115, 104], [97, 110, 100], [107, 101, 101, 112, 115], [102, 111, 114, 98, 105, 100], [108, 105, 115, 116, 101, 110, 101, 114], [108, 111, 118, 101, 115]]
def tIx : List Nat := [94, 100, 104, 49, 109, 118, 123, 128, 133, 137, 58, 141, 63, 149, 68, 73, 85, 164]
def tTx : List String := ["court", "tellers", "silent", "motif", "worth", "opens", "stranger", "song", "owes", "within", "join", "to", "clash", "and", "keeps", "forbid", "listener", "loves"]
def tP (tk tv : Nat → Nat) (A : Nat → Prop) (U : State) : Prop := vk_S 18 tLen tByt tk tv A U U.heap ∧ va_Z "java/lang/String" "COMPACT_STRINGS" "Z" (.int 1) A U U.heap ∧ va_Zq "jdk/internal/util/Preconditions" "SIOOBE_FORMATTER" "Ljava/util/function/BiFunction;" A U U.heap
def tR (tk : Nat → Nat) (U : State) : Prop := ∀ i, i < 18 → vk_R "TaleCourt$Reader" (tIx.getD i 0) (tTx.getD i "") (tk i) U
theorem tP_now {tk tv : Nat → Nat} {A : Nat → Prop} {s : State} {H : Heap} {locs : List Loc} (h : tP tk tv A s) (hS : va_S A s.heap H locs) : ∀ U : State, U.heap = H → s.WarmedH U.vm → tP tk tv A U := fun U hU hW => by
  obtain ⟨h1, h2, h3⟩ := h
  exact ⟨by rw [hU]; exact vk_S.moved hW.alike (h1.kept hS.2.1), by rw [hU]; exact va_Z.moved hW.alike (h2.kept hS.2.1), by rw [hU]; exact va_Zq.moved hW.alike (h3.kept hS.2.1)⟩
theorem tP_call {tk tv : Nat → Nat} {A : Nat → Prop} {U : State} {g : JFrame} {mk : _} {a : Array Value} (h : tP tk tv A U) : tP tk tv A (U.calling g mk a) := ⟨vk_S.moved (u := U) (U := U.calling g mk a) (Vm.Alike.refl U.vm) h.1, va_Z.moved (u := U) (U := U.calling g mk a) (Vm.Alike.refl U.vm) h.2.1, va_Zq.moved (u := U) (U := U.calling g mk a) (Vm.Alike.refl U.vm) h.2.2⟩
theorem tP_blind {tk tv : Nat → Nat} {A : Nat → Prop} {av : List Value} : FrameBlind (va_Pc av (tP tk tv A)) := fun a U g mk q => ⟨q.1, tP_call q.2⟩
theorem tR_warm {tk : Nat → Nat} {s U : State} (h : tR tk s) (hW : s.WarmedH U.vm) : tR tk U := fun i hi => vk_R.warm hW (h i hi)
theorem tR_same {tk : Nat → Nat} {s U : State} (h : tR tk s) (hv : U.vm = s.vm) : tR tk U := fun i hi => vk_R.same hv (h i hi)
def twPre (D : va_G) (K : Nat → ClassId) (ad : Nat → Nat) (G : gT) (N : Nat) (v ar : sI) (al : sL) (tk tv : Nat → Nat) (U : State) : Prop := wPre D K ad G N v ar al U ∧ tP tk tv (inW ad N) U ∧ tR tk U
theorem tw_blind {D : va_G} {K : Nat → ClassId} {ad : Nat → Nat} {G : gT} {N : Nat} {v ar : sI} {al : sL} {tk tv : Nat → Nat} {av : List Value} : FrameBlind (va_Pc av (twPre D K ad G N v ar al tk tv)) := fun a U g mk q => ⟨q.1, (wPre_blind (av := av) a U g mk ⟨q.1, q.2.1⟩).2, tP_call q.2.2.1, tR_same q.2.2.2 rfl⟩
theorem tw_now {D : va_G} {K : Nat → ClassId} {ad : Nat → Nat} {G : gT} {N : Nat} {v ar : sI} {al : sL} {tk tv : Nat → Nat} {s : State} {H : Heap} {locs : List Loc} (hK : va_K D xcl (xty K) s) (hN : apart ad N) (hP : va_P D xcl (wW ad G N v ar al) H) (hT : tP tk tv (inW ad N) s) (hTR : tR tk s) (hS : va_S (inW ad N) s.heap H locs) : ∀ U : State, U.heap = H → s.WarmedH U.vm → twPre D K ad G N v ar al tk tv U := fun U hU hW => ⟨wPre_now hK hN hP U hU hW, tP_now hT hS U hU hW, tR_warm hTR hW⟩
def vS : Array Value → State → Outcome → State → Prop := fun _ st o t => o = .returned none ∧ t.heap = st.heap
section TX
variable {p : Program} {l : Launch} {e : Env} {R : Room} {s : State} {m : MethodId} {args : Array Value} {below : List Frame} {meth : Method} {c : Code} {cc : ByteArray} {H : Heap} {locs : List Loc} {cells slots : Nat} {Q : State → Prop} {pc nL : Nat} {ls : Array Slot} {rest st : List Value} {own : String}
theorem callSv {a : Array Value} {st0 : List Value} (hr : CallRun p l e R s m args below meth c H locs cells slots 0 0 (F0 m pc ls st0) rest (vS a) (fun _ => False)) (kk : W p l e R s m args below meth c H locs cells slots Q (F0 m (pc + 3) ls rest)) : W p l e R s m args below meth c H locs cells slots Q (F0 m pc ls st0) := by
  intro T hT X
  obtain ⟨v, st₀, t, T', L, h0, X', hL, e1, ⟨hv, hh⟩, st⟩ := hr T hT X
  cases hv
  obtain ⟨t2, a1, b1⟩ := kk T' (by rw [e1, hh, h0]) (Stand.forget X' (fun q h => (hL q h).elim))
  exact ⟨t2, st t2 a1, b1⟩
theorem x_spv (hE : CallFix p m c cc nL s args tbG own) {y : MethodName} {b : ByteArray} {mL d idx nn : Nat} {As : List Value} {Bp : State → Prop} (hM : Met l y (wM y b mL none) (rmD d) (va_Pc As Bp) vS 0 0 (fun _ => False)) (hbl : FrameBlind (va_Pc As Bp)) (hB : ∀ U : State, U.heap = H → s.WarmedH U.vm → Bp U) (hnn : As.length = nn) (h1 : Cond.methodLink own idx y ∈ tbG) (h2 : Cond.static y ∈ tbG) (h4 : Cond.initialized y.cls ∈ tbG) (h5 : Cond.code y b mL none ∈ tbG) (hd : y.cls ≠ "java/lang/invoke/MethodHandle" ∧ y.cls ≠ "java/lang/invoke/VarHandle" ∧ (parseMethodDescriptor y.desc).map (fun d => d.parameters.length) = some nn) (hR : d + 1 ≤ R.frames ∧ 8 + (mL + 11) + 64 * d ≤ R.locals) (hls : ls.size = nL) (hst : st = As.reverse ++ rest) (hw : (rest.map fun v => v.category).sum ≤ 8) (hcs : cells ≤ R.cells ∧ slots ≤ R.slots) (hdg : decode cc pc = .ok (.invokestatic idx, 3))
    (kk : W p l e R s m args below meth c H locs cells slots Q (F0 m (pc + 3) ls rest)) : W p l e R s m args below meth c H locs cells slots Q (F0 m pc ls st) :=
  callSv (va_runS (As := As) (rest := rest) hE hM (va_cwS nn hE.2.2.2.2 (gS h1 h2 h4 h5) rfl rfl rfl hd hR) ⟨hbl, fun U hU hW => ⟨rfl, hB U hU hW⟩⟩ rfl hnn hls hst (lv_room hw) hdg hcs).run kk
end TX
theorem dJ0_coder_7d493_0 : decode cJ0_coder_7d493 0 = .ok (.getstatic 38, 3) := by decide +kernel
theorem dJ0_coder_7d493_3 : decode cJ0_coder_7d493 3 = .ok (.ifCond .eq 10, 3) := by decide +kernel
theorem dJ0_coder_7d493_6 : decode cJ0_coder_7d493 6 = .ok (.aload_n 0, 1) := by decide +kernel
theorem dJ0_coder_7d493_7 : decode cJ0_coder_7d493 7 = .ok (.getfield 15, 3) := by decide +kernel
theorem dJ0_coder_7d493_10 : decode cJ0_coder_7d493 10 = .ok (.goto 4, 3) := by decide +kernel
theorem dJ0_coder_7d493_13 : decode cJ0_coder_7d493 13 = .ok (.iconst 1, 1) := by decide +kernel
theorem dJ0_coder_7d493_14 : decode cJ0_coder_7d493 14 = .ok (.ireturn, 1) := by decide +kernel
theorem dJ0_isLatin1_aae02_0 : decode cJ0_isLatin1_aae02 0 = .ok (.getstatic 38, 3) := by decide +kernel
theorem dJ0_isLatin1_aae02_3 : decode cJ0_isLatin1_aae02 3 = .ok (.ifCond .eq 14, 3) := by decide +kernel
theorem dJ0_isLatin1_aae02_6 : decode cJ0_isLatin1_aae02 6 = .ok (.aload_n 0, 1) := by decide +kernel
theorem dJ0_isLatin1_aae02_7 : decode cJ0_isLatin1_aae02 7 = .ok (.getfield 15, 3) := by decide +kernel
theorem dJ0_isLatin1_aae02_10 : decode cJ0_isLatin1_aae02 10 = .ok (.ifCond .ne 7, 3) := by decide +kernel
theorem dJ0_isLatin1_aae02_13 : decode cJ0_isLatin1_aae02 13 = .ok (.iconst 1, 1) := by decide +kernel
theorem dJ0_isLatin1_aae02_14 : decode cJ0_isLatin1_aae02 14 = .ok (.goto 4, 3) := by decide +kernel
theorem dJ0_isLatin1_aae02_17 : decode cJ0_isLatin1_aae02 17 = .ok (.iconst 0, 1) := by decide +kernel
theorem dJ0_isLatin1_aae02_18 : decode cJ0_isLatin1_aae02 18 = .ok (.ireturn, 1) := by decide +kernel
theorem dJ0_length_8abf5_0 : decode cJ0_length_8abf5 0 = .ok (.aload_n 0, 1) := by decide +kernel
theorem dJ0_length_8abf5_1 : decode cJ0_length_8abf5 1 = .ok (.getfield 9, 3) := by decide +kernel
theorem dJ0_length_8abf5_4 : decode cJ0_length_8abf5 4 = .ok (.arraylength, 1) := by decide +kernel
theorem dJ0_length_8abf5_5 : decode cJ0_length_8abf5 5 = .ok (.aload_n 0, 1) := by decide +kernel
theorem dJ0_length_8abf5_6 : decode cJ0_length_8abf5 6 = .ok (.invokevirtual 335, 3) := by decide +kernel
theorem dJ0_length_8abf5_9 : decode cJ0_length_8abf5 9 = .ok (.ishr, 1) := by decide +kernel
theorem dJ0_length_8abf5_10 : decode cJ0_length_8abf5 10 = .ok (.ireturn, 1) := by decide +kernel
theorem dJ0_charAt_5068e_0 : decode cJ0_charAt_5068e 0 = .ok (.aload_n 0, 1) := by decide +kernel
theorem dJ0_charAt_5068e_1 : decode cJ0_charAt_5068e 1 = .ok (.invokevirtual 492, 3) := by decide +kernel
theorem dJ0_charAt_5068e_4 : decode cJ0_charAt_5068e 4 = .ok (.ifCond .eq 12, 3) := by decide +kernel
theorem dJ0_charAt_5068e_7 : decode cJ0_charAt_5068e 7 = .ok (.aload_n 0, 1) := by decide +kernel
theorem dJ0_charAt_5068e_8 : decode cJ0_charAt_5068e 8 = .ok (.getfield 9, 3) := by decide +kernel
theorem dJ0_charAt_5068e_11 : decode cJ0_charAt_5068e 11 = .ok (.iload_n 1, 1) := by decide +kernel
theorem dJ0_charAt_5068e_12 : decode cJ0_charAt_5068e 12 = .ok (.invokestatic 495, 3) := by decide +kernel
theorem dJ0_charAt_5068e_15 : decode cJ0_charAt_5068e 15 = .ok (.ireturn, 1) := by decide +kernel
theorem dJ0_charAt_5068e_16 : decode cJ0_charAt_5068e 16 = .ok (.aload_n 0, 1) := by decide +kernel
theorem dJ0_charAt_5068e_17 : decode cJ0_charAt_5068e 17 = .ok (.getfield 9, 3) := by decide +kernel
theorem dJ0_charAt_5068e_20 : decode cJ0_charAt_5068e 20 = .ok (.iload_n 1, 1) := by decide +kernel
theorem dJ0_charAt_5068e_21 : decode cJ0_charAt_5068e 21 = .ok (.invokestatic 498, 3) := by decide +kernel
theorem dJ0_charAt_5068e_24 : decode cJ0_charAt_5068e 24 = .ok (.ireturn, 1) := by decide +kernel
theorem dJ0_checkIndex_df160_0 : decode cJ0_checkIndex_df160 0 = .ok (.iload_n 0, 1) := by decide +kernel
theorem dJ0_checkIndex_df160_1 : decode cJ0_checkIndex_df160 1 = .ok (.iload_n 1, 1) := by decide +kernel
theorem dJ0_checkIndex_df160_2 : decode cJ0_checkIndex_df160 2 = .ok (.getstatic 1053, 3) := by decide +kernel
theorem dJ0_checkIndex_df160_5 : decode cJ0_checkIndex_df160 5 = .ok (.invokestatic 1059, 3) := by decide +kernel
theorem dJ0_checkIndex_df160_8 : decode cJ0_checkIndex_df160 8 = .ok (.pop, 1) := by decide +kernel
theorem dJ0_checkIndex_df160_9 : decode cJ0_checkIndex_df160 9 = .ok (.return_, 1) := by decide +kernel
theorem dJ1_charAt_3b067_0 : decode cJ1_charAt_3b067 0 = .ok (.iload_n 1, 1) := by decide +kernel
theorem dJ1_charAt_3b067_1 : decode cJ1_charAt_3b067 1 = .ok (.aload_n 0, 1) := by decide +kernel
theorem dJ1_charAt_3b067_2 : decode cJ1_charAt_3b067 2 = .ok (.arraylength, 1) := by decide +kernel
theorem dJ1_charAt_3b067_3 : decode cJ1_charAt_3b067 3 = .ok (.invokestatic 9, 3) := by decide +kernel
theorem dJ1_charAt_3b067_6 : decode cJ1_charAt_3b067 6 = .ok (.aload_n 0, 1) := by decide +kernel
theorem dJ1_charAt_3b067_7 : decode cJ1_charAt_3b067 7 = .ok (.iload_n 1, 1) := by decide +kernel
theorem dJ1_charAt_3b067_8 : decode cJ1_charAt_3b067 8 = .ok (.baload, 1) := by decide +kernel
theorem dJ1_charAt_3b067_9 : decode cJ1_charAt_3b067 9 = .ok (.sipush 255, 3) := by decide +kernel
theorem dJ1_charAt_3b067_12 : decode cJ1_charAt_3b067 12 = .ok (.iand, 1) := by decide +kernel
theorem dJ1_charAt_3b067_13 : decode cJ1_charAt_3b067 13 = .ok (.i2c, 1) := by decide +kernel
theorem dJ1_charAt_3b067_14 : decode cJ1_charAt_3b067 14 = .ok (.ireturn, 1) := by decide +kernel
theorem dJ3_checkIndex_8e157_0 : decode cJ3_checkIndex_8e157 0 = .ok (.iload_n 0, 1) := by decide +kernel
theorem dJ3_checkIndex_8e157_1 : decode cJ3_checkIndex_8e157 1 = .ok (.ifCond .lt 8, 3) := by decide +kernel
theorem dJ3_checkIndex_8e157_4 : decode cJ3_checkIndex_8e157 4 = .ok (.iload_n 0, 1) := by decide +kernel
theorem dJ3_checkIndex_8e157_5 : decode cJ3_checkIndex_8e157 5 = .ok (.iload_n 1, 1) := by decide +kernel
theorem dJ3_checkIndex_8e157_6 : decode cJ3_checkIndex_8e157 6 = .ok (.if_icmp .lt 10, 3) := by decide +kernel
theorem dJ3_checkIndex_8e157_9 : decode cJ3_checkIndex_8e157 9 = .ok (.aload_n 2, 1) := by decide +kernel
theorem dJ3_checkIndex_8e157_10 : decode cJ3_checkIndex_8e157 10 = .ok (.iload_n 0, 1) := by decide +kernel
theorem dJ3_checkIndex_8e157_11 : decode cJ3_checkIndex_8e157 11 = .ok (.iload_n 1, 1) := by decide +kernel
theorem dJ3_checkIndex_8e157_12 : decode cJ3_checkIndex_8e157 12 = .ok (.invokestatic 95, 3) := by decide +kernel
theorem dJ3_checkIndex_8e157_15 : decode cJ3_checkIndex_8e157 15 = .ok (.athrow, 1) := by decide +kernel
theorem dJ3_checkIndex_8e157_16 : decode cJ3_checkIndex_8e157 16 = .ok (.iload_n 0, 1) := by decide +kernel
theorem dJ3_checkIndex_8e157_17 : decode cJ3_checkIndex_8e157 17 = .ok (.ireturn, 1) := by decide +kernel
set_option maxHeartbeats 4000000 in
set_option maxRecDepth 100000 in
theorem t_coder (l : Launch) (tk tv : Nat → Nat) (A : Nat → Prop) (i : Nat) (hi : i < 18) : Met l yJ0_coder_7d493 (wM yJ0_coder_7d493 cJ0_coder_7d493 1 (some .byte)) (rmD 0) (va_Pc [.ref (tk i)] (tP tk tv A)) (vp_Si (fun r => r = 0)) 0 0 (fun _ => False) := by
  refine s_metP (by decide) (Nat.le_of_ble_eq_true rfl) ?_
  intro p e s m below meth c ls args Q hE hB hl kr
  have hE : CallFix p m c cJ0_coder_7d493 1 s args tbG "java/lang/String" := hE
  have hS : va_S A s.heap s.heap [] := va_S.rf
  have hl : lv_has ls 1 [(0, .ref (tk i))] := hl
  refine va_gets hE.1 hE.2.1 hB.2.1 hS hE.2.2.2.1 (hE.2.2.2.2 _ mw_574) (fun _ h => h) dJ0_coder_7d493_0 ?_
  refine lv_if_eq (tgt := 13) hE.1 hE.2.1 dJ0_coder_7d493_3 (by decide) (fun h => absurd h (by decide)) (fun _ => ?_)
  refine lv_aload_n hE.1 hE.2.1 dJ0_coder_7d493_6 rfl (lv_at hl 0 rfl) ?_
  refine vk_getf hE.1 hE.2.1 (hB.1.1 i hi).2.1 hS hE.2.2.2.1 (hE.2.2.2.2 _ mw_2078) (fun _ h => h) dJ0_coder_7d493_7 ?_
  refine lv_goto (tgt := 14) hE.1 hE.2.1 dJ0_coder_7d493_10 (by decide) ?_
  exact kr _ _ _ rfl rfl dJ0_coder_7d493_14
set_option maxHeartbeats 4000000 in
set_option maxRecDepth 100000 in
theorem t_isLatin1 (l : Launch) (tk tv : Nat → Nat) (A : Nat → Prop) (i : Nat) (hi : i < 18) : Met l yJ0_isLatin1_aae02 (wM yJ0_isLatin1_aae02 cJ0_isLatin1_aae02 1 (some .boolean)) (rmD 0) (va_Pc [.ref (tk i)] (tP tk tv A)) (vp_Si (fun r => r = 1)) 0 0 (fun _ => False) := by
  refine s_metP (by decide) (Nat.le_of_ble_eq_true rfl) ?_
  intro p e s m below meth c ls args Q hE hB hl kr
  have hE : CallFix p m c cJ0_isLatin1_aae02 1 s args tbG "java/lang/String" := hE
  have hS : va_S A s.heap s.heap [] := va_S.rf
  have hl : lv_has ls 1 [(0, .ref (tk i))] := hl
  refine va_gets hE.1 hE.2.1 hB.2.1 hS hE.2.2.2.1 (hE.2.2.2.2 _ mw_574) (fun _ h => h) dJ0_isLatin1_aae02_0 ?_
  refine lv_if_eq (tgt := 17) hE.1 hE.2.1 dJ0_isLatin1_aae02_3 (by decide) (fun h => absurd h (by decide)) (fun _ => ?_)
  refine lv_aload_n hE.1 hE.2.1 dJ0_isLatin1_aae02_6 rfl (lv_at hl 0 rfl) ?_
  refine vk_getf hE.1 hE.2.1 (hB.1.1 i hi).2.1 hS hE.2.2.2.1 (hE.2.2.2.2 _ mw_2078) (fun _ h => h) dJ0_isLatin1_aae02_7 ?_
  refine lv_if_ne (tgt := 17) hE.1 hE.2.1 dJ0_isLatin1_aae02_10 (by decide) (fun h => absurd rfl h) (fun _ => ?_)
  refine lv_iconst (v := 1) hE.1 hE.2.1 dJ0_isLatin1_aae02_13 (by decide) ?_
  refine lv_goto (tgt := 18) hE.1 hE.2.1 dJ0_isLatin1_aae02_14 (by decide) ?_
  exact kr _ _ _ rfl rfl dJ0_isLatin1_aae02_18
theorem tLen_le : ∀ i, i < 18 → tLen.getD i 0 ≤ 8 := by decide
set_option maxHeartbeats 4000000 in
set_option maxRecDepth 100000 in
theorem t_length (l : Launch) (tk tv : Nat → Nat) (A : Nat → Prop) (i : Nat) (hi : i < 18) (n : Int) (hn : ((tLen.getD i 0 : Nat) : Int) = n) : Met l yJ0_length_8abf5 (wM yJ0_length_8abf5 cJ0_length_8abf5 1 (some .int)) (rmD 1) (va_Pc [.ref (tk i)] (tP tk tv A)) (vp_Si (fun r => r = iI n)) 0 0 (fun _ => False) := by
  refine s_metP (by decide) (Nat.le_of_ble_eq_true rfl) ?_
  intro p e s m below meth c ls args Q hE hB hl kr
  have hE : CallFix p m c cJ0_length_8abf5 1 s args tbG "java/lang/String" := hE
  have hS : va_S A s.heap s.heap [] := va_S.rf
  have hl : lv_has ls 1 [(0, .ref (tk i))] := hl
  have h8 := tLen_le i hi
  refine lv_aload_n hE.1 hE.2.1 dJ0_length_8abf5_0 rfl (lv_at hl 0 rfl) ?_
  refine vk_getf hE.1 hE.2.1 (hB.1.1 i hi).2.2.1 hS hE.2.2.2.1 (hE.2.2.2.2 _ mw_2077) (fun _ h => h) dJ0_length_8abf5_1 ?_
  refine va_tlen (v := nI (tLen.getD i 0)) hE.1 hE.2.1 (hB.1.1 i hi).2.2.2 hS rfl dJ0_length_8abf5_4 ?_
  refine lv_aload_n hE.1 hE.2.1 dJ0_length_8abf5_5 rfl (lv_at hl 0 rfl) ?_
  refine x_vp (nn := 0) (As := []) (rest := [.int (nI (tLen.getD i 0))]) hE (t_coder l tk tv A i hi) tP_blind (tP_now hB hS) (vk_recv hB.1 hi hS) rfl mw_570 mw_571 mw_572 mw_125 mw_573 (by decide +kernel) ⟨by decide, by decide⟩ hl.1 rfl (Nat.le_of_ble_eq_true rfl) ⟨Nat.zero_le _, Nat.zero_le _⟩ dJ0_length_8abf5_6 (fun r hr => ?_)
  subst hr
  refine lv_ishr hE.1 hE.2.1 dJ0_length_8abf5_9 ?_
  refine x_top (y := nI (tLen.getD i 0)) (sc_shr0 (by omega)) ?_
  exact kr _ _ _ rfl (by rw [← hn, ← iI_nI]) dJ0_length_8abf5_10
set_option maxHeartbeats 4000000 in
set_option maxRecDepth 100000 in
theorem t_pre (l : Launch) (z y : Int) (hz : 0 ≤ z ∧ z < y ∧ y ≤ 2147483647) (vf : Value) (hvf : vf = .null ∨ ∃ t, vf = .ref t) : Met l yJ3_checkIndex_8e157 (wM yJ3_checkIndex_8e157 cJ3_checkIndex_8e157 3 (some .int)) (rmD 0) (va_Pc [.int (iI z), .int (iI y), vf] (fun _ => True)) (vp_Si (fun r => r = iI z)) 0 0 (fun _ => False) := by
  rcases hvf with rfl | ⟨t, rfl⟩
  all_goals
    refine s_metP (by decide) (Nat.le_of_ble_eq_true rfl) ?_
    intro p e s m below meth c ls args Q hE hB hl kr
    have hE : CallFix p m c cJ3_checkIndex_8e157 3 s args tbG "jdk/internal/util/Preconditions" := hE
    refine lv_iload_n hE.1 hE.2.1 dJ3_checkIndex_8e157_0 rfl (lv_at hl 0 rfl) ?_
    refine s_if_lt (a := z) (tgt := 9) hE.1 hE.2.1 (by omega) dJ3_checkIndex_8e157_1 (by decide) (fun c1 => False.elim (by omega)) (fun _ => ?_)
    refine lv_iload_n hE.1 hE.2.1 dJ3_checkIndex_8e157_4 rfl (lv_at hl 0 rfl) ?_
    refine lv_iload_n hE.1 hE.2.1 dJ3_checkIndex_8e157_5 rfl (lv_at hl 1 rfl) ?_
    refine s_icmp_lt (a := z) (b := y) (tgt := 16) hE.1 hE.2.1 (by omega) (by omega) dJ3_checkIndex_8e157_6 (by decide) (fun _ => ?_) (fun c1 => False.elim (by omega))
    refine lv_iload_n hE.1 hE.2.1 dJ3_checkIndex_8e157_16 rfl (lv_at hl 0 rfl) ?_
    exact kr _ _ _ rfl rfl dJ3_checkIndex_8e157_17
set_option maxHeartbeats 4000000 in
set_option maxRecDepth 100000 in
theorem t_check (l : Launch) (tk tv : Nat → Nat) (A : Nat → Prop) (z y : Int) (hz : 0 ≤ z ∧ z < y ∧ y ≤ 2147483647) : Met l yJ0_checkIndex_df160 (wM yJ0_checkIndex_df160 cJ0_checkIndex_df160 2 none) (rmD 1) (va_Pc [.int (iI z), .int (iI y)] (tP tk tv A)) vS 0 0 (fun _ => False) := by
  refine x_met (by decide) (Nat.le_of_ble_eq_true rfl) ?_
  intro p e s m below meth c ls hE hr_ hlo hnm hB hl
  have hE : CallFix p m c cJ0_checkIndex_df160 2 s _ tbG "java/lang/String" := hE
  have hS : va_S A s.heap s.heap [] := va_S.rf
  have hl : lv_has ls 2 [(0, .int (iI z)), (1, .int (iI y))] := hl
  refine lv_iload_n hE.1 hE.2.1 dJ0_checkIndex_df160_0 rfl (lv_at hl 0 rfl) ?_
  refine lv_iload_n hE.1 hE.2.1 dJ0_checkIndex_df160_1 rfl (lv_at hl 1 rfl) ?_
  have go : ∀ vf : Value, (vf = .null ∨ ∃ t, vf = .ref t) → va_Z "jdk/internal/util/Preconditions" "SIOOBE_FORMATTER" "Ljava/util/function/BiFunction;" vf A s s.heap → W p l e (rmD 1) s m [Value.int (iI z), Value.int (iI y)].toArray below meth c s.heap [] 0 0 (MQ below vS [Value.int (iI z), Value.int (iI y)].toArray s 0 0 (fun _ => False)) (F0 m 2 ls [.int (iI y), .int (iI z)]) := by
    intro vf hvf hZ
    refine va_gets hE.1 hE.2.1 hZ hS hE.2.2.2.1 (hE.2.2.2.2 _ mw_590) (fun _ h => h) dJ0_checkIndex_df160_2 ?_
    refine x_sp (nn := 3) (As := [.int (iI z), .int (iI y), vf]) (rest := []) hE (t_pre l z y hz vf hvf) tt_blind (fun _ _ _ => trivial) rfl mw_592 mw_593 mw_127 mw_594 (by decide +kernel) ⟨by decide, by decide⟩ hl.1 rfl (Nat.le_of_ble_eq_true rfl) ⟨Nat.zero_le _, Nat.zero_le _⟩ dJ0_checkIndex_df160_5 (fun r hr => ?_)
    refine lv_pop hE.1 hE.2.1 dJ0_checkIndex_df160_8 rfl ?_
    exact W.vret hE.1 hE.2.1 hr_ (fun t ht _ => ⟨rfl, ht⟩) (fun _ h => absurd h List.not_mem_nil) dJ0_checkIndex_df160_9 hlo
  rcases hB.2.2 with h | ⟨t, h⟩
  · exact go _ (Or.inl rfl) h
  · exact go _ (Or.inr ⟨t, rfl⟩) h
theorem i2c_nar (x : Int32) : narrow .char (.int (x.toUInt32 % 65536).toInt32) = .int (x.toUInt32 % 65536).toInt32 := by
  rw [pk_char]
  exact (pk_charN (Nat.mod_lt _ (by decide))).1
set_option maxHeartbeats 4000000 in
set_option maxRecDepth 100000 in
theorem t_lat (l : Launch) (tk tv : Nat → Nat) (A : Nat → Prop) (i : Nat) (hi : i < 18) (z : Int) (hz : 0 ≤ z ∧ z < ((tLen.getD i 0 : Nat) : Int)) : Met l yJ1_charAt_3b067 (wM yJ1_charAt_3b067 cJ1_charAt_3b067 2 (some .char)) (rmD 2) (va_Pc [.ref (tv i), .int (iI z)] (tP tk tv A)) (vp_Si (fun r => narrow .char (.int r) = .int r)) 0 0 (fun _ => False) := by
  refine s_metP (by decide) (Nat.le_of_ble_eq_true rfl) ?_
  intro p e s m below meth c ls args Q hE hB hl kr
  have hE : CallFix p m c cJ1_charAt_3b067 2 s args tbG "java/lang/StringLatin1" := hE
  have hS : va_S A s.heap s.heap [] := va_S.rf
  have hl : lv_has ls 2 [(0, .ref (tv i)), (1, .int (iI z))] := hl
  have h8 := tLen_le i hi
  refine lv_iload_n hE.1 hE.2.1 dJ1_charAt_3b067_0 rfl (lv_at hl 1 rfl) ?_
  refine lv_aload_n hE.1 hE.2.1 dJ1_charAt_3b067_1 rfl (lv_at hl 0 rfl) ?_
  refine va_tlen (v := nI (tLen.getD i 0)) hE.1 hE.2.1 (hB.1.1 i hi).2.2.2 hS rfl dJ1_charAt_3b067_2 ?_
  refine x_top (iI_nI (tLen.getD i 0)) ?_
  refine x_spv (nn := 2) (As := [.int (iI z), .int (iI ((tLen.getD i 0 : Nat) : Int))]) (rest := []) hE (t_check l tk tv A z ((tLen.getD i 0 : Nat) : Int) (by omega)) tP_blind (tP_now hB hS) rfl mw_587 mw_588 mw_125 mw_589 (by decide +kernel) ⟨by decide, by decide⟩ hl.1 rfl (Nat.le_of_ble_eq_true rfl) ⟨Nat.zero_le _, Nat.zero_le _⟩ dJ1_charAt_3b067_3 ?_
  refine lv_aload_n hE.1 hE.2.1 dJ1_charAt_3b067_6 rfl (lv_at hl 0 rfl) ?_
  refine lv_iload_n hE.1 hE.2.1 dJ1_charAt_3b067_7 rfl (lv_at hl 1 rfl) ?_
  refine va_tb (v := .int ((tByt.getD i []).getD (iI z).toNatClampNeg 0)) hE.1 hE.2.1 (hB.1.1 i hi).2.2.2 hS (iI_in (by omega)) rfl dJ1_charAt_3b067_8 ?_
  refine lv_sipush (v := 255) hE.1 hE.2.1 dJ1_charAt_3b067_9 (by decide) ?_
  refine lv_iand hE.1 hE.2.1 dJ1_charAt_3b067_12 ?_
  refine lv_i2c hE.1 hE.2.1 dJ1_charAt_3b067_13 rfl ?_
  exact kr _ _ _ (i2c_nar _) (i2c_nar _) dJ1_charAt_3b067_14
set_option maxHeartbeats 4000000 in
set_option maxRecDepth 100000 in
theorem t_charAt (l : Launch) (tk tv : Nat → Nat) (A : Nat → Prop) (i : Nat) (hi : i < 18) (z : Int) (hz : 0 ≤ z ∧ z < ((tLen.getD i 0 : Nat) : Int)) : Met l yJ0_charAt_5068e (wM yJ0_charAt_5068e cJ0_charAt_5068e 2 (some .char)) (rmD 3) (va_Pc [.ref (tk i), .int (iI z)] (tP tk tv A)) (vp_Si (fun _ => True)) 0 0 (fun _ => False) := by
  refine s_metP (by decide) (Nat.le_of_ble_eq_true rfl) ?_
  intro p e s m below meth c ls args Q hE hB hl kr
  have hE : CallFix p m c cJ0_charAt_5068e 2 s args tbG "java/lang/String" := hE
  have hS : va_S A s.heap s.heap [] := va_S.rf
  have hl : lv_has ls 2 [(0, .ref (tk i)), (1, .int (iI z))] := hl
  refine lv_aload_n hE.1 hE.2.1 dJ0_charAt_5068e_0 rfl (lv_at hl 0 rfl) ?_
  refine x_vp (nn := 0) (As := []) (rest := []) hE (t_isLatin1 l tk tv A i hi) tP_blind (tP_now hB hS) (vk_recv hB.1 hi hS) rfl mw_580 mw_581 mw_582 mw_125 mw_583 (by decide +kernel) ⟨by decide, by decide⟩ hl.1 rfl (Nat.le_of_ble_eq_true rfl) ⟨Nat.zero_le _, Nat.zero_le _⟩ dJ0_charAt_5068e_1 (fun r hr => ?_)
  subst hr
  refine lv_if_eq (tgt := 16) hE.1 hE.2.1 dJ0_charAt_5068e_4 (by decide) (fun h => absurd h (by decide)) (fun _ => ?_)
  refine lv_aload_n hE.1 hE.2.1 dJ0_charAt_5068e_7 rfl (lv_at hl 0 rfl) ?_
  refine vk_getf hE.1 hE.2.1 (hB.1.1 i hi).2.2.1 hS hE.2.2.2.1 (hE.2.2.2.2 _ mw_2077) (fun _ h => h) dJ0_charAt_5068e_8 ?_
  refine lv_iload_n hE.1 hE.2.1 dJ0_charAt_5068e_11 rfl (lv_at hl 1 rfl) ?_
  refine x_sp (nn := 2) (As := [.ref (tv i), .int (iI z)]) (rest := []) hE (t_lat l tk tv A i hi z hz) tP_blind (tP_now hB hS) rfl mw_584 mw_585 mw_126 mw_586 (by decide +kernel) ⟨by decide, by decide⟩ hl.1 rfl (Nat.le_of_ble_eq_true rfl) ⟨Nat.zero_le _, Nat.zero_le _⟩ dJ0_charAt_5068e_12 (fun r hr => ?_)
  exact kr _ _ _ hr trivial dJ0_charAt_5068e_15
