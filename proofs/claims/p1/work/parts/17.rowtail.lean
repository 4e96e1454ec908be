theorem slB_of {x : Int32} (h : ¬ slB x = 0) : ∃ c : Nat, c < 4 ∧ x = nI c := by
  rcases slB_cases h with rfl | rfl | rfl | rfl
  · exact ⟨0, by omega, rfl⟩
  · exact ⟨1, by omega, rfl⟩
  · exact ⟨2, by omega, rfl⟩
  · exact ⟨3, by omega, rfl⟩
theorem dX9_row_40 : decode cX9_row 40 = .ok (.aload_n 0, 1) := by decide +kernel
theorem dX9_row_41 : decode cX9_row 41 = .ok (.getfield 7, 3) := by decide +kernel
theorem dX9_row_44 : decode cX9_row 44 = .ok (.iload_n 1, 1) := by decide +kernel
theorem dX9_row_45 : decode cX9_row 45 = .ok (.iload_n 2, 1) := by decide +kernel
theorem dX9_row_46 : decode cX9_row 46 = .ok (.iastore, 1) := by decide +kernel
theorem dX9_row_47 : decode cX9_row 47 = .ok (.aload_n 0, 1) := by decide +kernel
theorem dX9_row_48 : decode cX9_row 48 = .ok (.getfield 13, 3) := by decide +kernel
theorem dX9_row_51 : decode cX9_row 51 = .ok (.iload_n 1, 1) := by decide +kernel
theorem dX9_row_52 : decode cX9_row 52 = .ok (.iload_n 3, 1) := by decide +kernel
theorem dX9_row_53 : decode cX9_row 53 = .ok (.iastore, 1) := by decide +kernel
theorem dX9_row_54 : decode cX9_row 54 = .ok (.iconst 0, 1) := by decide +kernel
theorem dX9_row_55 : decode cX9_row 55 = .ok (.istore 4, 2) := by decide +kernel
theorem dX9_row_57 : decode cX9_row 57 = .ok (.iload 4, 2) := by decide +kernel
theorem dX9_row_59 : decode cX9_row 59 = .ok (.iload_n 3, 1) := by decide +kernel
theorem dX9_row_60 : decode cX9_row 60 = .ok (.if_icmp .ge 22, 3) := by decide +kernel
theorem dX9_row_63 : decode cX9_row 63 = .ok (.aload_n 0, 1) := by decide +kernel
theorem dX9_row_64 : decode cX9_row 64 = .ok (.getfield 16, 3) := by decide +kernel
theorem dX9_row_67 : decode cX9_row 67 = .ok (.bipush 60, 2) := by decide +kernel
theorem dX9_row_69 : decode cX9_row 69 = .ok (.iload_n 1, 1) := by decide +kernel
theorem dX9_row_70 : decode cX9_row 70 = .ok (.imul, 1) := by decide +kernel
theorem dX9_row_71 : decode cX9_row 71 = .ok (.iload 4, 2) := by decide +kernel
theorem dX9_row_73 : decode cX9_row 73 = .ok (.iadd, 1) := by decide +kernel
theorem dX9_row_74 : decode cX9_row 74 = .ok (.lconst 0, 1) := by decide +kernel
theorem dX9_row_75 : decode cX9_row 75 = .ok (.lastore, 1) := by decide +kernel
theorem dX9_row_76 : decode cX9_row 76 = .ok (.iinc 4 1, 3) := by decide +kernel
theorem dX9_row_79 : decode cX9_row 79 = .ok (.goto (-22), 3) := by decide +kernel
theorem dX9_row_82 : decode cX9_row 82 = .ok (.iconst 0, 1) := by decide +kernel
theorem dX9_row_83 : decode cX9_row 83 = .ok (.ireturn, 1) := by decide +kernel
set_option maxHeartbeats 4000000 in
set_option maxRecDepth 100000 in
theorem y_rowtail {p : Program} {l : Launch} {e : Env} {R : Room} {s : State} {m : MethodId} {args : Array Value} {below : List Frame} {meth : Method} {c0 : Code} {H : Heap} {locs : List Loc} {ls : Array Slot} {D : va_G} {K : Nat → ClassId} {ad : Nat → Nat} {v ar : sI} {al : sL} (hE : CallFix p m c0 cX9_row 5 s args tbG "TaleCourtModel") (hr : meth.sig.returnType = some .int) (hlo : meth.locks = false) (hK : va_K D xcl (xty K) s) (hN : apart ad 21) (hP : va_P D xcl (wW ad (yG ad K) 21 v ar al) H) (hS : va_S (inW ad 21) s.heap H locs) (c n : Nat) (hc : c < 4) (hn : n ≤ 60) (w : Int32) {post : Int32 → sT → Prop} (hpost : ∀ u, post 0 u) (hl : lv_has ls 5 [(0, .ref (ad 0)), (1, .int (nI c)), (2, .int w), (3, .int (nI n))]) :
    W p l e R s m args below meth c0 H locs 0 0 (MQ below (va_Qi post (wB D ad (yG ad K) 21) (inW ad 21)) args s 0 0 (inW ad 21)) (F0 m 40 ls []) := by
  have loop : ∀ (r j : Nat) (ar : sI) (al : sL) (H : Heap) (locs : List Loc) (ls : Array Slot), j + r = n → va_P D xcl (wW ad (yG ad K) 21 v ar al) H → va_S (inW ad 21) s.heap H locs → lv_has ls 5 [(4, .int (nI j)), (0, .ref (ad 0)), (1, .int (nI c)), (2, .int w), (3, .int (nI n))] → W p l e R s m args below meth c0 H locs 0 0 (MQ below (va_Qi post (wB D ad (yG ad K) 21) (inW ad 21)) args s 0 0 (inW ad 21)) (F0 m 57 ls []) := by
    intro r
    induction r with
    | zero =>
      intro j ar al H locs ls hj hP hS hl
      have hj : j = n := by omega
      subst hj
      refine lv_iload hE.1 hE.2.1 dX9_row_57 (lv_at hl 0 rfl) ?_
      refine lv_iload_n hE.1 hE.2.1 dX9_row_59 rfl (lv_at hl 4 rfl) ?_
      refine lv_icmp_ge (tgt := 82) hE.1 hE.2.1 dX9_row_60 (by decide) (fun _ => ?_) (fun h => absurd (nI_le (Nat.le_refl _) (by omega)) h)
      refine lv_iconst (v := 0) hE.1 hE.2.1 dX9_row_82 (by decide) ?_
      exact x_wi hE hr hlo hP hS rfl (hpost _) dX9_row_83
    | succ r ih =>
      intro j ar al H locs ls hj hP hS hl
      have e1 : (60 : Int32) * nI c + nI j = nI (60 * c + j) := by
        rw [show (60 : Int32) = nI 60 from rfl, pk_mul, nI_add]
      refine lv_iload hE.1 hE.2.1 dX9_row_57 (lv_at hl 0 rfl) ?_
      refine lv_iload_n hE.1 hE.2.1 dX9_row_59 rfl (lv_at hl 4 rfl) ?_
      refine lv_icmp_ge (tgt := 82) hE.1 hE.2.1 dX9_row_60 (by decide) (fun h => absurd h (nI_ge (by omega) (by omega))) (fun _ => ?_)
      refine lv_aload_n hE.1 hE.2.1 dX9_row_63 rfl (lv_at hl 1 rfl) ?_
      refine x_get (x := .ref (ad 3)) hE hK hP 0 (by decide) (yG_9 rfl) rfl hin9 3 (by decide) mw_1337 rfl dX9_row_64 ?_
      refine lv_bipush (v := 60) hE.1 hE.2.1 dX9_row_67 (by decide) ?_
      refine lv_iload_n hE.1 hE.2.1 dX9_row_69 rfl (lv_at hl 2 rfl) ?_
      refine lv_imul hE.1 hE.2.1 dX9_row_70 ?_
      refine lv_iload hE.1 hE.2.1 dX9_row_71 (lv_at hl 0 rfl) ?_
      refine lv_iadd hE.1 hE.2.1 dX9_row_73 ?_
      refine x_top e1 ?_
      refine lv_lconst (v := 0) hE.1 hE.2.1 dX9_row_74 (by decide) ?_
      refine x_last (n := 240) hE hK hN hP hS 3 (by decide) (fun _ => yG_11 rfl) (vp_in_nI (by omega) (by omega)) dX9_row_75 (fun al2 H locs har hP hS => ?_)
      refine lv_iinc (v := nI (j + 1)) (lv' := [(4, .int (nI (j + 1))), (0, .ref (ad 0)), (1, .int (nI c)), (2, .int w), (3, .int (nI n))]) hE.1 hE.2.1 dX9_row_76 hl (k := 0) rfl (nI_1 j) (by decide) rfl (fun ls hl => ?_)
      refine lv_goto (tgt := 57) hE.1 hE.2.1 dX9_row_79 (by decide) ?_
      exact ih (j + 1) ar al2 H locs ls (by omega) hP hS hl
  refine lv_aload_n hE.1 hE.2.1 dX9_row_40 rfl (lv_at hl 0 rfl) ?_
  refine x_get (x := .ref (ad 1)) hE hK hP 0 (by decide) (yG_9 rfl) rfl hin9 1 (by decide) mw_1335 rfl dX9_row_41 ?_
  refine lv_iload_n hE.1 hE.2.1 dX9_row_44 rfl (lv_at hl 1 rfl) ?_
  refine lv_iload_n hE.1 hE.2.1 dX9_row_45 rfl (lv_at hl 2 rfl) ?_
  refine x_iast (n := 4) hE hK hN hP hS 1 (by decide) (fun _ => yG_10 rfl) (vp_in_nI hc (by omega)) dX9_row_46 (fun ar1 H locs har hP hS => ?_)
  refine lv_aload_n hE.1 hE.2.1 dX9_row_47 rfl (lv_at hl 0 rfl) ?_
  refine x_get (x := .ref (ad 2)) hE hK hP 0 (by decide) (yG_9 rfl) rfl hin9 2 (by decide) mw_1336 rfl dX9_row_48 ?_
  refine lv_iload_n hE.1 hE.2.1 dX9_row_51 rfl (lv_at hl 1 rfl) ?_
  refine lv_iload_n hE.1 hE.2.1 dX9_row_52 rfl (lv_at hl 3 rfl) ?_
  refine x_iast (n := 4) hE hK hN hP hS 2 (by decide) (fun _ => yG_10 rfl) (vp_in_nI hc (by omega)) dX9_row_53 (fun ar2 H locs har hP hS => ?_)
  refine lv_iconst (v := 0) hE.1 hE.2.1 dX9_row_54 (by decide) ?_
  refine lv_istore (lv' := [(4, .int 0), (0, .ref (ad 0)), (1, .int (nI c)), (2, .int w), (3, .int (nI n))]) hE.1 hE.2.1 dX9_row_55 hl (by decide) rfl (fun ls hl => ?_)
  exact loop n 0 ar2 al _ _ _ (by omega) hP hS hl
