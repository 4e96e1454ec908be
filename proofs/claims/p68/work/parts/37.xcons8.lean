def seg (ad : Nat → Nat) (f : Nat → va_E) (o n : Nat) : va_W := (List.range n).map (fun j => (ad (o + j), f (o + j)))
theorem seg_add (ad : Nat → Nat) (f : Nat → va_E) (o n m : Nat) : seg ad f o (n + m) = seg ad f o n ++ seg ad f (o + n) m := by
  unfold seg
  rw [List.range_add, List.map_append, List.map_map]
  congr 1
  apply List.map_congr_left
  intro j _
  show (ad (o + (n + j)), f (o + (n + j))) = _
  rw [Nat.add_assoc]
theorem pw_seg (ad : Nat → Nat) (f : Nat → va_E) (n : Nat) : pw ad f n = seg ad f 0 n := by
  unfold pw seg
  apply List.map_congr_left
  intro j _
  rw [Nat.zero_add]
theorem perm8 (x s i : Nat × va_E) (L1 r0 r1 r2 r3 i0 i1 i2 : va_W) : List.Perm (x :: s :: i :: (((((((L1 ++ r0) ++ r1) ++ r2) ++ r3) ++ i0) ++ i1) ++ i2)) (x :: (L1 ++ (s :: i :: (r0 ++ (r1 ++ (r2 ++ (r3 ++ (i0 ++ (i1 ++ i2)))))))))  := by
  simp only [List.append_assoc]
  exact List.Perm.cons _ (List.perm_append_comm_assoc [s, i] L1 _)

def at8 (q q9 q10 : Nat) (a1 a2 a3 a4 a5 a6 a7 a8 a11 a12 a13 a14 a15 a16 a17 : Nat → Nat) : Nat → Nat := fun j => if j < 1 then q else if j < 3 then a1 (j - 1) else if j < 13 then a2 (j - 3) else if j < 23 then a3 (j - 13) else if j < 31 then a4 (j - 23) else if j < 39 then a5 (j - 31) else if j < 45 then a6 (j - 39) else if j < 56 then a7 (j - 45) else if j < 65 then a8 (j - 56) else if j < 67 then (if j < 66 then q9 else q10) else if j < 69 then a11 (j - 67) else if j < 71 then a12 (j - 69) else if j < 73 then a13 (j - 71) else if j < 75 then a14 (j - 73) else if j < 94 then a15 (j - 75) else if j < 113 then a16 (j - 94) else a17 (j - 113)
set_option maxHeartbeats 4000000 in
set_option maxRecDepth 100000 in
theorem sg8_0 (K : Nat → ClassId) (q q9 q10 : Nat) (a1 a2 a3 a4 a5 a6 a7 a8 a11 a12 a13 a14 a15 a16 a17 : Nat → Nat) : seg (at8 q q9 q10 a1 a2 a3 a4 a5 a6 a7 a8 a11 a12 a13 a14 a15 a16 a17) (gF (xG (at8 q q9 q10 a1 a2 a3 a4 a5 a6 a7 a8 a11 a12 a13 a14 a15 a16 a17) K none) xv0 xa0 xl0) 0 1 = [(q, .inr (8, [.ref (a1 0), .ref (a2 0), .ref (a3 0), .ref (a4 0), .ref (a5 0), .ref (a6 0), .ref (a7 0), .ref (a8 0), .ref q9, .ref q10]))] := rfl
set_option maxHeartbeats 4000000 in
set_option maxRecDepth 100000 in
theorem sg8_1 (K : Nat → ClassId) (q q9 q10 : Nat) (a1 a2 a3 a4 a5 a6 a7 a8 a11 a12 a13 a14 a15 a16 a17 : Nat → Nat) : seg (at8 q q9 q10 a1 a2 a3 a4 a5 a6 a7 a8 a11 a12 a13 a14 a15 a16 a17) (gF (xG (at8 q q9 q10 a1 a2 a3 a4 a5 a6 a7 a8 a11 a12 a13 a14 a15 a16 a17) K none) xv0 xa0 xl0) 1 2 = bX4 K a1 := rfl
set_option maxHeartbeats 4000000 in
set_option maxRecDepth 100000 in
theorem sg8_2 (K : Nat → ClassId) (q q9 q10 : Nat) (a1 a2 a3 a4 a5 a6 a7 a8 a11 a12 a13 a14 a15 a16 a17 : Nat → Nat) : seg (at8 q q9 q10 a1 a2 a3 a4 a5 a6 a7 a8 a11 a12 a13 a14 a15 a16 a17) (gF (xG (at8 q q9 q10 a1 a2 a3 a4 a5 a6 a7 a8 a11 a12 a13 a14 a15 a16 a17) K none) xv0 xa0 xl0) 3 10 = bX1 K a2 := rfl
set_option maxHeartbeats 4000000 in
set_option maxRecDepth 100000 in
theorem sg8_3 (K : Nat → ClassId) (q q9 q10 : Nat) (a1 a2 a3 a4 a5 a6 a7 a8 a11 a12 a13 a14 a15 a16 a17 : Nat → Nat) : seg (at8 q q9 q10 a1 a2 a3 a4 a5 a6 a7 a8 a11 a12 a13 a14 a15 a16 a17) (gF (xG (at8 q q9 q10 a1 a2 a3 a4 a5 a6 a7 a8 a11 a12 a13 a14 a15 a16 a17) K none) xv0 xa0 xl0) 13 10 = bX1 K a3 := rfl
set_option maxHeartbeats 4000000 in
set_option maxRecDepth 100000 in
theorem sg8_4 (K : Nat → ClassId) (q q9 q10 : Nat) (a1 a2 a3 a4 a5 a6 a7 a8 a11 a12 a13 a14 a15 a16 a17 : Nat → Nat) : seg (at8 q q9 q10 a1 a2 a3 a4 a5 a6 a7 a8 a11 a12 a13 a14 a15 a16 a17) (gF (xG (at8 q q9 q10 a1 a2 a3 a4 a5 a6 a7 a8 a11 a12 a13 a14 a15 a16 a17) K none) xv0 xa0 xl0) 23 8 = bX7 K (a2 0) a4 := rfl
set_option maxHeartbeats 4000000 in
set_option maxRecDepth 100000 in
theorem sg8_5 (K : Nat → ClassId) (q q9 q10 : Nat) (a1 a2 a3 a4 a5 a6 a7 a8 a11 a12 a13 a14 a15 a16 a17 : Nat → Nat) : seg (at8 q q9 q10 a1 a2 a3 a4 a5 a6 a7 a8 a11 a12 a13 a14 a15 a16 a17) (gF (xG (at8 q q9 q10 a1 a2 a3 a4 a5 a6 a7 a8 a11 a12 a13 a14 a15 a16 a17) K none) xv0 xa0 xl0) 31 8 = bX7 K (a2 0) a5 := rfl
set_option maxHeartbeats 4000000 in
set_option maxRecDepth 100000 in
theorem sg8_6 (K : Nat → ClassId) (q q9 q10 : Nat) (a1 a2 a3 a4 a5 a6 a7 a8 a11 a12 a13 a14 a15 a16 a17 : Nat → Nat) : seg (at8 q q9 q10 a1 a2 a3 a4 a5 a6 a7 a8 a11 a12 a13 a14 a15 a16 a17) (gF (xG (at8 q q9 q10 a1 a2 a3 a4 a5 a6 a7 a8 a11 a12 a13 a14 a15 a16 a17) K none) xv0 xa0 xl0) 39 6 = bX0 K a6 := rfl
set_option maxHeartbeats 4000000 in
set_option maxRecDepth 100000 in
theorem sg8_7 (K : Nat → ClassId) (q q9 q10 : Nat) (a1 a2 a3 a4 a5 a6 a7 a8 a11 a12 a13 a14 a15 a16 a17 : Nat → Nat) : seg (at8 q q9 q10 a1 a2 a3 a4 a5 a6 a7 a8 a11 a12 a13 a14 a15 a16 a17) (gF (xG (at8 q q9 q10 a1 a2 a3 a4 a5 a6 a7 a8 a11 a12 a13 a14 a15 a16 a17) K none) xv0 xa0 xl0) 45 11 = bX6 K (a2 0) (a6 0) a7 := rfl
set_option maxHeartbeats 4000000 in
set_option maxRecDepth 100000 in
theorem sg8_8 (K : Nat → ClassId) (q q9 q10 : Nat) (a1 a2 a3 a4 a5 a6 a7 a8 a11 a12 a13 a14 a15 a16 a17 : Nat → Nat) : seg (at8 q q9 q10 a1 a2 a3 a4 a5 a6 a7 a8 a11 a12 a13 a14 a15 a16 a17) (gF (xG (at8 q q9 q10 a1 a2 a3 a4 a5 a6 a7 a8 a11 a12 a13 a14 a15 a16 a17) K none) xv0 xa0 xl0) 56 9 = bX2 K (a2 0) a8 := rfl
set_option maxHeartbeats 4000000 in
set_option maxRecDepth 100000 in
theorem sg8_9 (K : Nat → ClassId) (q q9 q10 : Nat) (a1 a2 a3 a4 a5 a6 a7 a8 a11 a12 a13 a14 a15 a16 a17 : Nat → Nat) : seg (at8 q q9 q10 a1 a2 a3 a4 a5 a6 a7 a8 a11 a12 a13 a14 a15 a16 a17) (gF (xG (at8 q q9 q10 a1 a2 a3 a4 a5 a6 a7 a8 a11 a12 a13 a14 a15 a16 a17) K none) xv0 xa0 xl0) 65 2 = [(q9, .inl (K 4, 4, .inr (.inr (.inr (.inr (va_up (va_up (va_up (va_up (fun _ => none) 0 (some (a11 0))) 1 (some (a12 0))) 2 (some (a13 0))) 3 (some (a14 0)))))))), (q10, .inl (K 5, 3, .inr (.inr (.inr (.inr (va_up (va_up (va_up (fun _ => none) 0 (some (a15 0))) 1 (some (a16 0))) 2 (some (a17 0))))))))] := rfl
set_option maxHeartbeats 4000000 in
set_option maxRecDepth 100000 in
theorem sg8_10 (K : Nat → ClassId) (q q9 q10 : Nat) (a1 a2 a3 a4 a5 a6 a7 a8 a11 a12 a13 a14 a15 a16 a17 : Nat → Nat) : seg (at8 q q9 q10 a1 a2 a3 a4 a5 a6 a7 a8 a11 a12 a13 a14 a15 a16 a17) (gF (xG (at8 q q9 q10 a1 a2 a3 a4 a5 a6 a7 a8 a11 a12 a13 a14 a15 a16 a17) K none) xv0 xa0 xl0) 67 2 = bX5 K a11 := rfl
set_option maxHeartbeats 4000000 in
set_option maxRecDepth 100000 in
theorem sg8_11 (K : Nat → ClassId) (q q9 q10 : Nat) (a1 a2 a3 a4 a5 a6 a7 a8 a11 a12 a13 a14 a15 a16 a17 : Nat → Nat) : seg (at8 q q9 q10 a1 a2 a3 a4 a5 a6 a7 a8 a11 a12 a13 a14 a15 a16 a17) (gF (xG (at8 q q9 q10 a1 a2 a3 a4 a5 a6 a7 a8 a11 a12 a13 a14 a15 a16 a17) K none) xv0 xa0 xl0) 69 2 = bX5 K a12 := rfl
set_option maxHeartbeats 4000000 in
set_option maxRecDepth 100000 in
theorem sg8_12 (K : Nat → ClassId) (q q9 q10 : Nat) (a1 a2 a3 a4 a5 a6 a7 a8 a11 a12 a13 a14 a15 a16 a17 : Nat → Nat) : seg (at8 q q9 q10 a1 a2 a3 a4 a5 a6 a7 a8 a11 a12 a13 a14 a15 a16 a17) (gF (xG (at8 q q9 q10 a1 a2 a3 a4 a5 a6 a7 a8 a11 a12 a13 a14 a15 a16 a17) K none) xv0 xa0 xl0) 71 2 = bX5 K a13 := rfl
set_option maxHeartbeats 4000000 in
set_option maxRecDepth 100000 in
theorem sg8_13 (K : Nat → ClassId) (q q9 q10 : Nat) (a1 a2 a3 a4 a5 a6 a7 a8 a11 a12 a13 a14 a15 a16 a17 : Nat → Nat) : seg (at8 q q9 q10 a1 a2 a3 a4 a5 a6 a7 a8 a11 a12 a13 a14 a15 a16 a17) (gF (xG (at8 q q9 q10 a1 a2 a3 a4 a5 a6 a7 a8 a11 a12 a13 a14 a15 a16 a17) K none) xv0 xa0 xl0) 73 2 = bX5 K a14 := rfl
set_option maxHeartbeats 4000000 in
set_option maxRecDepth 100000 in
theorem sg8_14 (K : Nat → ClassId) (q q9 q10 : Nat) (a1 a2 a3 a4 a5 a6 a7 a8 a11 a12 a13 a14 a15 a16 a17 : Nat → Nat) : seg (at8 q q9 q10 a1 a2 a3 a4 a5 a6 a7 a8 a11 a12 a13 a14 a15 a16 a17) (gF (xG (at8 q q9 q10 a1 a2 a3 a4 a5 a6 a7 a8 a11 a12 a13 a14 a15 a16 a17) K none) xv0 xa0 xl0) 75 19 = bX3 K a15 := rfl
set_option maxHeartbeats 4000000 in
set_option maxRecDepth 100000 in
theorem sg8_15 (K : Nat → ClassId) (q q9 q10 : Nat) (a1 a2 a3 a4 a5 a6 a7 a8 a11 a12 a13 a14 a15 a16 a17 : Nat → Nat) : seg (at8 q q9 q10 a1 a2 a3 a4 a5 a6 a7 a8 a11 a12 a13 a14 a15 a16 a17) (gF (xG (at8 q q9 q10 a1 a2 a3 a4 a5 a6 a7 a8 a11 a12 a13 a14 a15 a16 a17) K none) xv0 xa0 xl0) 94 19 = bX3 K a16 := rfl
set_option maxHeartbeats 4000000 in
set_option maxRecDepth 100000 in
theorem sg8_16 (K : Nat → ClassId) (q q9 q10 : Nat) (a1 a2 a3 a4 a5 a6 a7 a8 a11 a12 a13 a14 a15 a16 a17 : Nat → Nat) : seg (at8 q q9 q10 a1 a2 a3 a4 a5 a6 a7 a8 a11 a12 a13 a14 a15 a16 a17) (gF (xG (at8 q q9 q10 a1 a2 a3 a4 a5 a6 a7 a8 a11 a12 a13 a14 a15 a16 a17) K none) xv0 xa0 xl0) 113 19 = bX3 K a17 := rfl
set_option maxHeartbeats 4000000 in
set_option maxRecDepth 100000 in
theorem as8 (K : Nat → ClassId) (q q9 q10 : Nat) (a1 a2 a3 a4 a5 a6 a7 a8 a11 a12 a13 a14 a15 a16 a17 : Nat → Nat) : wW (at8 q q9 q10 a1 a2 a3 a4 a5 a6 a7 a8 a11 a12 a13 a14 a15 a16 a17) (xG (at8 q q9 q10 a1 a2 a3 a4 a5 a6 a7 a8 a11 a12 a13 a14 a15 a16 a17) K none) 132 xv0 xa0 xl0 = (q, .inr (8, [.ref (a1 0), .ref (a2 0), .ref (a3 0), .ref (a4 0), .ref (a5 0), .ref (a6 0), .ref (a7 0), .ref (a8 0), .ref q9, .ref q10])) :: ((((((((bX4 K a1 ++ bX1 K a2) ++ bX1 K a3) ++ bX7 K (a2 0) a4) ++ bX7 K (a2 0) a5) ++ bX0 K a6) ++ bX6 K (a2 0) (a6 0) a7) ++ bX2 K (a2 0) a8) ++ ((q9, .inl (K 4, 4, .inr (.inr (.inr (.inr (va_up (va_up (va_up (va_up (fun _ => none) 0 (some (a11 0))) 1 (some (a12 0))) 2 (some (a13 0))) 3 (some (a14 0)))))))) :: (q10, .inl (K 5, 3, .inr (.inr (.inr (.inr (va_up (va_up (va_up (fun _ => none) 0 (some (a15 0))) 1 (some (a16 0))) 2 (some (a17 0)))))))) :: (bX5 K a11 ++ (bX5 K a12 ++ (bX5 K a13 ++ (bX5 K a14 ++ (bX3 K a15 ++ (bX3 K a16 ++ (bX3 K a17))))))))) := by
  unfold wW
  rw [pw_seg]
  show seg _ _ 0 (1 + (2 + (10 + (10 + (8 + (8 + (6 + (11 + (9 + (2 + (2 + (2 + (2 + (2 + (19 + (19 + (19))))))))))))))))) = _
  rw [seg_add _ _ 0 1 (2 + (10 + (10 + (8 + (8 + (6 + (11 + (9 + (2 + (2 + (2 + (2 + (2 + (19 + (19 + (19)))))))))))))))), show 0 + 1 = 1 from rfl, sg8_0]
  rw [seg_add _ _ 1 2 (10 + (10 + (8 + (8 + (6 + (11 + (9 + (2 + (2 + (2 + (2 + (2 + (19 + (19 + (19))))))))))))))), show 1 + 2 = 3 from rfl, sg8_1]
  rw [seg_add _ _ 3 10 (10 + (8 + (8 + (6 + (11 + (9 + (2 + (2 + (2 + (2 + (2 + (19 + (19 + (19)))))))))))))), show 3 + 10 = 13 from rfl, sg8_2]
  rw [seg_add _ _ 13 10 (8 + (8 + (6 + (11 + (9 + (2 + (2 + (2 + (2 + (2 + (19 + (19 + (19))))))))))))), show 13 + 10 = 23 from rfl, sg8_3]
  rw [seg_add _ _ 23 8 (8 + (6 + (11 + (9 + (2 + (2 + (2 + (2 + (2 + (19 + (19 + (19)))))))))))), show 23 + 8 = 31 from rfl, sg8_4]
  rw [seg_add _ _ 31 8 (6 + (11 + (9 + (2 + (2 + (2 + (2 + (2 + (19 + (19 + (19))))))))))), show 31 + 8 = 39 from rfl, sg8_5]
  rw [seg_add _ _ 39 6 (11 + (9 + (2 + (2 + (2 + (2 + (2 + (19 + (19 + (19)))))))))), show 39 + 6 = 45 from rfl, sg8_6]
  rw [seg_add _ _ 45 11 (9 + (2 + (2 + (2 + (2 + (2 + (19 + (19 + (19))))))))), show 45 + 11 = 56 from rfl, sg8_7]
  rw [seg_add _ _ 56 9 (2 + (2 + (2 + (2 + (2 + (19 + (19 + (19)))))))), show 56 + 9 = 65 from rfl, sg8_8]
  rw [seg_add _ _ 65 2 (2 + (2 + (2 + (2 + (19 + (19 + (19))))))), show 65 + 2 = 67 from rfl, sg8_9]
  rw [seg_add _ _ 67 2 (2 + (2 + (2 + (19 + (19 + (19)))))), show 67 + 2 = 69 from rfl, sg8_10]
  rw [seg_add _ _ 69 2 (2 + (2 + (19 + (19 + (19))))), show 69 + 2 = 71 from rfl, sg8_11]
  rw [seg_add _ _ 71 2 (2 + (19 + (19 + (19)))), show 71 + 2 = 73 from rfl, sg8_12]
  rw [seg_add _ _ 73 2 (19 + (19 + (19))), show 73 + 2 = 75 from rfl, sg8_13]
  rw [seg_add _ _ 75 19 (19 + (19)), show 75 + 19 = 94 from rfl, sg8_14]
  rw [seg_add _ _ 94 19 (19), show 94 + 19 = 113 from rfl, sg8_15]
  rw [sg8_16]
  simp only [List.append_assoc, List.cons_append, List.nil_append]
def bX8 (K : Nat → ClassId) (a : Nat → Nat) : va_W := wW a (xG a K none) 132 xv0 xa0 xl0
theorem dX8_init_0 : decode cX8_init 0 = .ok (.aload_n 0, 1) := by decide +kernel
theorem dX8_init_1 : decode cX8_init 1 = .ok (.invokespecial 3, 3) := by decide +kernel
theorem dX8_init_4 : decode cX8_init 4 = .ok (.aload_n 0, 1) := by decide +kernel
theorem dX8_init_5 : decode cX8_init 5 = .ok (.new 9, 3) := by decide +kernel
theorem dX8_init_8 : decode cX8_init 8 = .ok (.dup, 1) := by decide +kernel
theorem dX8_init_9 : decode cX8_init 9 = .ok (.invokespecial 11, 3) := by decide +kernel
theorem dX8_init_12 : decode cX8_init 12 = .ok (.putfield 12, 3) := by decide +kernel
theorem dX8_init_15 : decode cX8_init 15 = .ok (.aload_n 0, 1) := by decide +kernel
theorem dX8_init_16 : decode cX8_init 16 = .ok (.new 16, 3) := by decide +kernel
theorem dX8_init_19 : decode cX8_init 19 = .ok (.dup, 1) := by decide +kernel
theorem dX8_init_20 : decode cX8_init 20 = .ok (.invokespecial 18, 3) := by decide +kernel
theorem dX8_init_23 : decode cX8_init 23 = .ok (.putfield 19, 3) := by decide +kernel
theorem dX8_init_26 : decode cX8_init 26 = .ok (.aload_n 0, 1) := by decide +kernel
theorem dX8_init_27 : decode cX8_init 27 = .ok (.new 16, 3) := by decide +kernel
theorem dX8_init_30 : decode cX8_init 30 = .ok (.dup, 1) := by decide +kernel
theorem dX8_init_31 : decode cX8_init 31 = .ok (.invokespecial 18, 3) := by decide +kernel
theorem dX8_init_34 : decode cX8_init 34 = .ok (.putfield 23, 3) := by decide +kernel
theorem dX8_init_37 : decode cX8_init 37 = .ok (.aload_n 0, 1) := by decide +kernel
theorem dX8_init_38 : decode cX8_init 38 = .ok (.new 26, 3) := by decide +kernel
theorem dX8_init_41 : decode cX8_init 41 = .ok (.dup, 1) := by decide +kernel
theorem dX8_init_42 : decode cX8_init 42 = .ok (.aload_n 0, 1) := by decide +kernel
theorem dX8_init_43 : decode cX8_init 43 = .ok (.getfield 19, 3) := by decide +kernel
theorem dX8_init_46 : decode cX8_init 46 = .ok (.invokespecial 28, 3) := by decide +kernel
theorem dX8_init_49 : decode cX8_init 49 = .ok (.putfield 31, 3) := by decide +kernel
theorem dX8_init_52 : decode cX8_init 52 = .ok (.aload_n 0, 1) := by decide +kernel
theorem dX8_init_53 : decode cX8_init 53 = .ok (.new 26, 3) := by decide +kernel
theorem dX8_init_56 : decode cX8_init 56 = .ok (.dup, 1) := by decide +kernel
theorem dX8_init_57 : decode cX8_init 57 = .ok (.aload_n 0, 1) := by decide +kernel
theorem dX8_init_58 : decode cX8_init 58 = .ok (.getfield 19, 3) := by decide +kernel
theorem dX8_init_61 : decode cX8_init 61 = .ok (.invokespecial 28, 3) := by decide +kernel
theorem dX8_init_64 : decode cX8_init 64 = .ok (.putfield 35, 3) := by decide +kernel
theorem dX8_init_67 : decode cX8_init 67 = .ok (.aload_n 0, 1) := by decide +kernel
theorem dX8_init_68 : decode cX8_init 68 = .ok (.new 38, 3) := by decide +kernel
theorem dX8_init_71 : decode cX8_init 71 = .ok (.dup, 1) := by decide +kernel
theorem dX8_init_72 : decode cX8_init 72 = .ok (.invokespecial 40, 3) := by decide +kernel
theorem dX8_init_75 : decode cX8_init 75 = .ok (.putfield 41, 3) := by decide +kernel
theorem dX8_init_78 : decode cX8_init 78 = .ok (.aload_n 0, 1) := by decide +kernel
theorem dX8_init_79 : decode cX8_init 79 = .ok (.new 45, 3) := by decide +kernel
theorem dX8_init_82 : decode cX8_init 82 = .ok (.dup, 1) := by decide +kernel
theorem dX8_init_83 : decode cX8_init 83 = .ok (.aload_n 0, 1) := by decide +kernel
theorem dX8_init_84 : decode cX8_init 84 = .ok (.getfield 19, 3) := by decide +kernel
theorem dX8_init_87 : decode cX8_init 87 = .ok (.aload_n 0, 1) := by decide +kernel
theorem dX8_init_88 : decode cX8_init 88 = .ok (.getfield 41, 3) := by decide +kernel
theorem dX8_init_91 : decode cX8_init 91 = .ok (.invokespecial 47, 3) := by decide +kernel
theorem dX8_init_94 : decode cX8_init 94 = .ok (.putfield 50, 3) := by decide +kernel
theorem dX8_init_97 : decode cX8_init 97 = .ok (.aload_n 0, 1) := by decide +kernel
theorem dX8_init_98 : decode cX8_init 98 = .ok (.new 54, 3) := by decide +kernel
theorem dX8_init_101 : decode cX8_init 101 = .ok (.dup, 1) := by decide +kernel
theorem dX8_init_102 : decode cX8_init 102 = .ok (.aload_n 0, 1) := by decide +kernel
theorem dX8_init_103 : decode cX8_init 103 = .ok (.getfield 19, 3) := by decide +kernel
theorem dX8_init_106 : decode cX8_init 106 = .ok (.invokespecial 56, 3) := by decide +kernel
theorem dX8_init_109 : decode cX8_init 109 = .ok (.putfield 57, 3) := by decide +kernel
theorem dX8_init_112 : decode cX8_init 112 = .ok (.aload_n 0, 1) := by decide +kernel
theorem dX8_init_113 : decode cX8_init 113 = .ok (.iconst 4, 1) := by decide +kernel
theorem dX8_init_114 : decode cX8_init 114 = .ok (.anewarray 61, 3) := by decide +kernel
theorem dX8_init_117 : decode cX8_init 117 = .ok (.putfield 63, 3) := by decide +kernel
theorem dX8_init_120 : decode cX8_init 120 = .ok (.aload_n 0, 1) := by decide +kernel
theorem dX8_init_121 : decode cX8_init 121 = .ok (.iconst 3, 1) := by decide +kernel
theorem dX8_init_122 : decode cX8_init 122 = .ok (.anewarray 67, 3) := by decide +kernel
theorem dX8_init_125 : decode cX8_init 125 = .ok (.putfield 69, 3) := by decide +kernel
theorem dX8_init_128 : decode cX8_init 128 = .ok (.iconst 0, 1) := by decide +kernel
theorem dX8_init_129 : decode cX8_init 129 = .ok (.istore_n 1, 1) := by decide +kernel
theorem dX8_init_130 : decode cX8_init 130 = .ok (.iload_n 1, 1) := by decide +kernel
theorem dX8_init_131 : decode cX8_init 131 = .ok (.iconst 4, 1) := by decide +kernel
theorem dX8_init_132 : decode cX8_init 132 = .ok (.if_icmp .ge 22, 3) := by decide +kernel
theorem dX8_init_135 : decode cX8_init 135 = .ok (.aload_n 0, 1) := by decide +kernel
theorem dX8_init_136 : decode cX8_init 136 = .ok (.getfield 63, 3) := by decide +kernel
theorem dX8_init_139 : decode cX8_init 139 = .ok (.iload_n 1, 1) := by decide +kernel
theorem dX8_init_140 : decode cX8_init 140 = .ok (.new 61, 3) := by decide +kernel
theorem dX8_init_143 : decode cX8_init 143 = .ok (.dup, 1) := by decide +kernel
theorem dX8_init_144 : decode cX8_init 144 = .ok (.invokespecial 73, 3) := by decide +kernel
theorem dX8_init_147 : decode cX8_init 147 = .ok (.aastore, 1) := by decide +kernel
theorem dX8_init_148 : decode cX8_init 148 = .ok (.iinc 1 1, 3) := by decide +kernel
theorem dX8_init_151 : decode cX8_init 151 = .ok (.goto (-21), 3) := by decide +kernel
theorem dX8_init_154 : decode cX8_init 154 = .ok (.iconst 0, 1) := by decide +kernel
theorem dX8_init_155 : decode cX8_init 155 = .ok (.istore_n 1, 1) := by decide +kernel
theorem dX8_init_156 : decode cX8_init 156 = .ok (.iload_n 1, 1) := by decide +kernel
theorem dX8_init_157 : decode cX8_init 157 = .ok (.iconst 3, 1) := by decide +kernel
theorem dX8_init_158 : decode cX8_init 158 = .ok (.if_icmp .ge 22, 3) := by decide +kernel
theorem dX8_init_161 : decode cX8_init 161 = .ok (.aload_n 0, 1) := by decide +kernel
theorem dX8_init_162 : decode cX8_init 162 = .ok (.getfield 69, 3) := by decide +kernel
theorem dX8_init_165 : decode cX8_init 165 = .ok (.iload_n 1, 1) := by decide +kernel
theorem dX8_init_166 : decode cX8_init 166 = .ok (.new 67, 3) := by decide +kernel
theorem dX8_init_169 : decode cX8_init 169 = .ok (.dup, 1) := by decide +kernel
theorem dX8_init_170 : decode cX8_init 170 = .ok (.invokespecial 74, 3) := by decide +kernel
theorem dX8_init_173 : decode cX8_init 173 = .ok (.aastore, 1) := by decide +kernel
theorem dX8_init_174 : decode cX8_init 174 = .ok (.iinc 1 1, 3) := by decide +kernel
theorem dX8_init_177 : decode cX8_init 177 = .ok (.goto (-21), 3) := by decide +kernel
theorem dX8_init_180 : decode cX8_init 180 = .ok (.return_, 1) := by decide +kernel
set_option maxHeartbeats 8000000 in
set_option maxRecDepth 100000 in
theorem k_X8_init (l : Launch) (D : va_G) (K : Nat → ClassId) (q sz : Nat) : Met l yX8_init (wM yX8_init cX8_init 2 none) (rmC 3 131 12549) (va_Pc [.ref q] (cPre D K q sz (.inr (8, zX8)))) (va_Qv (fun a : Nat → Nat => a 0 = q) (cB D (va_A [(q, (.inr (8, zX8)))] sz) (bX8 K)) (va_A [(q, (.inr (8, zX8)))] sz)) 131 12549 (va_A [(q, (.inr (8, zX8)))] sz) := by
  refine x_cmet (by decide) rfl (Nat.le_of_ble_eq_true rfl) ?_
  intro p e s m below meth c ls A hE hr hlo hinn hP hD hS hA hK hnp hl kE
  have hE : CallFix p m c cX8_init 2 s _ tbG "TaleCourt" := hE
  have hl : lv_has ls 2 [(0, .ref q)] := hl
  refine lv_aload_n hE.1 hE.2.1 dX8_init_0 rfl (lv_at hl 0 rfl) ?_
  refine x_oinit (a := q) hE mw_137 mw_138 mw_139 hl.1 dX8_init_1 (Nat.le_of_ble_eq_true rfl) (Nat.le_of_ble_eq_true rfl) ?_
  refine lv_aload_n hE.1 hE.2.1 dX8_init_4 rfl (lv_at hl 0 rfl) ?_
  refine x_newo (ci := 4) (fs := zX4) (k := 1) (z := 7) hE hin4 tyX4 tyX4_ok mw_140 mw_141 mw_115 hK hP hD hS hA rfl zX4_ok rfl rfl (Nat.le_of_ble_eq_true rfl) (Nat.le_of_ble_eq_true rfl) dX8_init_5 (fun q1 H hP hD hS => ?_)
  have hP : va_P D xcl (((q, .inr (8, [.null, .null, .null, .null, .null, .null, .null, .null, .null, .null])) :: []) ++ [(q1, .inr (4, zX4))]) _ := hP
  have hD : va_D A (((q, .inr (8, [.null, .null, .null, .null, .null, .null, .null, .null, .null, .null])) :: []) ++ [(q1, .inr (4, zX4))]) := hD
  refine lv_dup hE.1 hE.2.1 dX8_init_8 rfl ?_
  refine x_ctorN (nn := 0) (As := []) (rest := [.ref q1, .ref q]) (k := 2) (z := 1607) hE hK hnp hP hD hS hA (k_X4_init l D K q1 _) rfl hnp.1 mw_143 mw_115 mw_144 rfl (by decide +kernel) ⟨by decide, by decide⟩ hl.1 rfl (Nat.le_of_ble_eq_true rfl) rfl rfl (Nat.le_of_ble_eq_true rfl) (Nat.le_of_ble_eq_true rfl) dX8_init_9 (fun a1 H locs ha1 hPn hDn hSn => ?_)
  subst ha1
  have hS := hSn
  have hP : va_P D xcl ((q, .inr (8, [.null, .null, .null, .null, .null, .null, .null, .null, .null, .null])) :: bX4 K a1) _ := hPn
  have hD : va_D A ((q, .inr (8, [.null, .null, .null, .null, .null, .null, .null, .null, .null, .null])) :: bX4 K a1) := hDn
  refine x_putF (fs' := [.ref (a1 0), .null, .null, .null, .null, .null, .null, .null, .null, .null]) hE hinn hK hP hD hS rfl hin8 tyX8 tyX8_ok nmX8 0 (by decide) mw_480 rfl rfl rfl rfl (Nat.le_of_ble_eq_true rfl) rfl dX8_init_12 (fun H locs hP hD hS => ?_)
  refine lv_aload_n hE.1 hE.2.1 dX8_init_15 rfl (lv_at hl 0 rfl) ?_
  refine x_newo (ci := 1) (fs := zX1) (k := 3) (z := 1627) hE hin1 tyX1 tyX1_ok mw_172 mw_173 mw_116 hK hP hD hS hA rfl zX1_ok rfl rfl (Nat.le_of_ble_eq_true rfl) (Nat.le_of_ble_eq_true rfl) dX8_init_16 (fun q2 H hP hD hS => ?_)
  have hP : va_P D xcl (((q, .inr (8, [.ref (a1 0), .null, .null, .null, .null, .null, .null, .null, .null, .null])) :: bX4 K a1) ++ [(q2, .inr (1, zX1))]) _ := hP
  have hD : va_D A (((q, .inr (8, [.ref (a1 0), .null, .null, .null, .null, .null, .null, .null, .null, .null])) :: bX4 K a1) ++ [(q2, .inr (1, zX1))]) := hD
  refine lv_dup hE.1 hE.2.1 dX8_init_19 rfl ?_
  refine x_ctorN (nn := 0) (As := []) (rest := [.ref q2, .ref q]) (k := 12) (z := 1700) hE hK hnp hP hD hS hA (k_X1_init l D K q2 _) rfl hnp.2.1 mw_175 mw_116 mw_176 rfl (by decide +kernel) ⟨by decide, by decide⟩ hl.1 rfl (Nat.le_of_ble_eq_true rfl) rfl rfl (Nat.le_of_ble_eq_true rfl) (Nat.le_of_ble_eq_true rfl) dX8_init_20 (fun a2 H locs ha2 hPn hDn hSn => ?_)
  subst ha2
  have hS := hSn
  have hP : va_P D xcl ((q, .inr (8, [.ref (a1 0), .null, .null, .null, .null, .null, .null, .null, .null, .null])) :: (bX4 K a1 ++ bX1 K a2)) _ := hPn
  have hD : va_D A ((q, .inr (8, [.ref (a1 0), .null, .null, .null, .null, .null, .null, .null, .null, .null])) :: (bX4 K a1 ++ bX1 K a2)) := hDn
  refine x_putF (fs' := [.ref (a1 0), .ref (a2 0), .null, .null, .null, .null, .null, .null, .null, .null]) hE hinn hK hP hD hS rfl hin8 tyX8 tyX8_ok nmX8 1 (by decide) mw_481 rfl rfl rfl rfl (Nat.le_of_ble_eq_true rfl) rfl dX8_init_23 (fun H locs hP hD hS => ?_)
  refine lv_aload_n hE.1 hE.2.1 dX8_init_26 rfl (lv_at hl 0 rfl) ?_
  refine x_newo (ci := 1) (fs := zX1) (k := 13) (z := 1720) hE hin1 tyX1 tyX1_ok mw_172 mw_173 mw_116 hK hP hD hS hA rfl zX1_ok rfl rfl (Nat.le_of_ble_eq_true rfl) (Nat.le_of_ble_eq_true rfl) dX8_init_27 (fun q3 H hP hD hS => ?_)
  have hP : va_P D xcl (((q, .inr (8, [.ref (a1 0), .ref (a2 0), .null, .null, .null, .null, .null, .null, .null, .null])) :: (bX4 K a1 ++ bX1 K a2)) ++ [(q3, .inr (1, zX1))]) _ := hP
  have hD : va_D A (((q, .inr (8, [.ref (a1 0), .ref (a2 0), .null, .null, .null, .null, .null, .null, .null, .null])) :: (bX4 K a1 ++ bX1 K a2)) ++ [(q3, .inr (1, zX1))]) := hD
  refine lv_dup hE.1 hE.2.1 dX8_init_30 rfl ?_
  refine x_ctorN (nn := 0) (As := []) (rest := [.ref q3, .ref q]) (k := 22) (z := 1793) hE hK hnp hP hD hS hA (k_X1_init l D K q3 _) rfl hnp.2.1 mw_175 mw_116 mw_176 rfl (by decide +kernel) ⟨by decide, by decide⟩ hl.1 rfl (Nat.le_of_ble_eq_true rfl) rfl rfl (Nat.le_of_ble_eq_true rfl) (Nat.le_of_ble_eq_true rfl) dX8_init_31 (fun a3 H locs ha3 hPn hDn hSn => ?_)
  subst ha3
  have hS := hSn
  have hP : va_P D xcl ((q, .inr (8, [.ref (a1 0), .ref (a2 0), .null, .null, .null, .null, .null, .null, .null, .null])) :: ((bX4 K a1 ++ bX1 K a2) ++ bX1 K a3)) _ := hPn
  have hD : va_D A ((q, .inr (8, [.ref (a1 0), .ref (a2 0), .null, .null, .null, .null, .null, .null, .null, .null])) :: ((bX4 K a1 ++ bX1 K a2) ++ bX1 K a3)) := hDn
  refine x_putF (fs' := [.ref (a1 0), .ref (a2 0), .ref (a3 0), .null, .null, .null, .null, .null, .null, .null]) hE hinn hK hP hD hS rfl hin8 tyX8 tyX8_ok nmX8 2 (by decide) mw_482 rfl rfl rfl rfl (Nat.le_of_ble_eq_true rfl) rfl dX8_init_34 (fun H locs hP hD hS => ?_)
  refine lv_aload_n hE.1 hE.2.1 dX8_init_37 rfl (lv_at hl 0 rfl) ?_
  refine x_newo (ci := 7) (fs := zX7) (k := 23) (z := 1807) hE hin7 tyX7 tyX7_ok mw_289 mw_290 mw_117 hK hP hD hS hA rfl zX7_ok rfl rfl (Nat.le_of_ble_eq_true rfl) (Nat.le_of_ble_eq_true rfl) dX8_init_38 (fun q4 H hP hD hS => ?_)
  have hP : va_P D xcl (((q, .inr (8, [.ref (a1 0), .ref (a2 0), .ref (a3 0), .null, .null, .null, .null, .null, .null, .null])) :: ((bX4 K a1 ++ bX1 K a2) ++ bX1 K a3)) ++ [(q4, .inr (7, zX7))]) _ := hP
  have hD : va_D A (((q, .inr (8, [.ref (a1 0), .ref (a2 0), .ref (a3 0), .null, .null, .null, .null, .null, .null, .null])) :: ((bX4 K a1 ++ bX1 K a2) ++ bX1 K a3)) ++ [(q4, .inr (7, zX7))]) := hD
  refine lv_dup hE.1 hE.2.1 dX8_init_41 rfl ?_
  refine lv_aload_n hE.1 hE.2.1 dX8_init_42 rfl (lv_at hl 0 rfl) ?_
  refine x_getN (v := .ref (a2 0)) hE hK hP rfl hin8 1 (by decide) mw_481 rfl dX8_init_43 ?_
  refine x_ctor (nn := 1) (As := [.ref (a2 0)]) (rest := [.ref q4, .ref q]) (k := 30) (z := 1909) hE hK hnp hP hD hS hA (k_X7_init l D K (a2 0) q4 _) rfl mw_291 mw_292 mw_117 mw_293 rfl (by decide +kernel) ⟨by decide, by decide⟩ hl.1 rfl (Nat.le_of_ble_eq_true rfl) rfl rfl (Nat.le_of_ble_eq_true rfl) (Nat.le_of_ble_eq_true rfl) dX8_init_46 (fun a4 H locs ha4 hPn hDn hSn => ?_)
  subst ha4
  have hS := hSn
  have hP : va_P D xcl ((q, .inr (8, [.ref (a1 0), .ref (a2 0), .ref (a3 0), .null, .null, .null, .null, .null, .null, .null])) :: (((bX4 K a1 ++ bX1 K a2) ++ bX1 K a3) ++ bX7 K (a2 0) a4)) _ := hPn
  have hD : va_D A ((q, .inr (8, [.ref (a1 0), .ref (a2 0), .ref (a3 0), .null, .null, .null, .null, .null, .null, .null])) :: (((bX4 K a1 ++ bX1 K a2) ++ bX1 K a3) ++ bX7 K (a2 0) a4)) := hDn
  refine x_putF (fs' := [.ref (a1 0), .ref (a2 0), .ref (a3 0), .ref (a4 0), .null, .null, .null, .null, .null, .null]) hE hinn hK hP hD hS rfl hin8 tyX8 tyX8_ok nmX8 3 (by decide) mw_483 rfl rfl rfl rfl (Nat.le_of_ble_eq_true rfl) rfl dX8_init_49 (fun H locs hP hD hS => ?_)
  refine lv_aload_n hE.1 hE.2.1 dX8_init_52 rfl (lv_at hl 0 rfl) ?_
  refine x_newo (ci := 7) (fs := zX7) (k := 31) (z := 1923) hE hin7 tyX7 tyX7_ok mw_289 mw_290 mw_117 hK hP hD hS hA rfl zX7_ok rfl rfl (Nat.le_of_ble_eq_true rfl) (Nat.le_of_ble_eq_true rfl) dX8_init_53 (fun q5 H hP hD hS => ?_)
  have hP : va_P D xcl (((q, .inr (8, [.ref (a1 0), .ref (a2 0), .ref (a3 0), .ref (a4 0), .null, .null, .null, .null, .null, .null])) :: (((bX4 K a1 ++ bX1 K a2) ++ bX1 K a3) ++ bX7 K (a2 0) a4)) ++ [(q5, .inr (7, zX7))]) _ := hP
  have hD : va_D A (((q, .inr (8, [.ref (a1 0), .ref (a2 0), .ref (a3 0), .ref (a4 0), .null, .null, .null, .null, .null, .null])) :: (((bX4 K a1 ++ bX1 K a2) ++ bX1 K a3) ++ bX7 K (a2 0) a4)) ++ [(q5, .inr (7, zX7))]) := hD
  refine lv_dup hE.1 hE.2.1 dX8_init_56 rfl ?_
  refine lv_aload_n hE.1 hE.2.1 dX8_init_57 rfl (lv_at hl 0 rfl) ?_
  refine x_getN (v := .ref (a2 0)) hE hK hP rfl hin8 1 (by decide) mw_481 rfl dX8_init_58 ?_
  refine x_ctor (nn := 1) (As := [.ref (a2 0)]) (rest := [.ref q5, .ref q]) (k := 38) (z := 2025) hE hK hnp hP hD hS hA (k_X7_init l D K (a2 0) q5 _) rfl mw_291 mw_292 mw_117 mw_293 rfl (by decide +kernel) ⟨by decide, by decide⟩ hl.1 rfl (Nat.le_of_ble_eq_true rfl) rfl rfl (Nat.le_of_ble_eq_true rfl) (Nat.le_of_ble_eq_true rfl) dX8_init_61 (fun a5 H locs ha5 hPn hDn hSn => ?_)
  subst ha5
  have hS := hSn
  have hP : va_P D xcl ((q, .inr (8, [.ref (a1 0), .ref (a2 0), .ref (a3 0), .ref (a4 0), .null, .null, .null, .null, .null, .null])) :: ((((bX4 K a1 ++ bX1 K a2) ++ bX1 K a3) ++ bX7 K (a2 0) a4) ++ bX7 K (a2 0) a5)) _ := hPn
  have hD : va_D A ((q, .inr (8, [.ref (a1 0), .ref (a2 0), .ref (a3 0), .ref (a4 0), .null, .null, .null, .null, .null, .null])) :: ((((bX4 K a1 ++ bX1 K a2) ++ bX1 K a3) ++ bX7 K (a2 0) a4) ++ bX7 K (a2 0) a5)) := hDn
  refine x_putF (fs' := [.ref (a1 0), .ref (a2 0), .ref (a3 0), .ref (a4 0), .ref (a5 0), .null, .null, .null, .null, .null]) hE hinn hK hP hD hS rfl hin8 tyX8 tyX8_ok nmX8 4 (by decide) mw_484 rfl rfl rfl rfl (Nat.le_of_ble_eq_true rfl) rfl dX8_init_64 (fun H locs hP hD hS => ?_)
  refine lv_aload_n hE.1 hE.2.1 dX8_init_67 rfl (lv_at hl 0 rfl) ?_
  refine x_newo (ci := 0) (fs := zX0) (k := 39) (z := 2031) hE hin0 tyX0 tyX0_ok mw_352 mw_353 mw_118 hK hP hD hS hA rfl zX0_ok rfl rfl (Nat.le_of_ble_eq_true rfl) (Nat.le_of_ble_eq_true rfl) dX8_init_68 (fun q6 H hP hD hS => ?_)
  have hP : va_P D xcl (((q, .inr (8, [.ref (a1 0), .ref (a2 0), .ref (a3 0), .ref (a4 0), .ref (a5 0), .null, .null, .null, .null, .null])) :: ((((bX4 K a1 ++ bX1 K a2) ++ bX1 K a3) ++ bX7 K (a2 0) a4) ++ bX7 K (a2 0) a5)) ++ [(q6, .inr (0, zX0))]) _ := hP
  have hD : va_D A (((q, .inr (8, [.ref (a1 0), .ref (a2 0), .ref (a3 0), .ref (a4 0), .ref (a5 0), .null, .null, .null, .null, .null])) :: ((((bX4 K a1 ++ bX1 K a2) ++ bX1 K a3) ++ bX7 K (a2 0) a4) ++ bX7 K (a2 0) a5)) ++ [(q6, .inr (0, zX0))]) := hD
  refine lv_dup hE.1 hE.2.1 dX8_init_71 rfl ?_
  refine x_ctorN (nn := 0) (As := []) (rest := [.ref q6, .ref q]) (k := 44) (z := 3217) hE hK hnp hP hD hS hA (k_X0_init l D K q6 _) rfl hnp.2.2.1 mw_355 mw_118 mw_356 rfl (by decide +kernel) ⟨by decide, by decide⟩ hl.1 rfl (Nat.le_of_ble_eq_true rfl) rfl rfl (Nat.le_of_ble_eq_true rfl) (Nat.le_of_ble_eq_true rfl) dX8_init_72 (fun a6 H locs ha6 hPn hDn hSn => ?_)
  subst ha6
  have hS := hSn
  have hP : va_P D xcl ((q, .inr (8, [.ref (a1 0), .ref (a2 0), .ref (a3 0), .ref (a4 0), .ref (a5 0), .null, .null, .null, .null, .null])) :: (((((bX4 K a1 ++ bX1 K a2) ++ bX1 K a3) ++ bX7 K (a2 0) a4) ++ bX7 K (a2 0) a5) ++ bX0 K a6)) _ := hPn
  have hD : va_D A ((q, .inr (8, [.ref (a1 0), .ref (a2 0), .ref (a3 0), .ref (a4 0), .ref (a5 0), .null, .null, .null, .null, .null])) :: (((((bX4 K a1 ++ bX1 K a2) ++ bX1 K a3) ++ bX7 K (a2 0) a4) ++ bX7 K (a2 0) a5) ++ bX0 K a6)) := hDn
  refine x_putF (fs' := [.ref (a1 0), .ref (a2 0), .ref (a3 0), .ref (a4 0), .ref (a5 0), .ref (a6 0), .null, .null, .null, .null]) hE hinn hK hP hD hS rfl hin8 tyX8 tyX8_ok nmX8 5 (by decide) mw_485 rfl rfl rfl rfl (Nat.le_of_ble_eq_true rfl) rfl dX8_init_75 (fun H locs hP hD hS => ?_)
  refine lv_aload_n hE.1 hE.2.1 dX8_init_78 rfl (lv_at hl 0 rfl) ?_
  refine x_newo (ci := 6) (fs := zX6) (k := 45) (z := 3225) hE hin6 tyX6 tyX6_ok mw_378 mw_379 mw_119 hK hP hD hS hA rfl zX6_ok rfl rfl (Nat.le_of_ble_eq_true rfl) (Nat.le_of_ble_eq_true rfl) dX8_init_79 (fun q7 H hP hD hS => ?_)
  have hP : va_P D xcl (((q, .inr (8, [.ref (a1 0), .ref (a2 0), .ref (a3 0), .ref (a4 0), .ref (a5 0), .ref (a6 0), .null, .null, .null, .null])) :: (((((bX4 K a1 ++ bX1 K a2) ++ bX1 K a3) ++ bX7 K (a2 0) a4) ++ bX7 K (a2 0) a5) ++ bX0 K a6)) ++ [(q7, .inr (6, zX6))]) _ := hP
  have hD : va_D A (((q, .inr (8, [.ref (a1 0), .ref (a2 0), .ref (a3 0), .ref (a4 0), .ref (a5 0), .ref (a6 0), .null, .null, .null, .null])) :: (((((bX4 K a1 ++ bX1 K a2) ++ bX1 K a3) ++ bX7 K (a2 0) a4) ++ bX7 K (a2 0) a5) ++ bX0 K a6)) ++ [(q7, .inr (6, zX6))]) := hD
  refine lv_dup hE.1 hE.2.1 dX8_init_82 rfl ?_
  refine lv_aload_n hE.1 hE.2.1 dX8_init_83 rfl (lv_at hl 0 rfl) ?_
  refine x_getN (v := .ref (a2 0)) hE hK hP rfl hin8 1 (by decide) mw_481 rfl dX8_init_84 ?_
  refine lv_aload_n hE.1 hE.2.1 dX8_init_87 rfl (lv_at hl 0 rfl) ?_
  refine x_getN (v := .ref (a6 0)) hE hK hP rfl hin8 5 (by decide) mw_485 rfl dX8_init_88 ?_
  refine x_ctor (nn := 2) (As := [.ref (a2 0), .ref (a6 0)]) (rest := [.ref q7, .ref q]) (k := 55) (z := 11533) hE hK hnp hP hD hS hA (k_X6_init l D K (a2 0) (a6 0) q7 _) rfl mw_380 mw_381 mw_119 mw_382 rfl (by decide +kernel) ⟨by decide, by decide⟩ hl.1 rfl (Nat.le_of_ble_eq_true rfl) rfl rfl (Nat.le_of_ble_eq_true rfl) (Nat.le_of_ble_eq_true rfl) dX8_init_91 (fun a7 H locs ha7 hPn hDn hSn => ?_)
  subst ha7
  have hS := hSn
  have hP : va_P D xcl ((q, .inr (8, [.ref (a1 0), .ref (a2 0), .ref (a3 0), .ref (a4 0), .ref (a5 0), .ref (a6 0), .null, .null, .null, .null])) :: ((((((bX4 K a1 ++ bX1 K a2) ++ bX1 K a3) ++ bX7 K (a2 0) a4) ++ bX7 K (a2 0) a5) ++ bX0 K a6) ++ bX6 K (a2 0) (a6 0) a7)) _ := hPn
  have hD : va_D A ((q, .inr (8, [.ref (a1 0), .ref (a2 0), .ref (a3 0), .ref (a4 0), .ref (a5 0), .ref (a6 0), .null, .null, .null, .null])) :: ((((((bX4 K a1 ++ bX1 K a2) ++ bX1 K a3) ++ bX7 K (a2 0) a4) ++ bX7 K (a2 0) a5) ++ bX0 K a6) ++ bX6 K (a2 0) (a6 0) a7)) := hDn
  refine x_putF (fs' := [.ref (a1 0), .ref (a2 0), .ref (a3 0), .ref (a4 0), .ref (a5 0), .ref (a6 0), .ref (a7 0), .null, .null, .null]) hE hinn hK hP hD hS rfl hin8 tyX8 tyX8_ok nmX8 6 (by decide) mw_486 rfl rfl rfl rfl (Nat.le_of_ble_eq_true rfl) rfl dX8_init_94 (fun H locs hP hD hS => ?_)
  refine lv_aload_n hE.1 hE.2.1 dX8_init_97 rfl (lv_at hl 0 rfl) ?_
  refine x_newo (ci := 2) (fs := zX2) (k := 56) (z := 11538) hE hin2 tyX2 tyX2_ok mw_412 mw_413 mw_120 hK hP hD hS hA rfl zX2_ok rfl rfl (Nat.le_of_ble_eq_true rfl) (Nat.le_of_ble_eq_true rfl) dX8_init_98 (fun q8 H hP hD hS => ?_)
  have hP : va_P D xcl (((q, .inr (8, [.ref (a1 0), .ref (a2 0), .ref (a3 0), .ref (a4 0), .ref (a5 0), .ref (a6 0), .ref (a7 0), .null, .null, .null])) :: ((((((bX4 K a1 ++ bX1 K a2) ++ bX1 K a3) ++ bX7 K (a2 0) a4) ++ bX7 K (a2 0) a5) ++ bX0 K a6) ++ bX6 K (a2 0) (a6 0) a7)) ++ [(q8, .inr (2, zX2))]) _ := hP
  have hD : va_D A (((q, .inr (8, [.ref (a1 0), .ref (a2 0), .ref (a3 0), .ref (a4 0), .ref (a5 0), .ref (a6 0), .ref (a7 0), .null, .null, .null])) :: ((((((bX4 K a1 ++ bX1 K a2) ++ bX1 K a3) ++ bX7 K (a2 0) a4) ++ bX7 K (a2 0) a5) ++ bX0 K a6) ++ bX6 K (a2 0) (a6 0) a7)) ++ [(q8, .inr (2, zX2))]) := hD
  refine lv_dup hE.1 hE.2.1 dX8_init_101 rfl ?_
  refine lv_aload_n hE.1 hE.2.1 dX8_init_102 rfl (lv_at hl 0 rfl) ?_
  refine x_getN (v := .ref (a2 0)) hE hK hP rfl hin8 1 (by decide) mw_481 rfl dX8_init_103 ?_
  refine x_ctor (nn := 1) (As := [.ref (a2 0)]) (rest := [.ref q8, .ref q]) (k := 64) (z := 11654) hE hK hnp hP hD hS hA (k_X2_init l D K (a2 0) q8 _) rfl mw_414 mw_415 mw_120 mw_416 rfl (by decide +kernel) ⟨by decide, by decide⟩ hl.1 rfl (Nat.le_of_ble_eq_true rfl) rfl rfl (Nat.le_of_ble_eq_true rfl) (Nat.le_of_ble_eq_true rfl) dX8_init_106 (fun a8 H locs ha8 hPn hDn hSn => ?_)
  subst ha8
  have hS := hSn
  have hP : va_P D xcl ((q, .inr (8, [.ref (a1 0), .ref (a2 0), .ref (a3 0), .ref (a4 0), .ref (a5 0), .ref (a6 0), .ref (a7 0), .null, .null, .null])) :: (((((((bX4 K a1 ++ bX1 K a2) ++ bX1 K a3) ++ bX7 K (a2 0) a4) ++ bX7 K (a2 0) a5) ++ bX0 K a6) ++ bX6 K (a2 0) (a6 0) a7) ++ bX2 K (a2 0) a8)) _ := hPn
  have hD : va_D A ((q, .inr (8, [.ref (a1 0), .ref (a2 0), .ref (a3 0), .ref (a4 0), .ref (a5 0), .ref (a6 0), .ref (a7 0), .null, .null, .null])) :: (((((((bX4 K a1 ++ bX1 K a2) ++ bX1 K a3) ++ bX7 K (a2 0) a4) ++ bX7 K (a2 0) a5) ++ bX0 K a6) ++ bX6 K (a2 0) (a6 0) a7) ++ bX2 K (a2 0) a8)) := hDn
  refine x_putF (fs' := [.ref (a1 0), .ref (a2 0), .ref (a3 0), .ref (a4 0), .ref (a5 0), .ref (a6 0), .ref (a7 0), .ref (a8 0), .null, .null]) hE hinn hK hP hD hS rfl hin8 tyX8 tyX8_ok nmX8 7 (by decide) mw_487 rfl rfl rfl rfl (Nat.le_of_ble_eq_true rfl) rfl dX8_init_109 (fun H locs hP hD hS => ?_)
  refine lv_aload_n hE.1 hE.2.1 dX8_init_112 rfl (lv_at hl 0 rfl) ?_
  refine lv_iconst (v := 4) hE.1 hE.2.1 dX8_init_113 (by decide) ?_
  refine x_newq (k := 65) (z := 11658) (N' := 4) hE mw_436 hnp.2.2.2.2.2.2.1 hK 4 rfl hP hD hS hA (by decide) (by decide) (Nat.le_of_ble_eq_true rfl) rfl rfl (Nat.le_of_ble_eq_true rfl) (Nat.le_of_ble_eq_true rfl) dX8_init_114 (fun q9 H hP hD hS => ?_)
  have hpm : List.Perm (((q, .inr (8, [.ref (a1 0), .ref (a2 0), .ref (a3 0), .ref (a4 0), .ref (a5 0), .ref (a6 0), .ref (a7 0), .ref (a8 0), .null, .null])) :: ((((((((bX4 K a1 ++ bX1 K a2) ++ bX1 K a3) ++ bX7 K (a2 0) a4) ++ bX7 K (a2 0) a5) ++ bX0 K a6) ++ bX6 K (a2 0) (a6 0) a7) ++ bX2 K (a2 0) a8) ++ [(q9, .inl (K 4, 4, .inr (.inr (.inr (.inr (fun _ => none))))))])) : va_W) ((q, .inr (8, [.ref (a1 0), .ref (a2 0), .ref (a3 0), .ref (a4 0), .ref (a5 0), .ref (a6 0), .ref (a7 0), .ref (a8 0), .null, .null])) :: (q9, .inl (K 4, 4, .inr (.inr (.inr (.inr (fun _ => none)))))) :: (((((((bX4 K a1 ++ bX1 K a2) ++ bX1 K a3) ++ bX7 K (a2 0) a4) ++ bX7 K (a2 0) a5) ++ bX0 K a6) ++ bX6 K (a2 0) (a6 0) a7) ++ bX2 K (a2 0) a8)) := List.Perm.cons _ (List.perm_append_singleton _ _)
  have hP : va_P D xcl ((q, .inr (8, [.ref (a1 0), .ref (a2 0), .ref (a3 0), .ref (a4 0), .ref (a5 0), .ref (a6 0), .ref (a7 0), .ref (a8 0), .null, .null])) :: (q9, .inl (K 4, 4, .inr (.inr (.inr (.inr (fun _ => none)))))) :: (((((((bX4 K a1 ++ bX1 K a2) ++ bX1 K a3) ++ bX7 K (a2 0) a4) ++ bX7 K (a2 0) a5) ++ bX0 K a6) ++ bX6 K (a2 0) (a6 0) a7) ++ bX2 K (a2 0) a8)) _ := P_perm (ws := ((q, .inr (8, [.ref (a1 0), .ref (a2 0), .ref (a3 0), .ref (a4 0), .ref (a5 0), .ref (a6 0), .ref (a7 0), .ref (a8 0), .null, .null])) :: ((((((((bX4 K a1 ++ bX1 K a2) ++ bX1 K a3) ++ bX7 K (a2 0) a4) ++ bX7 K (a2 0) a5) ++ bX0 K a6) ++ bX6 K (a2 0) (a6 0) a7) ++ bX2 K (a2 0) a8) ++ [(q9, .inl (K 4, 4, .inr (.inr (.inr (.inr (fun _ => none))))))]))) (by exact hP) hpm
  have hD : va_D A ((q, .inr (8, [.ref (a1 0), .ref (a2 0), .ref (a3 0), .ref (a4 0), .ref (a5 0), .ref (a6 0), .ref (a7 0), .ref (a8 0), .null, .null])) :: (q9, .inl (K 4, 4, .inr (.inr (.inr (.inr (fun _ => none)))))) :: (((((((bX4 K a1 ++ bX1 K a2) ++ bX1 K a3) ++ bX7 K (a2 0) a4) ++ bX7 K (a2 0) a5) ++ bX0 K a6) ++ bX6 K (a2 0) (a6 0) a7) ++ bX2 K (a2 0) a8)) := D_perm (ws := ((q, .inr (8, [.ref (a1 0), .ref (a2 0), .ref (a3 0), .ref (a4 0), .ref (a5 0), .ref (a6 0), .ref (a7 0), .ref (a8 0), .null, .null])) :: ((((((((bX4 K a1 ++ bX1 K a2) ++ bX1 K a3) ++ bX7 K (a2 0) a4) ++ bX7 K (a2 0) a5) ++ bX0 K a6) ++ bX6 K (a2 0) (a6 0) a7) ++ bX2 K (a2 0) a8) ++ [(q9, .inl (K 4, 4, .inr (.inr (.inr (.inr (fun _ => none))))))]))) (by exact hD) hpm
  refine x_putF (fs' := [.ref (a1 0), .ref (a2 0), .ref (a3 0), .ref (a4 0), .ref (a5 0), .ref (a6 0), .ref (a7 0), .ref (a8 0), .ref q9, .null]) hE hinn hK hP hD hS rfl hin8 tyX8 tyX8_ok nmX8 8 (by decide) mw_488 rfl rfl rfl rfl (Nat.le_of_ble_eq_true rfl) rfl dX8_init_117 (fun H locs hP hD hS => ?_)
  refine lv_aload_n hE.1 hE.2.1 dX8_init_120 rfl (lv_at hl 0 rfl) ?_
  refine lv_iconst (v := 3) hE.1 hE.2.1 dX8_init_121 (by decide) ?_
  refine x_newq (k := 66) (z := 11661) (N' := 3) hE mw_438 hnp.2.2.2.2.2.2.2 hK 5 rfl hP hD hS hA (by decide) (by decide) (Nat.le_of_ble_eq_true rfl) rfl rfl (Nat.le_of_ble_eq_true rfl) (Nat.le_of_ble_eq_true rfl) dX8_init_122 (fun q10 H hP hD hS => ?_)
  have hpm : List.Perm (((q, .inr (8, [.ref (a1 0), .ref (a2 0), .ref (a3 0), .ref (a4 0), .ref (a5 0), .ref (a6 0), .ref (a7 0), .ref (a8 0), .ref q9, .null])) :: (q9, .inl (K 4, 4, .inr (.inr (.inr (.inr (fun _ => none)))))) :: ((((((((bX4 K a1 ++ bX1 K a2) ++ bX1 K a3) ++ bX7 K (a2 0) a4) ++ bX7 K (a2 0) a5) ++ bX0 K a6) ++ bX6 K (a2 0) (a6 0) a7) ++ bX2 K (a2 0) a8) ++ [(q10, .inl (K 5, 3, .inr (.inr (.inr (.inr (fun _ => none))))))])) : va_W) ((q, .inr (8, [.ref (a1 0), .ref (a2 0), .ref (a3 0), .ref (a4 0), .ref (a5 0), .ref (a6 0), .ref (a7 0), .ref (a8 0), .ref q9, .null])) :: (q9, .inl (K 4, 4, .inr (.inr (.inr (.inr (fun _ => none)))))) :: (q10, .inl (K 5, 3, .inr (.inr (.inr (.inr (fun _ => none)))))) :: (((((((bX4 K a1 ++ bX1 K a2) ++ bX1 K a3) ++ bX7 K (a2 0) a4) ++ bX7 K (a2 0) a5) ++ bX0 K a6) ++ bX6 K (a2 0) (a6 0) a7) ++ bX2 K (a2 0) a8)) := List.Perm.cons _ (List.Perm.cons _ (List.perm_append_singleton _ _))
  have hP : va_P D xcl ((q, .inr (8, [.ref (a1 0), .ref (a2 0), .ref (a3 0), .ref (a4 0), .ref (a5 0), .ref (a6 0), .ref (a7 0), .ref (a8 0), .ref q9, .null])) :: (q9, .inl (K 4, 4, .inr (.inr (.inr (.inr (fun _ => none)))))) :: (q10, .inl (K 5, 3, .inr (.inr (.inr (.inr (fun _ => none)))))) :: (((((((bX4 K a1 ++ bX1 K a2) ++ bX1 K a3) ++ bX7 K (a2 0) a4) ++ bX7 K (a2 0) a5) ++ bX0 K a6) ++ bX6 K (a2 0) (a6 0) a7) ++ bX2 K (a2 0) a8)) _ := P_perm (ws := ((q, .inr (8, [.ref (a1 0), .ref (a2 0), .ref (a3 0), .ref (a4 0), .ref (a5 0), .ref (a6 0), .ref (a7 0), .ref (a8 0), .ref q9, .null])) :: (q9, .inl (K 4, 4, .inr (.inr (.inr (.inr (fun _ => none)))))) :: ((((((((bX4 K a1 ++ bX1 K a2) ++ bX1 K a3) ++ bX7 K (a2 0) a4) ++ bX7 K (a2 0) a5) ++ bX0 K a6) ++ bX6 K (a2 0) (a6 0) a7) ++ bX2 K (a2 0) a8) ++ [(q10, .inl (K 5, 3, .inr (.inr (.inr (.inr (fun _ => none))))))]))) (by exact hP) hpm
  have hD : va_D A ((q, .inr (8, [.ref (a1 0), .ref (a2 0), .ref (a3 0), .ref (a4 0), .ref (a5 0), .ref (a6 0), .ref (a7 0), .ref (a8 0), .ref q9, .null])) :: (q9, .inl (K 4, 4, .inr (.inr (.inr (.inr (fun _ => none)))))) :: (q10, .inl (K 5, 3, .inr (.inr (.inr (.inr (fun _ => none)))))) :: (((((((bX4 K a1 ++ bX1 K a2) ++ bX1 K a3) ++ bX7 K (a2 0) a4) ++ bX7 K (a2 0) a5) ++ bX0 K a6) ++ bX6 K (a2 0) (a6 0) a7) ++ bX2 K (a2 0) a8)) := D_perm (ws := ((q, .inr (8, [.ref (a1 0), .ref (a2 0), .ref (a3 0), .ref (a4 0), .ref (a5 0), .ref (a6 0), .ref (a7 0), .ref (a8 0), .ref q9, .null])) :: (q9, .inl (K 4, 4, .inr (.inr (.inr (.inr (fun _ => none)))))) :: ((((((((bX4 K a1 ++ bX1 K a2) ++ bX1 K a3) ++ bX7 K (a2 0) a4) ++ bX7 K (a2 0) a5) ++ bX0 K a6) ++ bX6 K (a2 0) (a6 0) a7) ++ bX2 K (a2 0) a8) ++ [(q10, .inl (K 5, 3, .inr (.inr (.inr (.inr (fun _ => none))))))]))) (by exact hD) hpm
  refine x_putF (fs' := [.ref (a1 0), .ref (a2 0), .ref (a3 0), .ref (a4 0), .ref (a5 0), .ref (a6 0), .ref (a7 0), .ref (a8 0), .ref q9, .ref q10]) hE hinn hK hP hD hS rfl hin8 tyX8 tyX8_ok nmX8 9 (by decide) mw_489 rfl rfl rfl rfl (Nat.le_of_ble_eq_true rfl) rfl dX8_init_125 (fun H locs hP hD hS => ?_)
  refine lv_iconst (v := 0) hE.1 hE.2.1 dX8_init_128 (by decide) ?_
  refine lv_istore_n (lv' := [(1, .int 0), (0, .ref q)]) hE.1 hE.2.1 dX8_init_129 rfl hl (by decide) rfl (fun ls hl => ?_)
  refine lv_iload_n hE.1 hE.2.1 dX8_init_130 rfl (lv_at hl 0 rfl) ?_
  refine lv_iconst (v := 4) hE.1 hE.2.1 dX8_init_131 (by decide) ?_
  refine lv_icmp_ge (tgt := 154) hE.1 hE.2.1 dX8_init_132 (by decide) (fun h => absurd h (by decide)) (fun _ => ?_)
  refine lv_aload_n hE.1 hE.2.1 dX8_init_135 rfl (lv_at hl 1 rfl) ?_
  refine x_getN (v := .ref q9) hE hK hP rfl hin8 8 (by decide) mw_488 rfl dX8_init_136 ?_
  refine lv_iload_n hE.1 hE.2.1 dX8_init_139 rfl (lv_at hl 0 rfl) ?_
  refine x_newo (ci := 5) (fs := zX5) (k := 67) (z := 11664) hE hin5 tyX5 tyX5_ok mw_436 mw_440 mw_121 hK hP hD hS hA rfl zX5_ok rfl rfl (Nat.le_of_ble_eq_true rfl) (Nat.le_of_ble_eq_true rfl) dX8_init_140 (fun q11 H hP hD hS => ?_)
  have hP : va_P D xcl (((q, .inr (8, [.ref (a1 0), .ref (a2 0), .ref (a3 0), .ref (a4 0), .ref (a5 0), .ref (a6 0), .ref (a7 0), .ref (a8 0), .ref q9, .ref q10])) :: (q9, .inl (K 4, 4, .inr (.inr (.inr (.inr (fun _ => none)))))) :: (q10, .inl (K 5, 3, .inr (.inr (.inr (.inr (fun _ => none)))))) :: (((((((bX4 K a1 ++ bX1 K a2) ++ bX1 K a3) ++ bX7 K (a2 0) a4) ++ bX7 K (a2 0) a5) ++ bX0 K a6) ++ bX6 K (a2 0) (a6 0) a7) ++ bX2 K (a2 0) a8)) ++ [(q11, .inr (5, zX5))]) _ := hP
  have hD : va_D A (((q, .inr (8, [.ref (a1 0), .ref (a2 0), .ref (a3 0), .ref (a4 0), .ref (a5 0), .ref (a6 0), .ref (a7 0), .ref (a8 0), .ref q9, .ref q10])) :: (q9, .inl (K 4, 4, .inr (.inr (.inr (.inr (fun _ => none)))))) :: (q10, .inl (K 5, 3, .inr (.inr (.inr (.inr (fun _ => none)))))) :: (((((((bX4 K a1 ++ bX1 K a2) ++ bX1 K a3) ++ bX7 K (a2 0) a4) ++ bX7 K (a2 0) a5) ++ bX0 K a6) ++ bX6 K (a2 0) (a6 0) a7) ++ bX2 K (a2 0) a8)) ++ [(q11, .inr (5, zX5))]) := hD
  refine lv_dup hE.1 hE.2.1 dX8_init_143 rfl ?_
  refine x_ctorN (nn := 0) (As := []) (rest := [.ref q11, .int 0, .ref q9]) (k := 68) (z := 11724) hE hK hnp hP hD hS hA (k_X5_init l D K q11 _) rfl hnp.2.2.2.1 mw_442 mw_121 mw_443 rfl (by decide +kernel) ⟨by decide, by decide⟩ hl.1 rfl (Nat.le_of_ble_eq_true rfl) rfl rfl (Nat.le_of_ble_eq_true rfl) (Nat.le_of_ble_eq_true rfl) dX8_init_144 (fun a11 H locs ha11 hPn hDn hSn => ?_)
  subst ha11
  have hS := hSn
  have hP : va_P D xcl ((q, .inr (8, [.ref (a1 0), .ref (a2 0), .ref (a3 0), .ref (a4 0), .ref (a5 0), .ref (a6 0), .ref (a7 0), .ref (a8 0), .ref q9, .ref q10])) :: (q9, .inl (K 4, 4, .inr (.inr (.inr (.inr (fun _ => none)))))) :: (q10, .inl (K 5, 3, .inr (.inr (.inr (.inr (fun _ => none)))))) :: ((((((((bX4 K a1 ++ bX1 K a2) ++ bX1 K a3) ++ bX7 K (a2 0) a4) ++ bX7 K (a2 0) a5) ++ bX0 K a6) ++ bX6 K (a2 0) (a6 0) a7) ++ bX2 K (a2 0) a8) ++ bX5 K a11)) _ := hPn
  have hD : va_D A ((q, .inr (8, [.ref (a1 0), .ref (a2 0), .ref (a3 0), .ref (a4 0), .ref (a5 0), .ref (a6 0), .ref (a7 0), .ref (a8 0), .ref q9, .ref q10])) :: (q9, .inl (K 4, 4, .inr (.inr (.inr (.inr (fun _ => none)))))) :: (q10, .inl (K 5, 3, .inr (.inr (.inr (.inr (fun _ => none)))))) :: ((((((((bX4 K a1 ++ bX1 K a2) ++ bX1 K a3) ++ bX7 K (a2 0) a4) ++ bX7 K (a2 0) a5) ++ bX0 K a6) ++ bX6 K (a2 0) (a6 0) a7) ++ bX2 K (a2 0) a8) ++ bX5 K a11)) := hDn
  refine va_astq hE.1 hE.2.1 hK hP hD hS 1 4 ((((((((bX4 K a1 ++ bX1 K a2) ++ bX1 K a3) ++ bX7 K (a2 0) a4) ++ bX7 K (a2 0) a5) ++ bX0 K a6) ++ bX6 K (a2 0) (a6 0) a7) ++ bX2 K (a2 0) a8).length + 3) 5 rfl rfl (show ((q, .inr (8, [.ref (a1 0), .ref (a2 0), .ref (a3 0), .ref (a4 0), .ref (a5 0), .ref (a6 0), .ref (a7 0), .ref (a8 0), .ref q9, .ref q10])) :: (q9, .inl (K 4, 4, .inr (.inr (.inr (.inr (fun _ => none)))))) :: (q10, .inl (K 5, 3, .inr (.inr (.inr (.inr (fun _ => none)))))) :: ((((((((bX4 K a1 ++ bX1 K a2) ++ bX1 K a3) ++ bX7 K (a2 0) a4) ++ bX7 K (a2 0) a5) ++ bX0 K a6) ++ bX6 K (a2 0) (a6 0) a7) ++ bX2 K (a2 0) a8) ++ bX5 K a11))[(((((((bX4 K a1 ++ bX1 K a2) ++ bX1 K a3) ++ bX7 K (a2 0) a4) ++ bX7 K (a2 0) a5) ++ bX0 K a6) ++ bX6 K (a2 0) (a6 0) a7) ++ bX2 K (a2 0) a8).length + 3]? = some (a11 0, .inr (5, [.ref (a11 1), .int 0, .int (-1)])) from by simp [bX5]) rfl (by unfold vp_in; decide) dX8_init_147 (fun H locs hP hD hS => ?_)
  have hP : va_P D xcl ((q, .inr (8, [.ref (a1 0), .ref (a2 0), .ref (a3 0), .ref (a4 0), .ref (a5 0), .ref (a6 0), .ref (a7 0), .ref (a8 0), .ref q9, .ref q10])) :: (q9, .inl (K 4, 4, .inr (.inr (.inr (.inr (va_up (fun _ => none) 0 (some (a11 0)))))))) :: (q10, .inl (K 5, 3, .inr (.inr (.inr (.inr (fun _ => none)))))) :: ((((((((bX4 K a1 ++ bX1 K a2) ++ bX1 K a3) ++ bX7 K (a2 0) a4) ++ bX7 K (a2 0) a5) ++ bX0 K a6) ++ bX6 K (a2 0) (a6 0) a7) ++ bX2 K (a2 0) a8) ++ bX5 K a11)) _ := hP
  have hD : va_D A ((q, .inr (8, [.ref (a1 0), .ref (a2 0), .ref (a3 0), .ref (a4 0), .ref (a5 0), .ref (a6 0), .ref (a7 0), .ref (a8 0), .ref q9, .ref q10])) :: (q9, .inl (K 4, 4, .inr (.inr (.inr (.inr (va_up (fun _ => none) 0 (some (a11 0)))))))) :: (q10, .inl (K 5, 3, .inr (.inr (.inr (.inr (fun _ => none)))))) :: ((((((((bX4 K a1 ++ bX1 K a2) ++ bX1 K a3) ++ bX7 K (a2 0) a4) ++ bX7 K (a2 0) a5) ++ bX0 K a6) ++ bX6 K (a2 0) (a6 0) a7) ++ bX2 K (a2 0) a8) ++ bX5 K a11)) := hD
  refine lv_iinc (v := 1) (lv' := [(1, .int 1), (0, .ref q)]) hE.1 hE.2.1 dX8_init_148 hl (k := 0) rfl (by decide) (by decide) rfl (fun ls hl => ?_)
  refine lv_goto (tgt := 130) hE.1 hE.2.1 dX8_init_151 (by decide) ?_
  refine lv_iload_n hE.1 hE.2.1 dX8_init_130 rfl (lv_at hl 0 rfl) ?_
  refine lv_iconst (v := 4) hE.1 hE.2.1 dX8_init_131 (by decide) ?_
  refine lv_icmp_ge (tgt := 154) hE.1 hE.2.1 dX8_init_132 (by decide) (fun h => absurd h (by decide)) (fun _ => ?_)
  refine lv_aload_n hE.1 hE.2.1 dX8_init_135 rfl (lv_at hl 1 rfl) ?_
  refine x_getN (v := .ref q9) hE hK hP rfl hin8 8 (by decide) mw_488 rfl dX8_init_136 ?_
  refine lv_iload_n hE.1 hE.2.1 dX8_init_139 rfl (lv_at hl 0 rfl) ?_
  refine x_newo (ci := 5) (fs := zX5) (k := 69) (z := 11727) hE hin5 tyX5 tyX5_ok mw_436 mw_440 mw_121 hK hP hD hS hA rfl zX5_ok rfl rfl (Nat.le_of_ble_eq_true rfl) (Nat.le_of_ble_eq_true rfl) dX8_init_140 (fun q12 H hP hD hS => ?_)
  have hP : va_P D xcl (((q, .inr (8, [.ref (a1 0), .ref (a2 0), .ref (a3 0), .ref (a4 0), .ref (a5 0), .ref (a6 0), .ref (a7 0), .ref (a8 0), .ref q9, .ref q10])) :: (q9, .inl (K 4, 4, .inr (.inr (.inr (.inr (va_up (fun _ => none) 0 (some (a11 0)))))))) :: (q10, .inl (K 5, 3, .inr (.inr (.inr (.inr (fun _ => none)))))) :: ((((((((bX4 K a1 ++ bX1 K a2) ++ bX1 K a3) ++ bX7 K (a2 0) a4) ++ bX7 K (a2 0) a5) ++ bX0 K a6) ++ bX6 K (a2 0) (a6 0) a7) ++ bX2 K (a2 0) a8) ++ bX5 K a11)) ++ [(q12, .inr (5, zX5))]) _ := hP
  have hD : va_D A (((q, .inr (8, [.ref (a1 0), .ref (a2 0), .ref (a3 0), .ref (a4 0), .ref (a5 0), .ref (a6 0), .ref (a7 0), .ref (a8 0), .ref q9, .ref q10])) :: (q9, .inl (K 4, 4, .inr (.inr (.inr (.inr (va_up (fun _ => none) 0 (some (a11 0)))))))) :: (q10, .inl (K 5, 3, .inr (.inr (.inr (.inr (fun _ => none)))))) :: ((((((((bX4 K a1 ++ bX1 K a2) ++ bX1 K a3) ++ bX7 K (a2 0) a4) ++ bX7 K (a2 0) a5) ++ bX0 K a6) ++ bX6 K (a2 0) (a6 0) a7) ++ bX2 K (a2 0) a8) ++ bX5 K a11)) ++ [(q12, .inr (5, zX5))]) := hD
  refine lv_dup hE.1 hE.2.1 dX8_init_143 rfl ?_
  refine x_ctorN (nn := 0) (As := []) (rest := [.ref q12, .int 1, .ref q9]) (k := 70) (z := 11787) hE hK hnp hP hD hS hA (k_X5_init l D K q12 _) rfl hnp.2.2.2.1 mw_442 mw_121 mw_443 rfl (by decide +kernel) ⟨by decide, by decide⟩ hl.1 rfl (Nat.le_of_ble_eq_true rfl) rfl rfl (Nat.le_of_ble_eq_true rfl) (Nat.le_of_ble_eq_true rfl) dX8_init_144 (fun a12 H locs ha12 hPn hDn hSn => ?_)
  subst ha12
  have hS := hSn
  have hP : va_P D xcl ((q, .inr (8, [.ref (a1 0), .ref (a2 0), .ref (a3 0), .ref (a4 0), .ref (a5 0), .ref (a6 0), .ref (a7 0), .ref (a8 0), .ref q9, .ref q10])) :: (q9, .inl (K 4, 4, .inr (.inr (.inr (.inr (va_up (fun _ => none) 0 (some (a11 0)))))))) :: (q10, .inl (K 5, 3, .inr (.inr (.inr (.inr (fun _ => none)))))) :: (((((((((bX4 K a1 ++ bX1 K a2) ++ bX1 K a3) ++ bX7 K (a2 0) a4) ++ bX7 K (a2 0) a5) ++ bX0 K a6) ++ bX6 K (a2 0) (a6 0) a7) ++ bX2 K (a2 0) a8) ++ bX5 K a11) ++ bX5 K a12)) _ := hPn
  have hD : va_D A ((q, .inr (8, [.ref (a1 0), .ref (a2 0), .ref (a3 0), .ref (a4 0), .ref (a5 0), .ref (a6 0), .ref (a7 0), .ref (a8 0), .ref q9, .ref q10])) :: (q9, .inl (K 4, 4, .inr (.inr (.inr (.inr (va_up (fun _ => none) 0 (some (a11 0)))))))) :: (q10, .inl (K 5, 3, .inr (.inr (.inr (.inr (fun _ => none)))))) :: (((((((((bX4 K a1 ++ bX1 K a2) ++ bX1 K a3) ++ bX7 K (a2 0) a4) ++ bX7 K (a2 0) a5) ++ bX0 K a6) ++ bX6 K (a2 0) (a6 0) a7) ++ bX2 K (a2 0) a8) ++ bX5 K a11) ++ bX5 K a12)) := hDn
  refine va_astq hE.1 hE.2.1 hK hP hD hS 1 4 (((((((((bX4 K a1 ++ bX1 K a2) ++ bX1 K a3) ++ bX7 K (a2 0) a4) ++ bX7 K (a2 0) a5) ++ bX0 K a6) ++ bX6 K (a2 0) (a6 0) a7) ++ bX2 K (a2 0) a8) ++ bX5 K a11).length + 3) 5 rfl rfl (show ((q, .inr (8, [.ref (a1 0), .ref (a2 0), .ref (a3 0), .ref (a4 0), .ref (a5 0), .ref (a6 0), .ref (a7 0), .ref (a8 0), .ref q9, .ref q10])) :: (q9, .inl (K 4, 4, .inr (.inr (.inr (.inr (va_up (fun _ => none) 0 (some (a11 0)))))))) :: (q10, .inl (K 5, 3, .inr (.inr (.inr (.inr (fun _ => none)))))) :: (((((((((bX4 K a1 ++ bX1 K a2) ++ bX1 K a3) ++ bX7 K (a2 0) a4) ++ bX7 K (a2 0) a5) ++ bX0 K a6) ++ bX6 K (a2 0) (a6 0) a7) ++ bX2 K (a2 0) a8) ++ bX5 K a11) ++ bX5 K a12))[((((((((bX4 K a1 ++ bX1 K a2) ++ bX1 K a3) ++ bX7 K (a2 0) a4) ++ bX7 K (a2 0) a5) ++ bX0 K a6) ++ bX6 K (a2 0) (a6 0) a7) ++ bX2 K (a2 0) a8) ++ bX5 K a11).length + 3]? = some (a12 0, .inr (5, [.ref (a12 1), .int 0, .int (-1)])) from by simp [bX5]) rfl (by unfold vp_in; decide) dX8_init_147 (fun H locs hP hD hS => ?_)
  have hP : va_P D xcl ((q, .inr (8, [.ref (a1 0), .ref (a2 0), .ref (a3 0), .ref (a4 0), .ref (a5 0), .ref (a6 0), .ref (a7 0), .ref (a8 0), .ref q9, .ref q10])) :: (q9, .inl (K 4, 4, .inr (.inr (.inr (.inr (va_up (va_up (fun _ => none) 0 (some (a11 0))) 1 (some (a12 0)))))))) :: (q10, .inl (K 5, 3, .inr (.inr (.inr (.inr (fun _ => none)))))) :: (((((((((bX4 K a1 ++ bX1 K a2) ++ bX1 K a3) ++ bX7 K (a2 0) a4) ++ bX7 K (a2 0) a5) ++ bX0 K a6) ++ bX6 K (a2 0) (a6 0) a7) ++ bX2 K (a2 0) a8) ++ bX5 K a11) ++ bX5 K a12)) _ := hP
  have hD : va_D A ((q, .inr (8, [.ref (a1 0), .ref (a2 0), .ref (a3 0), .ref (a4 0), .ref (a5 0), .ref (a6 0), .ref (a7 0), .ref (a8 0), .ref q9, .ref q10])) :: (q9, .inl (K 4, 4, .inr (.inr (.inr (.inr (va_up (va_up (fun _ => none) 0 (some (a11 0))) 1 (some (a12 0)))))))) :: (q10, .inl (K 5, 3, .inr (.inr (.inr (.inr (fun _ => none)))))) :: (((((((((bX4 K a1 ++ bX1 K a2) ++ bX1 K a3) ++ bX7 K (a2 0) a4) ++ bX7 K (a2 0) a5) ++ bX0 K a6) ++ bX6 K (a2 0) (a6 0) a7) ++ bX2 K (a2 0) a8) ++ bX5 K a11) ++ bX5 K a12)) := hD
  refine lv_iinc (v := 2) (lv' := [(1, .int 2), (0, .ref q)]) hE.1 hE.2.1 dX8_init_148 hl (k := 0) rfl (by decide) (by decide) rfl (fun ls hl => ?_)
  refine lv_goto (tgt := 130) hE.1 hE.2.1 dX8_init_151 (by decide) ?_
  refine lv_iload_n hE.1 hE.2.1 dX8_init_130 rfl (lv_at hl 0 rfl) ?_
  refine lv_iconst (v := 4) hE.1 hE.2.1 dX8_init_131 (by decide) ?_
  refine lv_icmp_ge (tgt := 154) hE.1 hE.2.1 dX8_init_132 (by decide) (fun h => absurd h (by decide)) (fun _ => ?_)
  refine lv_aload_n hE.1 hE.2.1 dX8_init_135 rfl (lv_at hl 1 rfl) ?_
  refine x_getN (v := .ref q9) hE hK hP rfl hin8 8 (by decide) mw_488 rfl dX8_init_136 ?_
  refine lv_iload_n hE.1 hE.2.1 dX8_init_139 rfl (lv_at hl 0 rfl) ?_
  refine x_newo (ci := 5) (fs := zX5) (k := 71) (z := 11790) hE hin5 tyX5 tyX5_ok mw_436 mw_440 mw_121 hK hP hD hS hA rfl zX5_ok rfl rfl (Nat.le_of_ble_eq_true rfl) (Nat.le_of_ble_eq_true rfl) dX8_init_140 (fun q13 H hP hD hS => ?_)
  have hP : va_P D xcl (((q, .inr (8, [.ref (a1 0), .ref (a2 0), .ref (a3 0), .ref (a4 0), .ref (a5 0), .ref (a6 0), .ref (a7 0), .ref (a8 0), .ref q9, .ref q10])) :: (q9, .inl (K 4, 4, .inr (.inr (.inr (.inr (va_up (va_up (fun _ => none) 0 (some (a11 0))) 1 (some (a12 0)))))))) :: (q10, .inl (K 5, 3, .inr (.inr (.inr (.inr (fun _ => none)))))) :: (((((((((bX4 K a1 ++ bX1 K a2) ++ bX1 K a3) ++ bX7 K (a2 0) a4) ++ bX7 K (a2 0) a5) ++ bX0 K a6) ++ bX6 K (a2 0) (a6 0) a7) ++ bX2 K (a2 0) a8) ++ bX5 K a11) ++ bX5 K a12)) ++ [(q13, .inr (5, zX5))]) _ := hP
  have hD : va_D A (((q, .inr (8, [.ref (a1 0), .ref (a2 0), .ref (a3 0), .ref (a4 0), .ref (a5 0), .ref (a6 0), .ref (a7 0), .ref (a8 0), .ref q9, .ref q10])) :: (q9, .inl (K 4, 4, .inr (.inr (.inr (.inr (va_up (va_up (fun _ => none) 0 (some (a11 0))) 1 (some (a12 0)))))))) :: (q10, .inl (K 5, 3, .inr (.inr (.inr (.inr (fun _ => none)))))) :: (((((((((bX4 K a1 ++ bX1 K a2) ++ bX1 K a3) ++ bX7 K (a2 0) a4) ++ bX7 K (a2 0) a5) ++ bX0 K a6) ++ bX6 K (a2 0) (a6 0) a7) ++ bX2 K (a2 0) a8) ++ bX5 K a11) ++ bX5 K a12)) ++ [(q13, .inr (5, zX5))]) := hD
  refine lv_dup hE.1 hE.2.1 dX8_init_143 rfl ?_
  refine x_ctorN (nn := 0) (As := []) (rest := [.ref q13, .int 2, .ref q9]) (k := 72) (z := 11850) hE hK hnp hP hD hS hA (k_X5_init l D K q13 _) rfl hnp.2.2.2.1 mw_442 mw_121 mw_443 rfl (by decide +kernel) ⟨by decide, by decide⟩ hl.1 rfl (Nat.le_of_ble_eq_true rfl) rfl rfl (Nat.le_of_ble_eq_true rfl) (Nat.le_of_ble_eq_true rfl) dX8_init_144 (fun a13 H locs ha13 hPn hDn hSn => ?_)
  subst ha13
  have hS := hSn
  have hP : va_P D xcl ((q, .inr (8, [.ref (a1 0), .ref (a2 0), .ref (a3 0), .ref (a4 0), .ref (a5 0), .ref (a6 0), .ref (a7 0), .ref (a8 0), .ref q9, .ref q10])) :: (q9, .inl (K 4, 4, .inr (.inr (.inr (.inr (va_up (va_up (fun _ => none) 0 (some (a11 0))) 1 (some (a12 0)))))))) :: (q10, .inl (K 5, 3, .inr (.inr (.inr (.inr (fun _ => none)))))) :: ((((((((((bX4 K a1 ++ bX1 K a2) ++ bX1 K a3) ++ bX7 K (a2 0) a4) ++ bX7 K (a2 0) a5) ++ bX0 K a6) ++ bX6 K (a2 0) (a6 0) a7) ++ bX2 K (a2 0) a8) ++ bX5 K a11) ++ bX5 K a12) ++ bX5 K a13)) _ := hPn
  have hD : va_D A ((q, .inr (8, [.ref (a1 0), .ref (a2 0), .ref (a3 0), .ref (a4 0), .ref (a5 0), .ref (a6 0), .ref (a7 0), .ref (a8 0), .ref q9, .ref q10])) :: (q9, .inl (K 4, 4, .inr (.inr (.inr (.inr (va_up (va_up (fun _ => none) 0 (some (a11 0))) 1 (some (a12 0)))))))) :: (q10, .inl (K 5, 3, .inr (.inr (.inr (.inr (fun _ => none)))))) :: ((((((((((bX4 K a1 ++ bX1 K a2) ++ bX1 K a3) ++ bX7 K (a2 0) a4) ++ bX7 K (a2 0) a5) ++ bX0 K a6) ++ bX6 K (a2 0) (a6 0) a7) ++ bX2 K (a2 0) a8) ++ bX5 K a11) ++ bX5 K a12) ++ bX5 K a13)) := hDn
  refine va_astq hE.1 hE.2.1 hK hP hD hS 1 4 ((((((((((bX4 K a1 ++ bX1 K a2) ++ bX1 K a3) ++ bX7 K (a2 0) a4) ++ bX7 K (a2 0) a5) ++ bX0 K a6) ++ bX6 K (a2 0) (a6 0) a7) ++ bX2 K (a2 0) a8) ++ bX5 K a11) ++ bX5 K a12).length + 3) 5 rfl rfl (show ((q, .inr (8, [.ref (a1 0), .ref (a2 0), .ref (a3 0), .ref (a4 0), .ref (a5 0), .ref (a6 0), .ref (a7 0), .ref (a8 0), .ref q9, .ref q10])) :: (q9, .inl (K 4, 4, .inr (.inr (.inr (.inr (va_up (va_up (fun _ => none) 0 (some (a11 0))) 1 (some (a12 0)))))))) :: (q10, .inl (K 5, 3, .inr (.inr (.inr (.inr (fun _ => none)))))) :: ((((((((((bX4 K a1 ++ bX1 K a2) ++ bX1 K a3) ++ bX7 K (a2 0) a4) ++ bX7 K (a2 0) a5) ++ bX0 K a6) ++ bX6 K (a2 0) (a6 0) a7) ++ bX2 K (a2 0) a8) ++ bX5 K a11) ++ bX5 K a12) ++ bX5 K a13))[(((((((((bX4 K a1 ++ bX1 K a2) ++ bX1 K a3) ++ bX7 K (a2 0) a4) ++ bX7 K (a2 0) a5) ++ bX0 K a6) ++ bX6 K (a2 0) (a6 0) a7) ++ bX2 K (a2 0) a8) ++ bX5 K a11) ++ bX5 K a12).length + 3]? = some (a13 0, .inr (5, [.ref (a13 1), .int 0, .int (-1)])) from by simp [bX5]) rfl (by unfold vp_in; decide) dX8_init_147 (fun H locs hP hD hS => ?_)
  have hP : va_P D xcl ((q, .inr (8, [.ref (a1 0), .ref (a2 0), .ref (a3 0), .ref (a4 0), .ref (a5 0), .ref (a6 0), .ref (a7 0), .ref (a8 0), .ref q9, .ref q10])) :: (q9, .inl (K 4, 4, .inr (.inr (.inr (.inr (va_up (va_up (va_up (fun _ => none) 0 (some (a11 0))) 1 (some (a12 0))) 2 (some (a13 0)))))))) :: (q10, .inl (K 5, 3, .inr (.inr (.inr (.inr (fun _ => none)))))) :: ((((((((((bX4 K a1 ++ bX1 K a2) ++ bX1 K a3) ++ bX7 K (a2 0) a4) ++ bX7 K (a2 0) a5) ++ bX0 K a6) ++ bX6 K (a2 0) (a6 0) a7) ++ bX2 K (a2 0) a8) ++ bX5 K a11) ++ bX5 K a12) ++ bX5 K a13)) _ := hP
  have hD : va_D A ((q, .inr (8, [.ref (a1 0), .ref (a2 0), .ref (a3 0), .ref (a4 0), .ref (a5 0), .ref (a6 0), .ref (a7 0), .ref (a8 0), .ref q9, .ref q10])) :: (q9, .inl (K 4, 4, .inr (.inr (.inr (.inr (va_up (va_up (va_up (fun _ => none) 0 (some (a11 0))) 1 (some (a12 0))) 2 (some (a13 0)))))))) :: (q10, .inl (K 5, 3, .inr (.inr (.inr (.inr (fun _ => none)))))) :: ((((((((((bX4 K a1 ++ bX1 K a2) ++ bX1 K a3) ++ bX7 K (a2 0) a4) ++ bX7 K (a2 0) a5) ++ bX0 K a6) ++ bX6 K (a2 0) (a6 0) a7) ++ bX2 K (a2 0) a8) ++ bX5 K a11) ++ bX5 K a12) ++ bX5 K a13)) := hD
  refine lv_iinc (v := 3) (lv' := [(1, .int 3), (0, .ref q)]) hE.1 hE.2.1 dX8_init_148 hl (k := 0) rfl (by decide) (by decide) rfl (fun ls hl => ?_)
  refine lv_goto (tgt := 130) hE.1 hE.2.1 dX8_init_151 (by decide) ?_
  refine lv_iload_n hE.1 hE.2.1 dX8_init_130 rfl (lv_at hl 0 rfl) ?_
  refine lv_iconst (v := 4) hE.1 hE.2.1 dX8_init_131 (by decide) ?_
  refine lv_icmp_ge (tgt := 154) hE.1 hE.2.1 dX8_init_132 (by decide) (fun h => absurd h (by decide)) (fun _ => ?_)
  refine lv_aload_n hE.1 hE.2.1 dX8_init_135 rfl (lv_at hl 1 rfl) ?_
  refine x_getN (v := .ref q9) hE hK hP rfl hin8 8 (by decide) mw_488 rfl dX8_init_136 ?_
  refine lv_iload_n hE.1 hE.2.1 dX8_init_139 rfl (lv_at hl 0 rfl) ?_
  refine x_newo (ci := 5) (fs := zX5) (k := 73) (z := 11853) hE hin5 tyX5 tyX5_ok mw_436 mw_440 mw_121 hK hP hD hS hA rfl zX5_ok rfl rfl (Nat.le_of_ble_eq_true rfl) (Nat.le_of_ble_eq_true rfl) dX8_init_140 (fun q14 H hP hD hS => ?_)
  have hP : va_P D xcl (((q, .inr (8, [.ref (a1 0), .ref (a2 0), .ref (a3 0), .ref (a4 0), .ref (a5 0), .ref (a6 0), .ref (a7 0), .ref (a8 0), .ref q9, .ref q10])) :: (q9, .inl (K 4, 4, .inr (.inr (.inr (.inr (va_up (va_up (va_up (fun _ => none) 0 (some (a11 0))) 1 (some (a12 0))) 2 (some (a13 0)))))))) :: (q10, .inl (K 5, 3, .inr (.inr (.inr (.inr (fun _ => none)))))) :: ((((((((((bX4 K a1 ++ bX1 K a2) ++ bX1 K a3) ++ bX7 K (a2 0) a4) ++ bX7 K (a2 0) a5) ++ bX0 K a6) ++ bX6 K (a2 0) (a6 0) a7) ++ bX2 K (a2 0) a8) ++ bX5 K a11) ++ bX5 K a12) ++ bX5 K a13)) ++ [(q14, .inr (5, zX5))]) _ := hP
  have hD : va_D A (((q, .inr (8, [.ref (a1 0), .ref (a2 0), .ref (a3 0), .ref (a4 0), .ref (a5 0), .ref (a6 0), .ref (a7 0), .ref (a8 0), .ref q9, .ref q10])) :: (q9, .inl (K 4, 4, .inr (.inr (.inr (.inr (va_up (va_up (va_up (fun _ => none) 0 (some (a11 0))) 1 (some (a12 0))) 2 (some (a13 0)))))))) :: (q10, .inl (K 5, 3, .inr (.inr (.inr (.inr (fun _ => none)))))) :: ((((((((((bX4 K a1 ++ bX1 K a2) ++ bX1 K a3) ++ bX7 K (a2 0) a4) ++ bX7 K (a2 0) a5) ++ bX0 K a6) ++ bX6 K (a2 0) (a6 0) a7) ++ bX2 K (a2 0) a8) ++ bX5 K a11) ++ bX5 K a12) ++ bX5 K a13)) ++ [(q14, .inr (5, zX5))]) := hD
  refine lv_dup hE.1 hE.2.1 dX8_init_143 rfl ?_
  refine x_ctorN (nn := 0) (As := []) (rest := [.ref q14, .int 3, .ref q9]) (k := 74) (z := 11913) hE hK hnp hP hD hS hA (k_X5_init l D K q14 _) rfl hnp.2.2.2.1 mw_442 mw_121 mw_443 rfl (by decide +kernel) ⟨by decide, by decide⟩ hl.1 rfl (Nat.le_of_ble_eq_true rfl) rfl rfl (Nat.le_of_ble_eq_true rfl) (Nat.le_of_ble_eq_true rfl) dX8_init_144 (fun a14 H locs ha14 hPn hDn hSn => ?_)
  subst ha14
  have hS := hSn
  have hP : va_P D xcl ((q, .inr (8, [.ref (a1 0), .ref (a2 0), .ref (a3 0), .ref (a4 0), .ref (a5 0), .ref (a6 0), .ref (a7 0), .ref (a8 0), .ref q9, .ref q10])) :: (q9, .inl (K 4, 4, .inr (.inr (.inr (.inr (va_up (va_up (va_up (fun _ => none) 0 (some (a11 0))) 1 (some (a12 0))) 2 (some (a13 0)))))))) :: (q10, .inl (K 5, 3, .inr (.inr (.inr (.inr (fun _ => none)))))) :: (((((((((((bX4 K a1 ++ bX1 K a2) ++ bX1 K a3) ++ bX7 K (a2 0) a4) ++ bX7 K (a2 0) a5) ++ bX0 K a6) ++ bX6 K (a2 0) (a6 0) a7) ++ bX2 K (a2 0) a8) ++ bX5 K a11) ++ bX5 K a12) ++ bX5 K a13) ++ bX5 K a14)) _ := hPn
  have hD : va_D A ((q, .inr (8, [.ref (a1 0), .ref (a2 0), .ref (a3 0), .ref (a4 0), .ref (a5 0), .ref (a6 0), .ref (a7 0), .ref (a8 0), .ref q9, .ref q10])) :: (q9, .inl (K 4, 4, .inr (.inr (.inr (.inr (va_up (va_up (va_up (fun _ => none) 0 (some (a11 0))) 1 (some (a12 0))) 2 (some (a13 0)))))))) :: (q10, .inl (K 5, 3, .inr (.inr (.inr (.inr (fun _ => none)))))) :: (((((((((((bX4 K a1 ++ bX1 K a2) ++ bX1 K a3) ++ bX7 K (a2 0) a4) ++ bX7 K (a2 0) a5) ++ bX0 K a6) ++ bX6 K (a2 0) (a6 0) a7) ++ bX2 K (a2 0) a8) ++ bX5 K a11) ++ bX5 K a12) ++ bX5 K a13) ++ bX5 K a14)) := hDn
  refine va_astq hE.1 hE.2.1 hK hP hD hS 1 4 (((((((((((bX4 K a1 ++ bX1 K a2) ++ bX1 K a3) ++ bX7 K (a2 0) a4) ++ bX7 K (a2 0) a5) ++ bX0 K a6) ++ bX6 K (a2 0) (a6 0) a7) ++ bX2 K (a2 0) a8) ++ bX5 K a11) ++ bX5 K a12) ++ bX5 K a13).length + 3) 5 rfl rfl (show ((q, .inr (8, [.ref (a1 0), .ref (a2 0), .ref (a3 0), .ref (a4 0), .ref (a5 0), .ref (a6 0), .ref (a7 0), .ref (a8 0), .ref q9, .ref q10])) :: (q9, .inl (K 4, 4, .inr (.inr (.inr (.inr (va_up (va_up (va_up (fun _ => none) 0 (some (a11 0))) 1 (some (a12 0))) 2 (some (a13 0)))))))) :: (q10, .inl (K 5, 3, .inr (.inr (.inr (.inr (fun _ => none)))))) :: (((((((((((bX4 K a1 ++ bX1 K a2) ++ bX1 K a3) ++ bX7 K (a2 0) a4) ++ bX7 K (a2 0) a5) ++ bX0 K a6) ++ bX6 K (a2 0) (a6 0) a7) ++ bX2 K (a2 0) a8) ++ bX5 K a11) ++ bX5 K a12) ++ bX5 K a13) ++ bX5 K a14))[((((((((((bX4 K a1 ++ bX1 K a2) ++ bX1 K a3) ++ bX7 K (a2 0) a4) ++ bX7 K (a2 0) a5) ++ bX0 K a6) ++ bX6 K (a2 0) (a6 0) a7) ++ bX2 K (a2 0) a8) ++ bX5 K a11) ++ bX5 K a12) ++ bX5 K a13).length + 3]? = some (a14 0, .inr (5, [.ref (a14 1), .int 0, .int (-1)])) from by simp [bX5]) rfl (by unfold vp_in; decide) dX8_init_147 (fun H locs hP hD hS => ?_)
  have hP : va_P D xcl ((q, .inr (8, [.ref (a1 0), .ref (a2 0), .ref (a3 0), .ref (a4 0), .ref (a5 0), .ref (a6 0), .ref (a7 0), .ref (a8 0), .ref q9, .ref q10])) :: (q9, .inl (K 4, 4, .inr (.inr (.inr (.inr (va_up (va_up (va_up (va_up (fun _ => none) 0 (some (a11 0))) 1 (some (a12 0))) 2 (some (a13 0))) 3 (some (a14 0)))))))) :: (q10, .inl (K 5, 3, .inr (.inr (.inr (.inr (fun _ => none)))))) :: (((((((((((bX4 K a1 ++ bX1 K a2) ++ bX1 K a3) ++ bX7 K (a2 0) a4) ++ bX7 K (a2 0) a5) ++ bX0 K a6) ++ bX6 K (a2 0) (a6 0) a7) ++ bX2 K (a2 0) a8) ++ bX5 K a11) ++ bX5 K a12) ++ bX5 K a13) ++ bX5 K a14)) _ := hP
  have hD : va_D A ((q, .inr (8, [.ref (a1 0), .ref (a2 0), .ref (a3 0), .ref (a4 0), .ref (a5 0), .ref (a6 0), .ref (a7 0), .ref (a8 0), .ref q9, .ref q10])) :: (q9, .inl (K 4, 4, .inr (.inr (.inr (.inr (va_up (va_up (va_up (va_up (fun _ => none) 0 (some (a11 0))) 1 (some (a12 0))) 2 (some (a13 0))) 3 (some (a14 0)))))))) :: (q10, .inl (K 5, 3, .inr (.inr (.inr (.inr (fun _ => none)))))) :: (((((((((((bX4 K a1 ++ bX1 K a2) ++ bX1 K a3) ++ bX7 K (a2 0) a4) ++ bX7 K (a2 0) a5) ++ bX0 K a6) ++ bX6 K (a2 0) (a6 0) a7) ++ bX2 K (a2 0) a8) ++ bX5 K a11) ++ bX5 K a12) ++ bX5 K a13) ++ bX5 K a14)) := hD
  refine lv_iinc (v := 4) (lv' := [(1, .int 4), (0, .ref q)]) hE.1 hE.2.1 dX8_init_148 hl (k := 0) rfl (by decide) (by decide) rfl (fun ls hl => ?_)
  refine lv_goto (tgt := 130) hE.1 hE.2.1 dX8_init_151 (by decide) ?_
  refine lv_iload_n hE.1 hE.2.1 dX8_init_130 rfl (lv_at hl 0 rfl) ?_
  refine lv_iconst (v := 4) hE.1 hE.2.1 dX8_init_131 (by decide) ?_
  refine lv_icmp_ge (tgt := 154) hE.1 hE.2.1 dX8_init_132 (by decide) (fun _ => ?_) (fun h => absurd (by decide) h)
  refine lv_iconst (v := 0) hE.1 hE.2.1 dX8_init_154 (by decide) ?_
  refine lv_istore_n (lv' := [(1, .int 0), (0, .ref q)]) hE.1 hE.2.1 dX8_init_155 rfl hl (by decide) rfl (fun ls hl => ?_)
  refine lv_iload_n hE.1 hE.2.1 dX8_init_156 rfl (lv_at hl 0 rfl) ?_
  refine lv_iconst (v := 3) hE.1 hE.2.1 dX8_init_157 (by decide) ?_
  refine lv_icmp_ge (tgt := 180) hE.1 hE.2.1 dX8_init_158 (by decide) (fun h => absurd h (by decide)) (fun _ => ?_)
  refine lv_aload_n hE.1 hE.2.1 dX8_init_161 rfl (lv_at hl 1 rfl) ?_
  refine x_getN (v := .ref q10) hE hK hP rfl hin8 9 (by decide) mw_489 rfl dX8_init_162 ?_
  refine lv_iload_n hE.1 hE.2.1 dX8_init_165 rfl (lv_at hl 0 rfl) ?_
  refine x_newo (ci := 3) (fs := zX3) (k := 75) (z := 11916) hE hin3 tyX3 tyX3_ok mw_438 mw_459 mw_122 hK hP hD hS hA rfl zX3_ok rfl rfl (Nat.le_of_ble_eq_true rfl) (Nat.le_of_ble_eq_true rfl) dX8_init_166 (fun q15 H hP hD hS => ?_)
  have hP : va_P D xcl (((q, .inr (8, [.ref (a1 0), .ref (a2 0), .ref (a3 0), .ref (a4 0), .ref (a5 0), .ref (a6 0), .ref (a7 0), .ref (a8 0), .ref q9, .ref q10])) :: (q9, .inl (K 4, 4, .inr (.inr (.inr (.inr (va_up (va_up (va_up (va_up (fun _ => none) 0 (some (a11 0))) 1 (some (a12 0))) 2 (some (a13 0))) 3 (some (a14 0)))))))) :: (q10, .inl (K 5, 3, .inr (.inr (.inr (.inr (fun _ => none)))))) :: (((((((((((bX4 K a1 ++ bX1 K a2) ++ bX1 K a3) ++ bX7 K (a2 0) a4) ++ bX7 K (a2 0) a5) ++ bX0 K a6) ++ bX6 K (a2 0) (a6 0) a7) ++ bX2 K (a2 0) a8) ++ bX5 K a11) ++ bX5 K a12) ++ bX5 K a13) ++ bX5 K a14)) ++ [(q15, .inr (3, zX3))]) _ := hP
  have hD : va_D A (((q, .inr (8, [.ref (a1 0), .ref (a2 0), .ref (a3 0), .ref (a4 0), .ref (a5 0), .ref (a6 0), .ref (a7 0), .ref (a8 0), .ref q9, .ref q10])) :: (q9, .inl (K 4, 4, .inr (.inr (.inr (.inr (va_up (va_up (va_up (va_up (fun _ => none) 0 (some (a11 0))) 1 (some (a12 0))) 2 (some (a13 0))) 3 (some (a14 0)))))))) :: (q10, .inl (K 5, 3, .inr (.inr (.inr (.inr (fun _ => none)))))) :: (((((((((((bX4 K a1 ++ bX1 K a2) ++ bX1 K a3) ++ bX7 K (a2 0) a4) ++ bX7 K (a2 0) a5) ++ bX0 K a6) ++ bX6 K (a2 0) (a6 0) a7) ++ bX2 K (a2 0) a8) ++ bX5 K a11) ++ bX5 K a12) ++ bX5 K a13) ++ bX5 K a14)) ++ [(q15, .inr (3, zX3))]) := hD
  refine lv_dup hE.1 hE.2.1 dX8_init_169 rfl ?_
  refine x_ctorN (nn := 0) (As := []) (rest := [.ref q15, .int 0, .ref q10]) (k := 93) (z := 12125) hE hK hnp hP hD hS hA (k_X3_init l D K q15 _) rfl hnp.2.2.2.2.1 mw_461 mw_122 mw_462 rfl (by decide +kernel) ⟨by decide, by decide⟩ hl.1 rfl (Nat.le_of_ble_eq_true rfl) rfl rfl (Nat.le_of_ble_eq_true rfl) (Nat.le_of_ble_eq_true rfl) dX8_init_170 (fun a15 H locs ha15 hPn hDn hSn => ?_)
  subst ha15
  have hS := hSn
  have hP : va_P D xcl ((q, .inr (8, [.ref (a1 0), .ref (a2 0), .ref (a3 0), .ref (a4 0), .ref (a5 0), .ref (a6 0), .ref (a7 0), .ref (a8 0), .ref q9, .ref q10])) :: (q9, .inl (K 4, 4, .inr (.inr (.inr (.inr (va_up (va_up (va_up (va_up (fun _ => none) 0 (some (a11 0))) 1 (some (a12 0))) 2 (some (a13 0))) 3 (some (a14 0)))))))) :: (q10, .inl (K 5, 3, .inr (.inr (.inr (.inr (fun _ => none)))))) :: ((((((((((((bX4 K a1 ++ bX1 K a2) ++ bX1 K a3) ++ bX7 K (a2 0) a4) ++ bX7 K (a2 0) a5) ++ bX0 K a6) ++ bX6 K (a2 0) (a6 0) a7) ++ bX2 K (a2 0) a8) ++ bX5 K a11) ++ bX5 K a12) ++ bX5 K a13) ++ bX5 K a14) ++ bX3 K a15)) _ := hPn
  have hD : va_D A ((q, .inr (8, [.ref (a1 0), .ref (a2 0), .ref (a3 0), .ref (a4 0), .ref (a5 0), .ref (a6 0), .ref (a7 0), .ref (a8 0), .ref q9, .ref q10])) :: (q9, .inl (K 4, 4, .inr (.inr (.inr (.inr (va_up (va_up (va_up (va_up (fun _ => none) 0 (some (a11 0))) 1 (some (a12 0))) 2 (some (a13 0))) 3 (some (a14 0)))))))) :: (q10, .inl (K 5, 3, .inr (.inr (.inr (.inr (fun _ => none)))))) :: ((((((((((((bX4 K a1 ++ bX1 K a2) ++ bX1 K a3) ++ bX7 K (a2 0) a4) ++ bX7 K (a2 0) a5) ++ bX0 K a6) ++ bX6 K (a2 0) (a6 0) a7) ++ bX2 K (a2 0) a8) ++ bX5 K a11) ++ bX5 K a12) ++ bX5 K a13) ++ bX5 K a14) ++ bX3 K a15)) := hDn
  refine va_astq hE.1 hE.2.1 hK hP hD hS 2 5 ((((((((((((bX4 K a1 ++ bX1 K a2) ++ bX1 K a3) ++ bX7 K (a2 0) a4) ++ bX7 K (a2 0) a5) ++ bX0 K a6) ++ bX6 K (a2 0) (a6 0) a7) ++ bX2 K (a2 0) a8) ++ bX5 K a11) ++ bX5 K a12) ++ bX5 K a13) ++ bX5 K a14).length + 3) 3 rfl rfl (show ((q, .inr (8, [.ref (a1 0), .ref (a2 0), .ref (a3 0), .ref (a4 0), .ref (a5 0), .ref (a6 0), .ref (a7 0), .ref (a8 0), .ref q9, .ref q10])) :: (q9, .inl (K 4, 4, .inr (.inr (.inr (.inr (va_up (va_up (va_up (va_up (fun _ => none) 0 (some (a11 0))) 1 (some (a12 0))) 2 (some (a13 0))) 3 (some (a14 0)))))))) :: (q10, .inl (K 5, 3, .inr (.inr (.inr (.inr (fun _ => none)))))) :: ((((((((((((bX4 K a1 ++ bX1 K a2) ++ bX1 K a3) ++ bX7 K (a2 0) a4) ++ bX7 K (a2 0) a5) ++ bX0 K a6) ++ bX6 K (a2 0) (a6 0) a7) ++ bX2 K (a2 0) a8) ++ bX5 K a11) ++ bX5 K a12) ++ bX5 K a13) ++ bX5 K a14) ++ bX3 K a15))[(((((((((((bX4 K a1 ++ bX1 K a2) ++ bX1 K a3) ++ bX7 K (a2 0) a4) ++ bX7 K (a2 0) a5) ++ bX0 K a6) ++ bX6 K (a2 0) (a6 0) a7) ++ bX2 K (a2 0) a8) ++ bX5 K a11) ++ bX5 K a12) ++ bX5 K a13) ++ bX5 K a14).length + 3]? = some (a15 0, .inr (3, [.ref (a15 1), .ref (a15 11), .int 0])) from by simp [bX3]) rfl (by unfold vp_in; decide) dX8_init_173 (fun H locs hP hD hS => ?_)
  have hP : va_P D xcl ((q, .inr (8, [.ref (a1 0), .ref (a2 0), .ref (a3 0), .ref (a4 0), .ref (a5 0), .ref (a6 0), .ref (a7 0), .ref (a8 0), .ref q9, .ref q10])) :: (q9, .inl (K 4, 4, .inr (.inr (.inr (.inr (va_up (va_up (va_up (va_up (fun _ => none) 0 (some (a11 0))) 1 (some (a12 0))) 2 (some (a13 0))) 3 (some (a14 0)))))))) :: (q10, .inl (K 5, 3, .inr (.inr (.inr (.inr (va_up (fun _ => none) 0 (some (a15 0)))))))) :: ((((((((((((bX4 K a1 ++ bX1 K a2) ++ bX1 K a3) ++ bX7 K (a2 0) a4) ++ bX7 K (a2 0) a5) ++ bX0 K a6) ++ bX6 K (a2 0) (a6 0) a7) ++ bX2 K (a2 0) a8) ++ bX5 K a11) ++ bX5 K a12) ++ bX5 K a13) ++ bX5 K a14) ++ bX3 K a15)) _ := hP
  have hD : va_D A ((q, .inr (8, [.ref (a1 0), .ref (a2 0), .ref (a3 0), .ref (a4 0), .ref (a5 0), .ref (a6 0), .ref (a7 0), .ref (a8 0), .ref q9, .ref q10])) :: (q9, .inl (K 4, 4, .inr (.inr (.inr (.inr (va_up (va_up (va_up (va_up (fun _ => none) 0 (some (a11 0))) 1 (some (a12 0))) 2 (some (a13 0))) 3 (some (a14 0)))))))) :: (q10, .inl (K 5, 3, .inr (.inr (.inr (.inr (va_up (fun _ => none) 0 (some (a15 0)))))))) :: ((((((((((((bX4 K a1 ++ bX1 K a2) ++ bX1 K a3) ++ bX7 K (a2 0) a4) ++ bX7 K (a2 0) a5) ++ bX0 K a6) ++ bX6 K (a2 0) (a6 0) a7) ++ bX2 K (a2 0) a8) ++ bX5 K a11) ++ bX5 K a12) ++ bX5 K a13) ++ bX5 K a14) ++ bX3 K a15)) := hD
  refine lv_iinc (v := 1) (lv' := [(1, .int 1), (0, .ref q)]) hE.1 hE.2.1 dX8_init_174 hl (k := 0) rfl (by decide) (by decide) rfl (fun ls hl => ?_)
  refine lv_goto (tgt := 156) hE.1 hE.2.1 dX8_init_177 (by decide) ?_
  refine lv_iload_n hE.1 hE.2.1 dX8_init_156 rfl (lv_at hl 0 rfl) ?_
  refine lv_iconst (v := 3) hE.1 hE.2.1 dX8_init_157 (by decide) ?_
  refine lv_icmp_ge (tgt := 180) hE.1 hE.2.1 dX8_init_158 (by decide) (fun h => absurd h (by decide)) (fun _ => ?_)
  refine lv_aload_n hE.1 hE.2.1 dX8_init_161 rfl (lv_at hl 1 rfl) ?_
  refine x_getN (v := .ref q10) hE hK hP rfl hin8 9 (by decide) mw_489 rfl dX8_init_162 ?_
  refine lv_iload_n hE.1 hE.2.1 dX8_init_165 rfl (lv_at hl 0 rfl) ?_
  refine x_newo (ci := 3) (fs := zX3) (k := 94) (z := 12128) hE hin3 tyX3 tyX3_ok mw_438 mw_459 mw_122 hK hP hD hS hA rfl zX3_ok rfl rfl (Nat.le_of_ble_eq_true rfl) (Nat.le_of_ble_eq_true rfl) dX8_init_166 (fun q16 H hP hD hS => ?_)
  have hP : va_P D xcl (((q, .inr (8, [.ref (a1 0), .ref (a2 0), .ref (a3 0), .ref (a4 0), .ref (a5 0), .ref (a6 0), .ref (a7 0), .ref (a8 0), .ref q9, .ref q10])) :: (q9, .inl (K 4, 4, .inr (.inr (.inr (.inr (va_up (va_up (va_up (va_up (fun _ => none) 0 (some (a11 0))) 1 (some (a12 0))) 2 (some (a13 0))) 3 (some (a14 0)))))))) :: (q10, .inl (K 5, 3, .inr (.inr (.inr (.inr (va_up (fun _ => none) 0 (some (a15 0)))))))) :: ((((((((((((bX4 K a1 ++ bX1 K a2) ++ bX1 K a3) ++ bX7 K (a2 0) a4) ++ bX7 K (a2 0) a5) ++ bX0 K a6) ++ bX6 K (a2 0) (a6 0) a7) ++ bX2 K (a2 0) a8) ++ bX5 K a11) ++ bX5 K a12) ++ bX5 K a13) ++ bX5 K a14) ++ bX3 K a15)) ++ [(q16, .inr (3, zX3))]) _ := hP
  have hD : va_D A (((q, .inr (8, [.ref (a1 0), .ref (a2 0), .ref (a3 0), .ref (a4 0), .ref (a5 0), .ref (a6 0), .ref (a7 0), .ref (a8 0), .ref q9, .ref q10])) :: (q9, .inl (K 4, 4, .inr (.inr (.inr (.inr (va_up (va_up (va_up (va_up (fun _ => none) 0 (some (a11 0))) 1 (some (a12 0))) 2 (some (a13 0))) 3 (some (a14 0)))))))) :: (q10, .inl (K 5, 3, .inr (.inr (.inr (.inr (va_up (fun _ => none) 0 (some (a15 0)))))))) :: ((((((((((((bX4 K a1 ++ bX1 K a2) ++ bX1 K a3) ++ bX7 K (a2 0) a4) ++ bX7 K (a2 0) a5) ++ bX0 K a6) ++ bX6 K (a2 0) (a6 0) a7) ++ bX2 K (a2 0) a8) ++ bX5 K a11) ++ bX5 K a12) ++ bX5 K a13) ++ bX5 K a14) ++ bX3 K a15)) ++ [(q16, .inr (3, zX3))]) := hD
  refine lv_dup hE.1 hE.2.1 dX8_init_169 rfl ?_
  refine x_ctorN (nn := 0) (As := []) (rest := [.ref q16, .int 1, .ref q10]) (k := 112) (z := 12337) hE hK hnp hP hD hS hA (k_X3_init l D K q16 _) rfl hnp.2.2.2.2.1 mw_461 mw_122 mw_462 rfl (by decide +kernel) ⟨by decide, by decide⟩ hl.1 rfl (Nat.le_of_ble_eq_true rfl) rfl rfl (Nat.le_of_ble_eq_true rfl) (Nat.le_of_ble_eq_true rfl) dX8_init_170 (fun a16 H locs ha16 hPn hDn hSn => ?_)
  subst ha16
  have hS := hSn
  have hP : va_P D xcl ((q, .inr (8, [.ref (a1 0), .ref (a2 0), .ref (a3 0), .ref (a4 0), .ref (a5 0), .ref (a6 0), .ref (a7 0), .ref (a8 0), .ref q9, .ref q10])) :: (q9, .inl (K 4, 4, .inr (.inr (.inr (.inr (va_up (va_up (va_up (va_up (fun _ => none) 0 (some (a11 0))) 1 (some (a12 0))) 2 (some (a13 0))) 3 (some (a14 0)))))))) :: (q10, .inl (K 5, 3, .inr (.inr (.inr (.inr (va_up (fun _ => none) 0 (some (a15 0)))))))) :: (((((((((((((bX4 K a1 ++ bX1 K a2) ++ bX1 K a3) ++ bX7 K (a2 0) a4) ++ bX7 K (a2 0) a5) ++ bX0 K a6) ++ bX6 K (a2 0) (a6 0) a7) ++ bX2 K (a2 0) a8) ++ bX5 K a11) ++ bX5 K a12) ++ bX5 K a13) ++ bX5 K a14) ++ bX3 K a15) ++ bX3 K a16)) _ := hPn
  have hD : va_D A ((q, .inr (8, [.ref (a1 0), .ref (a2 0), .ref (a3 0), .ref (a4 0), .ref (a5 0), .ref (a6 0), .ref (a7 0), .ref (a8 0), .ref q9, .ref q10])) :: (q9, .inl (K 4, 4, .inr (.inr (.inr (.inr (va_up (va_up (va_up (va_up (fun _ => none) 0 (some (a11 0))) 1 (some (a12 0))) 2 (some (a13 0))) 3 (some (a14 0)))))))) :: (q10, .inl (K 5, 3, .inr (.inr (.inr (.inr (va_up (fun _ => none) 0 (some (a15 0)))))))) :: (((((((((((((bX4 K a1 ++ bX1 K a2) ++ bX1 K a3) ++ bX7 K (a2 0) a4) ++ bX7 K (a2 0) a5) ++ bX0 K a6) ++ bX6 K (a2 0) (a6 0) a7) ++ bX2 K (a2 0) a8) ++ bX5 K a11) ++ bX5 K a12) ++ bX5 K a13) ++ bX5 K a14) ++ bX3 K a15) ++ bX3 K a16)) := hDn
  refine va_astq hE.1 hE.2.1 hK hP hD hS 2 5 (((((((((((((bX4 K a1 ++ bX1 K a2) ++ bX1 K a3) ++ bX7 K (a2 0) a4) ++ bX7 K (a2 0) a5) ++ bX0 K a6) ++ bX6 K (a2 0) (a6 0) a7) ++ bX2 K (a2 0) a8) ++ bX5 K a11) ++ bX5 K a12) ++ bX5 K a13) ++ bX5 K a14) ++ bX3 K a15).length + 3) 3 rfl rfl (show ((q, .inr (8, [.ref (a1 0), .ref (a2 0), .ref (a3 0), .ref (a4 0), .ref (a5 0), .ref (a6 0), .ref (a7 0), .ref (a8 0), .ref q9, .ref q10])) :: (q9, .inl (K 4, 4, .inr (.inr (.inr (.inr (va_up (va_up (va_up (va_up (fun _ => none) 0 (some (a11 0))) 1 (some (a12 0))) 2 (some (a13 0))) 3 (some (a14 0)))))))) :: (q10, .inl (K 5, 3, .inr (.inr (.inr (.inr (va_up (fun _ => none) 0 (some (a15 0)))))))) :: (((((((((((((bX4 K a1 ++ bX1 K a2) ++ bX1 K a3) ++ bX7 K (a2 0) a4) ++ bX7 K (a2 0) a5) ++ bX0 K a6) ++ bX6 K (a2 0) (a6 0) a7) ++ bX2 K (a2 0) a8) ++ bX5 K a11) ++ bX5 K a12) ++ bX5 K a13) ++ bX5 K a14) ++ bX3 K a15) ++ bX3 K a16))[((((((((((((bX4 K a1 ++ bX1 K a2) ++ bX1 K a3) ++ bX7 K (a2 0) a4) ++ bX7 K (a2 0) a5) ++ bX0 K a6) ++ bX6 K (a2 0) (a6 0) a7) ++ bX2 K (a2 0) a8) ++ bX5 K a11) ++ bX5 K a12) ++ bX5 K a13) ++ bX5 K a14) ++ bX3 K a15).length + 3]? = some (a16 0, .inr (3, [.ref (a16 1), .ref (a16 11), .int 0])) from by simp [bX3]) rfl (by unfold vp_in; decide) dX8_init_173 (fun H locs hP hD hS => ?_)
  have hP : va_P D xcl ((q, .inr (8, [.ref (a1 0), .ref (a2 0), .ref (a3 0), .ref (a4 0), .ref (a5 0), .ref (a6 0), .ref (a7 0), .ref (a8 0), .ref q9, .ref q10])) :: (q9, .inl (K 4, 4, .inr (.inr (.inr (.inr (va_up (va_up (va_up (va_up (fun _ => none) 0 (some (a11 0))) 1 (some (a12 0))) 2 (some (a13 0))) 3 (some (a14 0)))))))) :: (q10, .inl (K 5, 3, .inr (.inr (.inr (.inr (va_up (va_up (fun _ => none) 0 (some (a15 0))) 1 (some (a16 0)))))))) :: (((((((((((((bX4 K a1 ++ bX1 K a2) ++ bX1 K a3) ++ bX7 K (a2 0) a4) ++ bX7 K (a2 0) a5) ++ bX0 K a6) ++ bX6 K (a2 0) (a6 0) a7) ++ bX2 K (a2 0) a8) ++ bX5 K a11) ++ bX5 K a12) ++ bX5 K a13) ++ bX5 K a14) ++ bX3 K a15) ++ bX3 K a16)) _ := hP
  have hD : va_D A ((q, .inr (8, [.ref (a1 0), .ref (a2 0), .ref (a3 0), .ref (a4 0), .ref (a5 0), .ref (a6 0), .ref (a7 0), .ref (a8 0), .ref q9, .ref q10])) :: (q9, .inl (K 4, 4, .inr (.inr (.inr (.inr (va_up (va_up (va_up (va_up (fun _ => none) 0 (some (a11 0))) 1 (some (a12 0))) 2 (some (a13 0))) 3 (some (a14 0)))))))) :: (q10, .inl (K 5, 3, .inr (.inr (.inr (.inr (va_up (va_up (fun _ => none) 0 (some (a15 0))) 1 (some (a16 0)))))))) :: (((((((((((((bX4 K a1 ++ bX1 K a2) ++ bX1 K a3) ++ bX7 K (a2 0) a4) ++ bX7 K (a2 0) a5) ++ bX0 K a6) ++ bX6 K (a2 0) (a6 0) a7) ++ bX2 K (a2 0) a8) ++ bX5 K a11) ++ bX5 K a12) ++ bX5 K a13) ++ bX5 K a14) ++ bX3 K a15) ++ bX3 K a16)) := hD
  refine lv_iinc (v := 2) (lv' := [(1, .int 2), (0, .ref q)]) hE.1 hE.2.1 dX8_init_174 hl (k := 0) rfl (by decide) (by decide) rfl (fun ls hl => ?_)
  refine lv_goto (tgt := 156) hE.1 hE.2.1 dX8_init_177 (by decide) ?_
  refine lv_iload_n hE.1 hE.2.1 dX8_init_156 rfl (lv_at hl 0 rfl) ?_
  refine lv_iconst (v := 3) hE.1 hE.2.1 dX8_init_157 (by decide) ?_
  refine lv_icmp_ge (tgt := 180) hE.1 hE.2.1 dX8_init_158 (by decide) (fun h => absurd h (by decide)) (fun _ => ?_)
  refine lv_aload_n hE.1 hE.2.1 dX8_init_161 rfl (lv_at hl 1 rfl) ?_
  refine x_getN (v := .ref q10) hE hK hP rfl hin8 9 (by decide) mw_489 rfl dX8_init_162 ?_
  refine lv_iload_n hE.1 hE.2.1 dX8_init_165 rfl (lv_at hl 0 rfl) ?_
  refine x_newo (ci := 3) (fs := zX3) (k := 113) (z := 12340) hE hin3 tyX3 tyX3_ok mw_438 mw_459 mw_122 hK hP hD hS hA rfl zX3_ok rfl rfl (Nat.le_of_ble_eq_true rfl) (Nat.le_of_ble_eq_true rfl) dX8_init_166 (fun q17 H hP hD hS => ?_)
  have hP : va_P D xcl (((q, .inr (8, [.ref (a1 0), .ref (a2 0), .ref (a3 0), .ref (a4 0), .ref (a5 0), .ref (a6 0), .ref (a7 0), .ref (a8 0), .ref q9, .ref q10])) :: (q9, .inl (K 4, 4, .inr (.inr (.inr (.inr (va_up (va_up (va_up (va_up (fun _ => none) 0 (some (a11 0))) 1 (some (a12 0))) 2 (some (a13 0))) 3 (some (a14 0)))))))) :: (q10, .inl (K 5, 3, .inr (.inr (.inr (.inr (va_up (va_up (fun _ => none) 0 (some (a15 0))) 1 (some (a16 0)))))))) :: (((((((((((((bX4 K a1 ++ bX1 K a2) ++ bX1 K a3) ++ bX7 K (a2 0) a4) ++ bX7 K (a2 0) a5) ++ bX0 K a6) ++ bX6 K (a2 0) (a6 0) a7) ++ bX2 K (a2 0) a8) ++ bX5 K a11) ++ bX5 K a12) ++ bX5 K a13) ++ bX5 K a14) ++ bX3 K a15) ++ bX3 K a16)) ++ [(q17, .inr (3, zX3))]) _ := hP
  have hD : va_D A (((q, .inr (8, [.ref (a1 0), .ref (a2 0), .ref (a3 0), .ref (a4 0), .ref (a5 0), .ref (a6 0), .ref (a7 0), .ref (a8 0), .ref q9, .ref q10])) :: (q9, .inl (K 4, 4, .inr (.inr (.inr (.inr (va_up (va_up (va_up (va_up (fun _ => none) 0 (some (a11 0))) 1 (some (a12 0))) 2 (some (a13 0))) 3 (some (a14 0)))))))) :: (q10, .inl (K 5, 3, .inr (.inr (.inr (.inr (va_up (va_up (fun _ => none) 0 (some (a15 0))) 1 (some (a16 0)))))))) :: (((((((((((((bX4 K a1 ++ bX1 K a2) ++ bX1 K a3) ++ bX7 K (a2 0) a4) ++ bX7 K (a2 0) a5) ++ bX0 K a6) ++ bX6 K (a2 0) (a6 0) a7) ++ bX2 K (a2 0) a8) ++ bX5 K a11) ++ bX5 K a12) ++ bX5 K a13) ++ bX5 K a14) ++ bX3 K a15) ++ bX3 K a16)) ++ [(q17, .inr (3, zX3))]) := hD
  refine lv_dup hE.1 hE.2.1 dX8_init_169 rfl ?_
  refine x_ctorN (nn := 0) (As := []) (rest := [.ref q17, .int 2, .ref q10]) (k := 131) (z := 12549) hE hK hnp hP hD hS hA (k_X3_init l D K q17 _) rfl hnp.2.2.2.2.1 mw_461 mw_122 mw_462 rfl (by decide +kernel) ⟨by decide, by decide⟩ hl.1 rfl (Nat.le_of_ble_eq_true rfl) rfl rfl (Nat.le_of_ble_eq_true rfl) (Nat.le_of_ble_eq_true rfl) dX8_init_170 (fun a17 H locs ha17 hPn hDn hSn => ?_)
  subst ha17
  have hS := hSn
  have hP : va_P D xcl ((q, .inr (8, [.ref (a1 0), .ref (a2 0), .ref (a3 0), .ref (a4 0), .ref (a5 0), .ref (a6 0), .ref (a7 0), .ref (a8 0), .ref q9, .ref q10])) :: (q9, .inl (K 4, 4, .inr (.inr (.inr (.inr (va_up (va_up (va_up (va_up (fun _ => none) 0 (some (a11 0))) 1 (some (a12 0))) 2 (some (a13 0))) 3 (some (a14 0)))))))) :: (q10, .inl (K 5, 3, .inr (.inr (.inr (.inr (va_up (va_up (fun _ => none) 0 (some (a15 0))) 1 (some (a16 0)))))))) :: ((((((((((((((bX4 K a1 ++ bX1 K a2) ++ bX1 K a3) ++ bX7 K (a2 0) a4) ++ bX7 K (a2 0) a5) ++ bX0 K a6) ++ bX6 K (a2 0) (a6 0) a7) ++ bX2 K (a2 0) a8) ++ bX5 K a11) ++ bX5 K a12) ++ bX5 K a13) ++ bX5 K a14) ++ bX3 K a15) ++ bX3 K a16) ++ bX3 K a17)) _ := hPn
  have hD : va_D A ((q, .inr (8, [.ref (a1 0), .ref (a2 0), .ref (a3 0), .ref (a4 0), .ref (a5 0), .ref (a6 0), .ref (a7 0), .ref (a8 0), .ref q9, .ref q10])) :: (q9, .inl (K 4, 4, .inr (.inr (.inr (.inr (va_up (va_up (va_up (va_up (fun _ => none) 0 (some (a11 0))) 1 (some (a12 0))) 2 (some (a13 0))) 3 (some (a14 0)))))))) :: (q10, .inl (K 5, 3, .inr (.inr (.inr (.inr (va_up (va_up (fun _ => none) 0 (some (a15 0))) 1 (some (a16 0)))))))) :: ((((((((((((((bX4 K a1 ++ bX1 K a2) ++ bX1 K a3) ++ bX7 K (a2 0) a4) ++ bX7 K (a2 0) a5) ++ bX0 K a6) ++ bX6 K (a2 0) (a6 0) a7) ++ bX2 K (a2 0) a8) ++ bX5 K a11) ++ bX5 K a12) ++ bX5 K a13) ++ bX5 K a14) ++ bX3 K a15) ++ bX3 K a16) ++ bX3 K a17)) := hDn
  refine va_astq hE.1 hE.2.1 hK hP hD hS 2 5 ((((((((((((((bX4 K a1 ++ bX1 K a2) ++ bX1 K a3) ++ bX7 K (a2 0) a4) ++ bX7 K (a2 0) a5) ++ bX0 K a6) ++ bX6 K (a2 0) (a6 0) a7) ++ bX2 K (a2 0) a8) ++ bX5 K a11) ++ bX5 K a12) ++ bX5 K a13) ++ bX5 K a14) ++ bX3 K a15) ++ bX3 K a16).length + 3) 3 rfl rfl (show ((q, .inr (8, [.ref (a1 0), .ref (a2 0), .ref (a3 0), .ref (a4 0), .ref (a5 0), .ref (a6 0), .ref (a7 0), .ref (a8 0), .ref q9, .ref q10])) :: (q9, .inl (K 4, 4, .inr (.inr (.inr (.inr (va_up (va_up (va_up (va_up (fun _ => none) 0 (some (a11 0))) 1 (some (a12 0))) 2 (some (a13 0))) 3 (some (a14 0)))))))) :: (q10, .inl (K 5, 3, .inr (.inr (.inr (.inr (va_up (va_up (fun _ => none) 0 (some (a15 0))) 1 (some (a16 0)))))))) :: ((((((((((((((bX4 K a1 ++ bX1 K a2) ++ bX1 K a3) ++ bX7 K (a2 0) a4) ++ bX7 K (a2 0) a5) ++ bX0 K a6) ++ bX6 K (a2 0) (a6 0) a7) ++ bX2 K (a2 0) a8) ++ bX5 K a11) ++ bX5 K a12) ++ bX5 K a13) ++ bX5 K a14) ++ bX3 K a15) ++ bX3 K a16) ++ bX3 K a17))[(((((((((((((bX4 K a1 ++ bX1 K a2) ++ bX1 K a3) ++ bX7 K (a2 0) a4) ++ bX7 K (a2 0) a5) ++ bX0 K a6) ++ bX6 K (a2 0) (a6 0) a7) ++ bX2 K (a2 0) a8) ++ bX5 K a11) ++ bX5 K a12) ++ bX5 K a13) ++ bX5 K a14) ++ bX3 K a15) ++ bX3 K a16).length + 3]? = some (a17 0, .inr (3, [.ref (a17 1), .ref (a17 11), .int 0])) from by simp [bX3]) rfl (by unfold vp_in; decide) dX8_init_173 (fun H locs hP hD hS => ?_)
  have hP : va_P D xcl ((q, .inr (8, [.ref (a1 0), .ref (a2 0), .ref (a3 0), .ref (a4 0), .ref (a5 0), .ref (a6 0), .ref (a7 0), .ref (a8 0), .ref q9, .ref q10])) :: (q9, .inl (K 4, 4, .inr (.inr (.inr (.inr (va_up (va_up (va_up (va_up (fun _ => none) 0 (some (a11 0))) 1 (some (a12 0))) 2 (some (a13 0))) 3 (some (a14 0)))))))) :: (q10, .inl (K 5, 3, .inr (.inr (.inr (.inr (va_up (va_up (va_up (fun _ => none) 0 (some (a15 0))) 1 (some (a16 0))) 2 (some (a17 0)))))))) :: ((((((((((((((bX4 K a1 ++ bX1 K a2) ++ bX1 K a3) ++ bX7 K (a2 0) a4) ++ bX7 K (a2 0) a5) ++ bX0 K a6) ++ bX6 K (a2 0) (a6 0) a7) ++ bX2 K (a2 0) a8) ++ bX5 K a11) ++ bX5 K a12) ++ bX5 K a13) ++ bX5 K a14) ++ bX3 K a15) ++ bX3 K a16) ++ bX3 K a17)) _ := hP
  have hD : va_D A ((q, .inr (8, [.ref (a1 0), .ref (a2 0), .ref (a3 0), .ref (a4 0), .ref (a5 0), .ref (a6 0), .ref (a7 0), .ref (a8 0), .ref q9, .ref q10])) :: (q9, .inl (K 4, 4, .inr (.inr (.inr (.inr (va_up (va_up (va_up (va_up (fun _ => none) 0 (some (a11 0))) 1 (some (a12 0))) 2 (some (a13 0))) 3 (some (a14 0)))))))) :: (q10, .inl (K 5, 3, .inr (.inr (.inr (.inr (va_up (va_up (va_up (fun _ => none) 0 (some (a15 0))) 1 (some (a16 0))) 2 (some (a17 0)))))))) :: ((((((((((((((bX4 K a1 ++ bX1 K a2) ++ bX1 K a3) ++ bX7 K (a2 0) a4) ++ bX7 K (a2 0) a5) ++ bX0 K a6) ++ bX6 K (a2 0) (a6 0) a7) ++ bX2 K (a2 0) a8) ++ bX5 K a11) ++ bX5 K a12) ++ bX5 K a13) ++ bX5 K a14) ++ bX3 K a15) ++ bX3 K a16) ++ bX3 K a17)) := hD
  refine lv_iinc (v := 3) (lv' := [(1, .int 3), (0, .ref q)]) hE.1 hE.2.1 dX8_init_174 hl (k := 0) rfl (by decide) (by decide) rfl (fun ls hl => ?_)
  refine lv_goto (tgt := 156) hE.1 hE.2.1 dX8_init_177 (by decide) ?_
  refine lv_iload_n hE.1 hE.2.1 dX8_init_156 rfl (lv_at hl 0 rfl) ?_
  refine lv_iconst (v := 3) hE.1 hE.2.1 dX8_init_157 (by decide) ?_
  refine lv_icmp_ge (tgt := 180) hE.1 hE.2.1 dX8_init_158 (by decide) (fun _ => ?_) (fun h => absurd (by decide) h)
  have hpm := perm8 (q, .inr (8, [.ref (a1 0), .ref (a2 0), .ref (a3 0), .ref (a4 0), .ref (a5 0), .ref (a6 0), .ref (a7 0), .ref (a8 0), .ref q9, .ref q10])) (q9, .inl (K 4, 4, .inr (.inr (.inr (.inr (va_up (va_up (va_up (va_up (fun _ => none) 0 (some (a11 0))) 1 (some (a12 0))) 2 (some (a13 0))) 3 (some (a14 0)))))))) (q10, .inl (K 5, 3, .inr (.inr (.inr (.inr (va_up (va_up (va_up (fun _ => none) 0 (some (a15 0))) 1 (some (a16 0))) 2 (some (a17 0)))))))) (((((((bX4 K a1 ++ bX1 K a2) ++ bX1 K a3) ++ bX7 K (a2 0) a4) ++ bX7 K (a2 0) a5) ++ bX0 K a6) ++ bX6 K (a2 0) (a6 0) a7) ++ bX2 K (a2 0) a8) (bX5 K a11) (bX5 K a12) (bX5 K a13) (bX5 K a14) (bX3 K a15) (bX3 K a16) (bX3 K a17)
  have hP := P_perm hP hpm
  have hD := D_perm hD hpm
  have hq := as8 K q q9 q10 a1 a2 a3 a4 a5 a6 a7 a8 a11 a12 a13 a14 a15 a16 a17
  exact kE (at8 q q9 q10 a1 a2 a3 a4 a5 a6 a7 a8 a11 a12 a13 a14 a15 a16 a17) 180 _ _ _ 131 12549 (Nat.le_of_ble_eq_true rfl) (Nat.le_of_ble_eq_true rfl) rfl (show va_P D xcl (wW _ _ _ _ _ _) _ from by rw [hq]; exact hP) (show va_D A (wW _ _ _ _ _ _) from by rw [hq]; exact hD) hS dX8_init_180
