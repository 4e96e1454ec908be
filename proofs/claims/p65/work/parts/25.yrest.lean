theorem szd {y z w : Int} (hy : y ≠ 0) (hr : -2147483648 ≤ y ∧ y ≤ 2147483647) (e1 : iI y - iI 1 = iI w) (e2 : iI y &&& iI w = iI z) : (iI z).toBitVec.toNat < (iI y).toBitVec.toNat := by
  have h0 : iI y ≠ 0 := iI_ne0 hr hy
  have h1 : (iI y).toBitVec ≠ 0 := fun q => h0 (Int32.toBitVec_inj.mp q)
  have h2 : 0 < (iI y).toBitVec.toNat := Nat.pos_of_ne_zero (fun q => h1 (BitVec.eq_of_toNat_eq (by rw [q]; rfl)))
  rw [← e2, ← e1, Int32.toBitVec_and, BitVec.toNat_and, Int32.toBitVec_sub]
  refine Nat.lt_of_le_of_lt Nat.and_le_right ?_
  have h3 : (iI 1).toBitVec.toNat = 1 := by decide
  have h4 := (iI y).toBitVec.isLt
  rw [BitVec.toNat_sub, h3]
  omega

theorem dX9_sizeOf_0 : decode cX9_sizeOf 0 = .ok (.iconst 0, 1) := by decide +kernel
theorem dX9_sizeOf_1 : decode cX9_sizeOf 1 = .ok (.istore_n 1, 1) := by decide +kernel
theorem dX9_sizeOf_2 : decode cX9_sizeOf 2 = .ok (.iload_n 0, 1) := by decide +kernel
theorem dX9_sizeOf_3 : decode cX9_sizeOf 3 = .ok (.istore_n 2, 1) := by decide +kernel
theorem dX9_sizeOf_4 : decode cX9_sizeOf 4 = .ok (.iload_n 2, 1) := by decide +kernel
theorem dX9_sizeOf_5 : decode cX9_sizeOf 5 = .ok (.ifCond .eq 15, 3) := by decide +kernel
theorem dX9_sizeOf_8 : decode cX9_sizeOf 8 = .ok (.iinc 1 1, 3) := by decide +kernel
theorem dX9_sizeOf_11 : decode cX9_sizeOf 11 = .ok (.iload_n 2, 1) := by decide +kernel
theorem dX9_sizeOf_12 : decode cX9_sizeOf 12 = .ok (.iload_n 2, 1) := by decide +kernel
theorem dX9_sizeOf_13 : decode cX9_sizeOf 13 = .ok (.iconst 1, 1) := by decide +kernel
theorem dX9_sizeOf_14 : decode cX9_sizeOf 14 = .ok (.isub, 1) := by decide +kernel
theorem dX9_sizeOf_15 : decode cX9_sizeOf 15 = .ok (.iand, 1) := by decide +kernel
theorem dX9_sizeOf_16 : decode cX9_sizeOf 16 = .ok (.istore_n 2, 1) := by decide +kernel
theorem dX9_sizeOf_17 : decode cX9_sizeOf 17 = .ok (.goto (-13), 3) := by decide +kernel
theorem dX9_sizeOf_20 : decode cX9_sizeOf 20 = .ok (.iload_n 1, 1) := by decide +kernel
theorem dX9_sizeOf_21 : decode cX9_sizeOf 21 = .ok (.ireturn, 1) := by decide +kernel
set_option maxHeartbeats 4000000 in
set_option maxRecDepth 100000 in
theorem s_X9_sizeOf (l : Launch) (z_1 : Int) (hz_1 : -2147483648 ≤ z_1 ∧ z_1 ≤ 2147483647) : Met l yX9_sizeOf (wM yX9_sizeOf cX9_sizeOf 3 (some .int)) (rmD 0) (va_Pc [.int (iI (z_1))] (fun _ => True)) (vp_Si (fun r => ∃ z : Int, (-2147483648 ≤ z ∧ z ≤ 2147483647) ∧ r = iI z)) 0 0 (fun _ => False) := by
  refine s_metP (by decide) (Nat.le_of_ble_eq_true rfl) ?_
  intro p e s m below meth c ls args Q hE hB hl kr
  have hE : CallFix p m c cX9_sizeOf 3 s args tbG "TaleCourtModel" := hE
  have hl : lv_has ls 3 [(0, .int (iI (z_1)))] := hl
  refine lv_iconst (v := iI (0)) hE.1 hE.2.1 dX9_sizeOf_0 (by decide) ?_
  refine lv_istore_n (lv' := [(1, .int (iI (0))), (0, .int (iI (z_1)))]) hE.1 hE.2.1 dX9_sizeOf_1 rfl hl (by decide) rfl (fun ls hl => ?_)
  refine lv_iload_n hE.1 hE.2.1 dX9_sizeOf_2 rfl (lv_at hl 1 rfl) ?_
  refine lv_istore_n (lv' := [(2, .int (iI (z_1))), (1, .int (iI (0))), (0, .int (iI (z_1)))]) hE.1 hE.2.1 dX9_sizeOf_3 rfl hl (by decide) rfl (fun ls hl => ?_)
  have loop1 : ∀ (k1 : Nat) (y1_2 : Int) (y1_1 : Int) (ls : Array Slot), (iI y1_2).toBitVec.toNat = k1 → (-2147483648 ≤ y1_2 ∧ y1_2 ≤ 2147483647) → (-2147483648 ≤ y1_1 ∧ y1_1 ≤ 2147483647) → lv_has ls 3 [(2, .int (iI (y1_2))), (1, .int (iI (y1_1))), (0, .int (iI (z_1)))] → W p l e (rmD 0) s m args below meth c s.heap [] 0 0 Q (F0 m 4 ls []) := by
    intro k1
    induction k1 using Nat.strongRecOn with
    | _ k1 ih1 =>
      intro y1_2 y1_1 ls hk1 hb_y1_2 hb_y1_1 hl
      refine lv_iload_n hE.1 hE.2.1 dX9_sizeOf_4 rfl (lv_at hl 0 rfl) ?_
      refine s_if_eq (a := y1_2) (tgt := 20) hE.1 hE.2.1 (by omega) dX9_sizeOf_5 (by decide) (fun c2 => ?_) (fun c2 => ?_)
      · skip
        refine lv_iload_n hE.1 hE.2.1 dX9_sizeOf_20 rfl (lv_at hl 1 rfl) ?_
        exact kr _ _ _ rfl ⟨y1_1, by omega, rfl⟩ dX9_sizeOf_21
      · skip
        obtain ⟨z3, hz3, ez3⟩ := iI_of (iI (y1_1) + iI (1))
        refine lv_iinc (v := iI (z3)) (lv' := [(1, .int (iI (z3))), (2, .int (iI (y1_2))), (0, .int (iI (z_1)))]) hE.1 hE.2.1 dX9_sizeOf_8 hl (k := 1) rfl ez3 (by decide) rfl (fun ls hl => ?_)
        refine lv_iload_n hE.1 hE.2.1 dX9_sizeOf_11 rfl (lv_at hl 1 rfl) ?_
        refine lv_iload_n hE.1 hE.2.1 dX9_sizeOf_12 rfl (lv_at hl 1 rfl) ?_
        refine lv_iconst (v := iI (1)) hE.1 hE.2.1 dX9_sizeOf_13 (by decide) ?_
        refine lv_isub hE.1 hE.2.1 dX9_sizeOf_14 ?_
        obtain ⟨z4, hz4, ez4⟩ := iI_of (iI (y1_2) - iI (1))
        refine x_top ez4 ?_
        refine lv_iand hE.1 hE.2.1 dX9_sizeOf_15 ?_
        obtain ⟨z5, hz5, ez5⟩ := iI_of (iI (y1_2) &&& iI (z4))
        refine x_top ez5 ?_
        refine lv_istore_n (lv' := [(2, .int (iI (z5))), (1, .int (iI (z3))), (0, .int (iI (z_1)))]) hE.1 hE.2.1 dX9_sizeOf_16 rfl hl (by decide) rfl (fun ls hl => ?_)
        refine lv_goto (tgt := 4) hE.1 hE.2.1 dX9_sizeOf_17 (by decide) ?_
        exact ih1 _ (by rw [← hk1]; exact szd (by omega) (by omega) (by assumption) (by assumption)) (z5) (z3) _ rfl (by omega) (by omega) (lv_sub hl [0, 1, 2] rfl)
  exact loop1 _ (z_1) (0) _ rfl (by omega) (by omega) hl

theorem dX9_count_0 : decode cX9_count 0 = .ok (.aload_n 0, 1) := by decide +kernel
theorem dX9_count_1 : decode cX9_count 1 = .ok (.iconst 0, 1) := by decide +kernel
theorem dX9_count_2 : decode cX9_count 2 = .ok (.putfield 81, 3) := by decide +kernel
theorem dX9_count_5 : decode cX9_count 5 = .ok (.iconst 0, 1) := by decide +kernel
theorem dX9_count_6 : decode cX9_count 6 = .ok (.istore_n 2, 1) := by decide +kernel
theorem dX9_count_7 : decode cX9_count 7 = .ok (.iload_n 1, 1) := by decide +kernel
theorem dX9_count_8 : decode cX9_count 8 = .ok (.tableswitch 204 0 9 #[56, 63, 70, 77, 110, 145, 152, 159, 164, 171], 56) := by decide +kernel
theorem dX9_count_64 : decode cX9_count 64 = .ok (.aload_n 0, 1) := by decide +kernel
theorem dX9_count_65 : decode cX9_count 65 = .ok (.getfield 34, 3) := by decide +kernel
theorem dX9_count_68 : decode cX9_count 68 = .ok (.iconst 2, 1) := by decide +kernel
theorem dX9_count_69 : decode cX9_count 69 = .ok (.iaload, 1) := by decide +kernel
theorem dX9_count_70 : decode cX9_count 70 = .ok (.ireturn, 1) := by decide +kernel
theorem dX9_count_71 : decode cX9_count 71 = .ok (.aload_n 0, 1) := by decide +kernel
theorem dX9_count_72 : decode cX9_count 72 = .ok (.getfield 34, 3) := by decide +kernel
theorem dX9_count_75 : decode cX9_count 75 = .ok (.iconst 0, 1) := by decide +kernel
theorem dX9_count_76 : decode cX9_count 76 = .ok (.iaload, 1) := by decide +kernel
theorem dX9_count_77 : decode cX9_count 77 = .ok (.ireturn, 1) := by decide +kernel
theorem dX9_count_78 : decode cX9_count 78 = .ok (.aload_n 0, 1) := by decide +kernel
theorem dX9_count_79 : decode cX9_count 79 = .ok (.getfield 34, 3) := by decide +kernel
theorem dX9_count_82 : decode cX9_count 82 = .ok (.iconst 1, 1) := by decide +kernel
theorem dX9_count_83 : decode cX9_count 83 = .ok (.iaload, 1) := by decide +kernel
theorem dX9_count_84 : decode cX9_count 84 = .ok (.ireturn, 1) := by decide +kernel
theorem dX9_count_85 : decode cX9_count 85 = .ok (.iconst 0, 1) := by decide +kernel
theorem dX9_count_86 : decode cX9_count 86 = .ok (.istore_n 3, 1) := by decide +kernel
theorem dX9_count_87 : decode cX9_count 87 = .ok (.iload_n 3, 1) := by decide +kernel
theorem dX9_count_88 : decode cX9_count 88 = .ok (.aload_n 0, 1) := by decide +kernel
theorem dX9_count_89 : decode cX9_count 89 = .ok (.getfield 34, 3) := by decide +kernel
theorem dX9_count_92 : decode cX9_count 92 = .ok (.iconst 2, 1) := by decide +kernel
theorem dX9_count_93 : decode cX9_count 93 = .ok (.iaload, 1) := by decide +kernel
theorem dX9_count_94 : decode cX9_count 94 = .ok (.if_icmp .ge 22, 3) := by decide +kernel
theorem dX9_count_97 : decode cX9_count 97 = .ok (.iload_n 2, 1) := by decide +kernel
theorem dX9_count_98 : decode cX9_count 98 = .ok (.aload_n 0, 1) := by decide +kernel
theorem dX9_count_99 : decode cX9_count 99 = .ok (.iload_n 3, 1) := by decide +kernel
theorem dX9_count_100 : decode cX9_count 100 = .ok (.bipush 7, 2) := by decide +kernel
theorem dX9_count_102 : decode cX9_count 102 = .ok (.invokevirtual 258, 3) := by decide +kernel
theorem dX9_count_105 : decode cX9_count 105 = .ok (.invokestatic 433, 3) := by decide +kernel
theorem dX9_count_108 : decode cX9_count 108 = .ok (.iadd, 1) := by decide +kernel
theorem dX9_count_109 : decode cX9_count 109 = .ok (.istore_n 2, 1) := by decide +kernel
theorem dX9_count_110 : decode cX9_count 110 = .ok (.iinc 3 1, 3) := by decide +kernel
theorem dX9_count_113 : decode cX9_count 113 = .ok (.goto (-26), 3) := by decide +kernel
theorem dX9_count_116 : decode cX9_count 116 = .ok (.iload_n 2, 1) := by decide +kernel
theorem dX9_count_117 : decode cX9_count 117 = .ok (.ireturn, 1) := by decide +kernel
theorem dX9_count_118 : decode cX9_count 118 = .ok (.iconst 0, 1) := by decide +kernel
theorem dX9_count_119 : decode cX9_count 119 = .ok (.istore_n 3, 1) := by decide +kernel
theorem dX9_count_120 : decode cX9_count 120 = .ok (.iload_n 3, 1) := by decide +kernel
theorem dX9_count_121 : decode cX9_count 121 = .ok (.aload_n 0, 1) := by decide +kernel
theorem dX9_count_122 : decode cX9_count 122 = .ok (.getfield 34, 3) := by decide +kernel
theorem dX9_count_125 : decode cX9_count 125 = .ok (.iconst 2, 1) := by decide +kernel
theorem dX9_count_126 : decode cX9_count 126 = .ok (.iaload, 1) := by decide +kernel
theorem dX9_count_127 : decode cX9_count 127 = .ok (.if_icmp .ge 22, 3) := by decide +kernel
theorem dX9_count_130 : decode cX9_count 130 = .ok (.iload_n 2, 1) := by decide +kernel
theorem dX9_count_131 : decode cX9_count 131 = .ok (.aload_n 0, 1) := by decide +kernel
theorem dX9_count_132 : decode cX9_count 132 = .ok (.iload_n 3, 1) := by decide +kernel
theorem dX9_count_133 : decode cX9_count 133 = .ok (.bipush 8, 2) := by decide +kernel
theorem dX9_count_135 : decode cX9_count 135 = .ok (.invokevirtual 258, 3) := by decide +kernel
theorem dX9_count_138 : decode cX9_count 138 = .ok (.invokestatic 433, 3) := by decide +kernel
theorem dX9_count_141 : decode cX9_count 141 = .ok (.iadd, 1) := by decide +kernel
theorem dX9_count_142 : decode cX9_count 142 = .ok (.istore_n 2, 1) := by decide +kernel
theorem dX9_count_143 : decode cX9_count 143 = .ok (.iinc 3 1, 3) := by decide +kernel
theorem dX9_count_146 : decode cX9_count 146 = .ok (.goto (-26), 3) := by decide +kernel
theorem dX9_count_149 : decode cX9_count 149 = .ok (.iload_n 2, 1) := by decide +kernel
theorem dX9_count_150 : decode cX9_count 150 = .ok (.iconst 2, 1) := by decide +kernel
theorem dX9_count_151 : decode cX9_count 151 = .ok (.idiv, 1) := by decide +kernel
theorem dX9_count_152 : decode cX9_count 152 = .ok (.ireturn, 1) := by decide +kernel
theorem dX9_count_153 : decode cX9_count 153 = .ok (.aload_n 0, 1) := by decide +kernel
theorem dX9_count_154 : decode cX9_count 154 = .ok (.getfield 34, 3) := by decide +kernel
theorem dX9_count_157 : decode cX9_count 157 = .ok (.iconst 3, 1) := by decide +kernel
theorem dX9_count_158 : decode cX9_count 158 = .ok (.iaload, 1) := by decide +kernel
theorem dX9_count_159 : decode cX9_count 159 = .ok (.ireturn, 1) := by decide +kernel
theorem dX9_count_160 : decode cX9_count 160 = .ok (.aload_n 0, 1) := by decide +kernel
theorem dX9_count_161 : decode cX9_count 161 = .ok (.getfield 31, 3) := by decide +kernel
theorem dX9_count_164 : decode cX9_count 164 = .ok (.iconst 0, 1) := by decide +kernel
theorem dX9_count_165 : decode cX9_count 165 = .ok (.iaload, 1) := by decide +kernel
theorem dX9_count_166 : decode cX9_count 166 = .ok (.ireturn, 1) := by decide +kernel
theorem dX9_count_167 : decode cX9_count 167 = .ok (.aload_n 0, 1) := by decide +kernel
theorem dX9_count_168 : decode cX9_count 168 = .ok (.getfield 98, 3) := by decide +kernel
theorem dX9_count_171 : decode cX9_count 171 = .ok (.ireturn, 1) := by decide +kernel
theorem dX9_count_172 : decode cX9_count 172 = .ok (.aload_n 0, 1) := by decide +kernel
theorem dX9_count_173 : decode cX9_count 173 = .ok (.getfield 34, 3) := by decide +kernel
theorem dX9_count_176 : decode cX9_count 176 = .ok (.iconst 5, 1) := by decide +kernel
theorem dX9_count_177 : decode cX9_count 177 = .ok (.iaload, 1) := by decide +kernel
theorem dX9_count_178 : decode cX9_count 178 = .ok (.ireturn, 1) := by decide +kernel
theorem dX9_count_179 : decode cX9_count 179 = .ok (.iconst 0, 1) := by decide +kernel
theorem dX9_count_180 : decode cX9_count 180 = .ok (.istore_n 3, 1) := by decide +kernel
theorem dX9_count_181 : decode cX9_count 181 = .ok (.iload_n 3, 1) := by decide +kernel
theorem dX9_count_182 : decode cX9_count 182 = .ok (.iconst 4, 1) := by decide +kernel
theorem dX9_count_183 : decode cX9_count 183 = .ok (.if_icmp .ge 27, 3) := by decide +kernel
theorem dX9_count_186 : decode cX9_count 186 = .ok (.iload_n 2, 1) := by decide +kernel
theorem dX9_count_187 : decode cX9_count 187 = .ok (.aload_n 0, 1) := by decide +kernel
theorem dX9_count_188 : decode cX9_count 188 = .ok (.getfield 7, 3) := by decide +kernel
theorem dX9_count_191 : decode cX9_count 191 = .ok (.iload_n 3, 1) := by decide +kernel
theorem dX9_count_192 : decode cX9_count 192 = .ok (.iaload, 1) := by decide +kernel
theorem dX9_count_193 : decode cX9_count 193 = .ok (.iconst (-1), 1) := by decide +kernel
theorem dX9_count_194 : decode cX9_count 194 = .ok (.if_icmp .ne 7, 3) := by decide +kernel
theorem dX9_count_197 : decode cX9_count 197 = .ok (.iconst 0, 1) := by decide +kernel
theorem dX9_count_198 : decode cX9_count 198 = .ok (.goto 4, 3) := by decide +kernel
theorem dX9_count_201 : decode cX9_count 201 = .ok (.iconst 1, 1) := by decide +kernel
theorem dX9_count_202 : decode cX9_count 202 = .ok (.iadd, 1) := by decide +kernel
theorem dX9_count_203 : decode cX9_count 203 = .ok (.istore_n 2, 1) := by decide +kernel
theorem dX9_count_204 : decode cX9_count 204 = .ok (.iinc 3 1, 3) := by decide +kernel
theorem dX9_count_207 : decode cX9_count 207 = .ok (.goto (-26), 3) := by decide +kernel
theorem dX9_count_210 : decode cX9_count 210 = .ok (.iload_n 2, 1) := by decide +kernel
theorem dX9_count_211 : decode cX9_count 211 = .ok (.ireturn, 1) := by decide +kernel
theorem dX9_count_212 : decode cX9_count 212 = .ok (.iconst (-1), 1) := by decide +kernel
theorem dX9_count_213 : decode cX9_count 213 = .ok (.ireturn, 1) := by decide +kernel
set_option maxHeartbeats 4000000 in
set_option maxRecDepth 100000 in
theorem s_X9_count (l : Launch) (D : va_G) (K : Nat → ClassId) (ad : Nat → Nat) (v ar : sI) (al : sL) (hI : YI v ar) (z_1 : Int) (hz_1 : -2147483648 ≤ z_1 ∧ z_1 ≤ 2147483647) : Met l yX9_count (wM yX9_count cX9_count 4 (some .int)) (rmD 1) (va_Pc [.ref (ad 0), .int (iI (z_1))] (wPre D K ad (yG ad K) 21 v ar al)) (va_Qi (fun (r : Int32) (u : sT) => (∃ z : Int, (-2147483648 ≤ z ∧ z ≤ 2147483647) ∧ r = iI z) ∧ YI u.1 u.2.1 ∧ (∀ i j : Nat, (i, j) ∉ ([(0, 0)] : List (Nat × Nat)) → u.1 i j = v i j) ∧ (∀ i : Nat, i ∉ ([] : List Nat) → u.2.1 i = ar i) ∧ (∀ i : Nat, i ∉ ([] : List Nat) → u.2.2 i = al i)) (wB D ad (yG ad K) 21) (inW ad 21)) 0 0 (inW ad 21) := by
  refine s_metI (by decide) (Nat.le_of_ble_eq_true rfl) ?_
  intro p e s m below meth c ls args Q hE hB hl kr
  have hE : CallFix p m c cX9_count 4 s args tbG "TaleCourtModel" := hE
  obtain ⟨hP, hK, hN⟩ := hB
  have hS : va_S (inW ad 21) s.heap s.heap [] := va_S.rf
  have hl : lv_has ls 4 [(0, .ref (ad 0)), (1, .int (iI (z_1)))] := hl
  obtain ⟨z1, hz1, ez1⟩ := iI_of (ar 6 0)
  obtain ⟨z2, hz2, ez2⟩ := YI_h2 hI 2 (by decide)
  obtain ⟨z3, hz3, ez3⟩ := YI_h5 hI 5 (by decide)
  obtain ⟨z4, hz4, ez4⟩ := YI_h0 hI 0 (by decide)
  have ht0 := YI_t0 hI ez1 (by omega) ez2 (by omega) ez3 (by omega) ez4 (by omega)
  refine lv_aload_n hE.1 hE.2.1 dX9_count_0 rfl (lv_at hl 0 rfl) ?_
  refine lv_iconst (v := iI (0)) hE.1 hE.2.1 dX9_count_1 (by decide) ?_
  refine x_put (x := iI (0)) hE hK hN hP hS 0 (by decide) (yG_9 rfl) rfl hin9 tyX9 tyX9_ok nmX9 0 (by decide) mw_1334 rfl rfl rfl (Nat.le_of_ble_eq_true rfl) (yG_9 rfl) dX9_count_2 (fun v5 H locs hv5 hP hS => ?_)
  have hI := YI_putN hI hv5 (by decide)
  refine lv_iconst (v := iI (0)) hE.1 hE.2.1 dX9_count_5 (by decide) ?_
  refine lv_istore_n (lv' := [(2, .int (iI (0))), (0, .ref (ad 0)), (1, .int (iI (z_1)))]) hE.1 hE.2.1 dX9_count_6 rfl hl (by decide) rfl (fun ls hl => ?_)
  refine lv_iload_n hE.1 hE.2.1 dX9_count_7 rfl (lv_at hl 2 rfl) ?_
  by_cases ho6 : z_1 < 0 ∨ 9 < z_1
  · skip
    refine s_tabOut (a := z_1) (tgt := 212) hE.1 hE.2.1 (by omega) dX9_count_8 ho6 (by decide) ?_
    refine lv_iconst (v := iI (-1)) hE.1 hE.2.1 dX9_count_212 (by decide) ?_
    exact kr _ v5 ar al _ _ _ _ rfl ⟨⟨-1, by omega, rfl⟩, hI, fun i j h => (up_oth hv5 (fun q => h (by rcases q with ⟨rfl, rfl⟩; decide))), fun i h => rfl, fun i h => rfl⟩ hP hS dX9_count_213
  · skip
    rcases (show z_1 = 0 ∨ z_1 = 1 ∨ z_1 = 2 ∨ z_1 = 3 ∨ z_1 = 4 ∨ z_1 = 5 ∨ z_1 = 6 ∨ z_1 = 7 ∨ z_1 = 8 ∨ z_1 = 9 by omega) with rfl | rfl | rfl | rfl | rfl | rfl | rfl | rfl | rfl | rfl
    · skip
      refine lv_tableIn (off := 56) (tgt := 64) hE.1 hE.2.1 dX9_count_8 (by decide) (by decide) (by decide) (by decide) ?_
      refine lv_aload_n hE.1 hE.2.1 dX9_count_64 rfl (lv_at hl 1 rfl) ?_
      refine x_get (x := .ref (ad 7)) hE hK hP 0 (by decide) (yG_9 rfl) rfl hin9 17 (by decide) mw_1351 rfl dX9_count_65 ?_
      refine lv_iconst (v := iI (2)) hE.1 hE.2.1 dX9_count_68 (by decide) ?_
      refine x_iald (j := iI (2)) hE hK hP 7 (by decide) (yG_10 rfl) (iI_in (n := 30) (by omega)) dX9_count_69 ?_
      refine x_top (y := iI (z2)) (by rw [show (iI (2)).toNatClampNeg = 2 from by decide]; exact ez2) ?_
      exact kr _ v5 ar al _ _ _ _ rfl ⟨⟨z2, by omega, rfl⟩, hI, fun i j h => (up_oth hv5 (fun q => h (by rcases q with ⟨rfl, rfl⟩; decide))), fun i h => rfl, fun i h => rfl⟩ hP hS dX9_count_70
    · skip
      refine lv_tableIn (off := 63) (tgt := 71) hE.1 hE.2.1 dX9_count_8 (by decide) (by decide) (by decide) (by decide) ?_
      refine lv_aload_n hE.1 hE.2.1 dX9_count_71 rfl (lv_at hl 1 rfl) ?_
      refine x_get (x := .ref (ad 7)) hE hK hP 0 (by decide) (yG_9 rfl) rfl hin9 17 (by decide) mw_1351 rfl dX9_count_72 ?_
      refine lv_iconst (v := iI (0)) hE.1 hE.2.1 dX9_count_75 (by decide) ?_
      refine x_iald (j := iI (0)) hE hK hP 7 (by decide) (yG_10 rfl) (iI_in (n := 30) (by omega)) dX9_count_76 ?_
      refine x_top (y := iI (z4)) (by rw [show (iI (0)).toNatClampNeg = 0 from by decide]; exact ez4) ?_
      exact kr _ v5 ar al _ _ _ _ rfl ⟨⟨z4, by omega, rfl⟩, hI, fun i j h => (up_oth hv5 (fun q => h (by rcases q with ⟨rfl, rfl⟩; decide))), fun i h => rfl, fun i h => rfl⟩ hP hS dX9_count_77
    · skip
      refine lv_tableIn (off := 70) (tgt := 78) hE.1 hE.2.1 dX9_count_8 (by decide) (by decide) (by decide) (by decide) ?_
      refine lv_aload_n hE.1 hE.2.1 dX9_count_78 rfl (lv_at hl 1 rfl) ?_
      refine x_get (x := .ref (ad 7)) hE hK hP 0 (by decide) (yG_9 rfl) rfl hin9 17 (by decide) mw_1351 rfl dX9_count_79 ?_
      refine lv_iconst (v := iI (1)) hE.1 hE.2.1 dX9_count_82 (by decide) ?_
      refine x_iald (j := iI (1)) hE hK hP 7 (by decide) (yG_10 rfl) (iI_in (n := 30) (by omega)) dX9_count_83 ?_
      obtain ⟨z10, hz10, ez10⟩ := YI_h1 hI 1 (by decide)
      refine x_top (y := iI (z10)) (by rw [show (iI (1)).toNatClampNeg = 1 from by decide]; exact ez10) ?_
      exact kr _ v5 ar al _ _ _ _ rfl ⟨⟨z10, by omega, rfl⟩, hI, fun i j h => (up_oth hv5 (fun q => h (by rcases q with ⟨rfl, rfl⟩; decide))), fun i h => rfl, fun i h => rfl⟩ hP hS dX9_count_84
    · skip
      refine lv_tableIn (off := 77) (tgt := 85) hE.1 hE.2.1 dX9_count_8 (by decide) (by decide) (by decide) (by decide) ?_
      refine lv_iconst (v := iI (0)) hE.1 hE.2.1 dX9_count_85 (by decide) ?_
      refine lv_istore_n (lv' := [(3, .int (iI (0))), (2, .int (iI (0))), (0, .ref (ad 0)), (1, .int (iI (3)))]) hE.1 hE.2.1 dX9_count_86 rfl hl (by decide) rfl (fun ls hl => ?_)
      have loop11 : ∀ (k11 : Nat) (y11_3 : Int) (y11_2 : Int) (vl11 : sI) (all11 : sL) (H : Heap) (locs : List Loc) (ls : Array Slot), (9 - y11_3).toNat = k11 → (0 ≤ y11_3 ∧ y11_3 ≤ 9) → (-2147483648 ≤ y11_2 ∧ y11_2 ≤ 2147483647) → YI vl11 ar → (∀ i j : Nat, (i, j) ∉ ([] : List (Nat × Nat)) → vl11 i j = v5 i j) → (∀ i : Nat, i ∉ ([] : List Nat) → all11 i = al i) → va_P D xcl (wW ad (yG ad K) 21 vl11 ar all11) H → va_S (inW ad 21) s.heap H locs → lv_has ls 4 [(3, .int (iI (y11_3))), (2, .int (iI (y11_2))), (0, .ref (ad 0)), (1, .int (iI (3)))] → W p l e (rmD 1) s m args below meth c H locs 0 0 Q (F0 m 87 ls []) := by
        intro k11
        induction k11 using Nat.strongRecOn with
        | _ k11 ih11 =>
          intro y11_3 y11_2  vl11 all11 H locs ls hk11 hb_y11_3 hb_y11_2 hI hfr11 hfl11 hP hS hl
          refine lv_iload_n hE.1 hE.2.1 dX9_count_87 rfl (lv_at hl 0 rfl) ?_
          refine lv_aload_n hE.1 hE.2.1 dX9_count_88 rfl (lv_at hl 2 rfl) ?_
          refine x_get (x := .ref (ad 7)) hE hK hP 0 (by decide) (yG_9 rfl) rfl hin9 17 (by decide) mw_1351 rfl dX9_count_89 ?_
          refine lv_iconst (v := iI (2)) hE.1 hE.2.1 dX9_count_92 (by decide) ?_
          refine x_iald (j := iI (2)) hE hK hP 7 (by decide) (yG_10 rfl) (iI_in (n := 30) (by omega)) dX9_count_93 ?_
          refine x_top (y := iI (z2)) (by rw [show (iI (2)).toNatClampNeg = 2 from by decide]; exact ez2) ?_
          refine s_icmp_ge (a := y11_3) (b := z2) (tgt := 116) hE.1 hE.2.1 (by omega) (by omega) dX9_count_94 (by decide) (fun c13 => ?_) (fun c13 => ?_)
          · skip
            refine lv_iload_n hE.1 hE.2.1 dX9_count_116 rfl (lv_at hl 1 rfl) ?_
            exact kr _ vl11 ar all11 _ _ _ _ rfl ⟨⟨y11_2, by omega, rfl⟩, hI, fun i j h => ((hfr11 i j (fun q => h (mem_sub (by decide) q))).trans (up_oth hv5 (fun q => h (by rcases q with ⟨rfl, rfl⟩; decide)))), fun i h => rfl, fun i h => (hfl11 i (fun q => h (mem_subn (by decide) q)))⟩ hP hS dX9_count_117
          · skip
            refine lv_iload_n hE.1 hE.2.1 dX9_count_97 rfl (lv_at hl 1 rfl) ?_
            refine lv_aload_n hE.1 hE.2.1 dX9_count_98 rfl (lv_at hl 2 rfl) ?_
            refine lv_iload_n hE.1 hE.2.1 dX9_count_99 rfl (lv_at hl 0 rfl) ?_
            refine lv_bipush (v := iI (7)) hE.1 hE.2.1 dX9_count_100 (by decide) ?_
            refine x_vp (nn := 2) (As := [.int (iI (y11_3)), .int (iI (7))]) (rest := [.int (iI (y11_2))]) hE (s_X9_of l D K ad vl11 ar all11 hI  (y11_3) (by omega) (7) (by omega)) wPre_blind (wPre_now hK hN hP) (x_recv hK hP 0 (by decide) (yG_9 rfl) rfl) rfl mw_1654 mw_1656 mw_73 mw_123 mw_1657 (by decide +kernel) ⟨by decide, by decide⟩ hl.1 rfl (Nat.le_of_ble_eq_true rfl) ⟨Nat.zero_le _, Nat.zero_le _⟩ dX9_count_102 (fun r14 hr14 => ?_)
            obtain ⟨z14, hz14, rfl⟩ := hr14
            refine x_sp (nn := 1) (As := [.int (iI (z14))]) (rest := [.int (iI (y11_2))]) hE (s_X9_sizeOf l (z14) (by omega)) tt_blind (fun _ _ _ => trivial) rfl mw_2014 mw_2015 mw_123 mw_2016 (by decide +kernel) ⟨by decide, by decide⟩ hl.1 rfl (Nat.le_of_ble_eq_true rfl) ⟨Nat.zero_le _, Nat.zero_le _⟩ dX9_count_105 (fun r15 hr15 => ?_)
            obtain ⟨z15, hz15, rfl⟩ := hr15
            refine lv_iadd hE.1 hE.2.1 dX9_count_108 ?_
            obtain ⟨z16, hz16, ez16⟩ := iI_of (iI (y11_2) + iI (z15))
            refine x_top ez16 ?_
            refine lv_istore_n (lv' := [(2, .int (iI (z16))), (3, .int (iI (y11_3))), (0, .ref (ad 0)), (1, .int (iI (3)))]) hE.1 hE.2.1 dX9_count_109 rfl hl (by decide) rfl (fun ls hl => ?_)
            refine lv_iinc (v := iI (y11_3 + 1)) (lv' := [(3, .int (iI (y11_3 + 1))), (2, .int (iI (z16))), (0, .ref (ad 0)), (1, .int (iI (3)))]) hE.1 hE.2.1 dX9_count_110 hl (k := 1) rfl ((iI_add (y11_3) (1)).trans (congrArg iI (by omega))) (by decide) rfl (fun ls hl => ?_)
            refine lv_goto (tgt := 87) hE.1 hE.2.1 dX9_count_113 (by decide) ?_
            exact ih11 _ (by omega) (y11_3 + 1) (z16)  vl11  all11 _ _ _ rfl (by omega) (by omega)  hI (fun i j h => (hfr11 i j h)) (fun i h => (hfl11 i h)) hP hS (lv_sub hl [0, 1, 2, 3] rfl)
      exact loop11 _ (0) (0)  v5  al _ _ _ rfl (by omega) (by omega)  hI (fun _ _ _ => rfl) (fun _ _ => rfl) hP hS hl
    · skip
      refine lv_tableIn (off := 110) (tgt := 118) hE.1 hE.2.1 dX9_count_8 (by decide) (by decide) (by decide) (by decide) ?_
      refine lv_iconst (v := iI (0)) hE.1 hE.2.1 dX9_count_118 (by decide) ?_
      refine lv_istore_n (lv' := [(3, .int (iI (0))), (2, .int (iI (0))), (0, .ref (ad 0)), (1, .int (iI (4)))]) hE.1 hE.2.1 dX9_count_119 rfl hl (by decide) rfl (fun ls hl => ?_)
      have loop17 : ∀ (k17 : Nat) (y17_3 : Int) (y17_2 : Int) (vl17 : sI) (all17 : sL) (H : Heap) (locs : List Loc) (ls : Array Slot), (9 - y17_3).toNat = k17 → (0 ≤ y17_3 ∧ y17_3 ≤ 9) → (-2147483648 ≤ y17_2 ∧ y17_2 ≤ 2147483647) → YI vl17 ar → (∀ i j : Nat, (i, j) ∉ ([] : List (Nat × Nat)) → vl17 i j = v5 i j) → (∀ i : Nat, i ∉ ([] : List Nat) → all17 i = al i) → va_P D xcl (wW ad (yG ad K) 21 vl17 ar all17) H → va_S (inW ad 21) s.heap H locs → lv_has ls 4 [(3, .int (iI (y17_3))), (2, .int (iI (y17_2))), (0, .ref (ad 0)), (1, .int (iI (4)))] → W p l e (rmD 1) s m args below meth c H locs 0 0 Q (F0 m 120 ls []) := by
        intro k17
        induction k17 using Nat.strongRecOn with
        | _ k17 ih17 =>
          intro y17_3 y17_2  vl17 all17 H locs ls hk17 hb_y17_3 hb_y17_2 hI hfr17 hfl17 hP hS hl
          refine lv_iload_n hE.1 hE.2.1 dX9_count_120 rfl (lv_at hl 0 rfl) ?_
          refine lv_aload_n hE.1 hE.2.1 dX9_count_121 rfl (lv_at hl 2 rfl) ?_
          refine x_get (x := .ref (ad 7)) hE hK hP 0 (by decide) (yG_9 rfl) rfl hin9 17 (by decide) mw_1351 rfl dX9_count_122 ?_
          refine lv_iconst (v := iI (2)) hE.1 hE.2.1 dX9_count_125 (by decide) ?_
          refine x_iald (j := iI (2)) hE hK hP 7 (by decide) (yG_10 rfl) (iI_in (n := 30) (by omega)) dX9_count_126 ?_
          refine x_top (y := iI (z2)) (by rw [show (iI (2)).toNatClampNeg = 2 from by decide]; exact ez2) ?_
          refine s_icmp_ge (a := y17_3) (b := z2) (tgt := 149) hE.1 hE.2.1 (by omega) (by omega) dX9_count_127 (by decide) (fun c19 => ?_) (fun c19 => ?_)
          · skip
            refine lv_iload_n hE.1 hE.2.1 dX9_count_149 rfl (lv_at hl 1 rfl) ?_
            refine lv_iconst (v := iI (2)) hE.1 hE.2.1 dX9_count_150 (by decide) ?_
            refine lv_idiv hE.1 hE.2.1 dX9_count_151 (iI_ne0 (by omega) (by omega)) ?_
            obtain ⟨z20, hz20, ez20⟩ := iI_of (iI (y17_2) / iI (2))
            refine x_top ez20 ?_
            exact kr _ vl17 ar all17 _ _ _ _ rfl ⟨⟨z20, by omega, rfl⟩, hI, fun i j h => ((hfr17 i j (fun q => h (mem_sub (by decide) q))).trans (up_oth hv5 (fun q => h (by rcases q with ⟨rfl, rfl⟩; decide)))), fun i h => rfl, fun i h => (hfl17 i (fun q => h (mem_subn (by decide) q)))⟩ hP hS dX9_count_152
          · skip
            refine lv_iload_n hE.1 hE.2.1 dX9_count_130 rfl (lv_at hl 1 rfl) ?_
            refine lv_aload_n hE.1 hE.2.1 dX9_count_131 rfl (lv_at hl 2 rfl) ?_
            refine lv_iload_n hE.1 hE.2.1 dX9_count_132 rfl (lv_at hl 0 rfl) ?_
            refine lv_bipush (v := iI (8)) hE.1 hE.2.1 dX9_count_133 (by decide) ?_
            refine x_vp (nn := 2) (As := [.int (iI (y17_3)), .int (iI (8))]) (rest := [.int (iI (y17_2))]) hE (s_X9_of l D K ad vl17 ar all17 hI  (y17_3) (by omega) (8) (by omega)) wPre_blind (wPre_now hK hN hP) (x_recv hK hP 0 (by decide) (yG_9 rfl) rfl) rfl mw_1654 mw_1656 mw_73 mw_123 mw_1657 (by decide +kernel) ⟨by decide, by decide⟩ hl.1 rfl (Nat.le_of_ble_eq_true rfl) ⟨Nat.zero_le _, Nat.zero_le _⟩ dX9_count_135 (fun r21 hr21 => ?_)
            obtain ⟨z21, hz21, rfl⟩ := hr21
            refine x_sp (nn := 1) (As := [.int (iI (z21))]) (rest := [.int (iI (y17_2))]) hE (s_X9_sizeOf l (z21) (by omega)) tt_blind (fun _ _ _ => trivial) rfl mw_2014 mw_2015 mw_123 mw_2016 (by decide +kernel) ⟨by decide, by decide⟩ hl.1 rfl (Nat.le_of_ble_eq_true rfl) ⟨Nat.zero_le _, Nat.zero_le _⟩ dX9_count_138 (fun r22 hr22 => ?_)
            obtain ⟨z22, hz22, rfl⟩ := hr22
            refine lv_iadd hE.1 hE.2.1 dX9_count_141 ?_
            obtain ⟨z23, hz23, ez23⟩ := iI_of (iI (y17_2) + iI (z22))
            refine x_top ez23 ?_
            refine lv_istore_n (lv' := [(2, .int (iI (z23))), (3, .int (iI (y17_3))), (0, .ref (ad 0)), (1, .int (iI (4)))]) hE.1 hE.2.1 dX9_count_142 rfl hl (by decide) rfl (fun ls hl => ?_)
            refine lv_iinc (v := iI (y17_3 + 1)) (lv' := [(3, .int (iI (y17_3 + 1))), (2, .int (iI (z23))), (0, .ref (ad 0)), (1, .int (iI (4)))]) hE.1 hE.2.1 dX9_count_143 hl (k := 1) rfl ((iI_add (y17_3) (1)).trans (congrArg iI (by omega))) (by decide) rfl (fun ls hl => ?_)
            refine lv_goto (tgt := 120) hE.1 hE.2.1 dX9_count_146 (by decide) ?_
            exact ih17 _ (by omega) (y17_3 + 1) (z23)  vl17  all17 _ _ _ rfl (by omega) (by omega)  hI (fun i j h => (hfr17 i j h)) (fun i h => (hfl17 i h)) hP hS (lv_sub hl [0, 1, 2, 3] rfl)
      exact loop17 _ (0) (0)  v5  al _ _ _ rfl (by omega) (by omega)  hI (fun _ _ _ => rfl) (fun _ _ => rfl) hP hS hl
    · skip
      refine lv_tableIn (off := 145) (tgt := 153) hE.1 hE.2.1 dX9_count_8 (by decide) (by decide) (by decide) (by decide) ?_
      refine lv_aload_n hE.1 hE.2.1 dX9_count_153 rfl (lv_at hl 1 rfl) ?_
      refine x_get (x := .ref (ad 7)) hE hK hP 0 (by decide) (yG_9 rfl) rfl hin9 17 (by decide) mw_1351 rfl dX9_count_154 ?_
      refine lv_iconst (v := iI (3)) hE.1 hE.2.1 dX9_count_157 (by decide) ?_
      refine x_iald (j := iI (3)) hE hK hP 7 (by decide) (yG_10 rfl) (iI_in (n := 30) (by omega)) dX9_count_158 ?_
      obtain ⟨z25, hz25, ez25⟩ := YI_h3 hI 3 (by decide)
      refine x_top (y := iI (z25)) (by rw [show (iI (3)).toNatClampNeg = 3 from by decide]; exact ez25) ?_
      exact kr _ v5 ar al _ _ _ _ rfl ⟨⟨z25, by omega, rfl⟩, hI, fun i j h => (up_oth hv5 (fun q => h (by rcases q with ⟨rfl, rfl⟩; decide))), fun i h => rfl, fun i h => rfl⟩ hP hS dX9_count_159
    · skip
      refine lv_tableIn (off := 152) (tgt := 160) hE.1 hE.2.1 dX9_count_8 (by decide) (by decide) (by decide) (by decide) ?_
      refine lv_aload_n hE.1 hE.2.1 dX9_count_160 rfl (lv_at hl 1 rfl) ?_
      refine x_get (x := .ref (ad 6)) hE hK hP 0 (by decide) (yG_9 rfl) rfl hin9 16 (by decide) mw_1350 rfl dX9_count_161 ?_
      refine lv_iconst (v := iI (0)) hE.1 hE.2.1 dX9_count_164 (by decide) ?_
      refine x_iald (j := iI (0)) hE hK hP 6 (by decide) (yG_10 rfl) (iI_in (n := 5) (by omega)) dX9_count_165 ?_
      refine x_top (y := iI (z1)) (by rw [show (iI (0)).toNatClampNeg = 0 from by decide]; exact ez1) ?_
      exact kr _ v5 ar al _ _ _ _ rfl ⟨⟨z1, by omega, rfl⟩, hI, fun i j h => (up_oth hv5 (fun q => h (by rcases q with ⟨rfl, rfl⟩; decide))), fun i h => rfl, fun i h => rfl⟩ hP hS dX9_count_166
    · skip
      refine lv_tableIn (off := 159) (tgt := 167) hE.1 hE.2.1 dX9_count_8 (by decide) (by decide) (by decide) (by decide) ?_
      refine lv_aload_n hE.1 hE.2.1 dX9_count_167 rfl (lv_at hl 1 rfl) ?_
      obtain ⟨z27, hz27, ez27⟩ := YI_get hI 0 6 0 1600 (by decide)
      refine x_get (x := .int (v5 0 6)) hE hK hP 0 (by decide) (yG_9 rfl) rfl hin9 6 (by decide) mw_1340 rfl dX9_count_168 ?_
      refine x_top (y := iI (z27)) ez27 ?_
      exact kr _ v5 ar al _ _ _ _ rfl ⟨⟨z27, by omega, rfl⟩, hI, fun i j h => (up_oth hv5 (fun q => h (by rcases q with ⟨rfl, rfl⟩; decide))), fun i h => rfl, fun i h => rfl⟩ hP hS dX9_count_171
    · skip
      refine lv_tableIn (off := 164) (tgt := 172) hE.1 hE.2.1 dX9_count_8 (by decide) (by decide) (by decide) (by decide) ?_
      refine lv_aload_n hE.1 hE.2.1 dX9_count_172 rfl (lv_at hl 1 rfl) ?_
      refine x_get (x := .ref (ad 7)) hE hK hP 0 (by decide) (yG_9 rfl) rfl hin9 17 (by decide) mw_1351 rfl dX9_count_173 ?_
      refine lv_iconst (v := iI (5)) hE.1 hE.2.1 dX9_count_176 (by decide) ?_
      refine x_iald (j := iI (5)) hE hK hP 7 (by decide) (yG_10 rfl) (iI_in (n := 30) (by omega)) dX9_count_177 ?_
      refine x_top (y := iI (z3)) (by rw [show (iI (5)).toNatClampNeg = 5 from by decide]; exact ez3) ?_
      exact kr _ v5 ar al _ _ _ _ rfl ⟨⟨z3, by omega, rfl⟩, hI, fun i j h => (up_oth hv5 (fun q => h (by rcases q with ⟨rfl, rfl⟩; decide))), fun i h => rfl, fun i h => rfl⟩ hP hS dX9_count_178
    · skip
      refine lv_tableIn (off := 171) (tgt := 179) hE.1 hE.2.1 dX9_count_8 (by decide) (by decide) (by decide) (by decide) ?_
      refine lv_iconst (v := iI (0)) hE.1 hE.2.1 dX9_count_179 (by decide) ?_
      refine lv_istore_n (lv' := [(3, .int (iI (0))), (2, .int (iI (0))), (0, .ref (ad 0)), (1, .int (iI (9)))]) hE.1 hE.2.1 dX9_count_180 rfl hl (by decide) rfl (fun ls hl => ?_)
      have loop29 : ∀ (k29 : Nat) (y29_3 : Int) (y29_2 : Int) (vl29 : sI) (all29 : sL) (H : Heap) (locs : List Loc) (ls : Array Slot), (4 - y29_3).toNat = k29 → (0 ≤ y29_3 ∧ y29_3 ≤ 4) → (-2147483648 ≤ y29_2 ∧ y29_2 ≤ 2147483647) → YI vl29 ar → (∀ i j : Nat, (i, j) ∉ ([] : List (Nat × Nat)) → vl29 i j = v5 i j) → (∀ i : Nat, i ∉ ([] : List Nat) → all29 i = al i) → va_P D xcl (wW ad (yG ad K) 21 vl29 ar all29) H → va_S (inW ad 21) s.heap H locs → lv_has ls 4 [(3, .int (iI (y29_3))), (2, .int (iI (y29_2))), (0, .ref (ad 0)), (1, .int (iI (9)))] → W p l e (rmD 1) s m args below meth c H locs 0 0 Q (F0 m 181 ls []) := by
        intro k29
        induction k29 using Nat.strongRecOn with
        | _ k29 ih29 =>
          intro y29_3 y29_2  vl29 all29 H locs ls hk29 hb_y29_3 hb_y29_2 hI hfr29 hfl29 hP hS hl
          refine lv_iload_n hE.1 hE.2.1 dX9_count_181 rfl (lv_at hl 0 rfl) ?_
          refine lv_iconst (v := iI (4)) hE.1 hE.2.1 dX9_count_182 (by decide) ?_
          refine s_icmp_ge (a := y29_3) (b := 4) (tgt := 210) hE.1 hE.2.1 (by omega) (by omega) dX9_count_183 (by decide) (fun c30 => ?_) (fun c30 => ?_)
          · skip
            refine lv_iload_n hE.1 hE.2.1 dX9_count_210 rfl (lv_at hl 1 rfl) ?_
            exact kr _ vl29 ar all29 _ _ _ _ rfl ⟨⟨y29_2, by omega, rfl⟩, hI, fun i j h => ((hfr29 i j (fun q => h (mem_sub (by decide) q))).trans (up_oth hv5 (fun q => h (by rcases q with ⟨rfl, rfl⟩; decide)))), fun i h => rfl, fun i h => (hfl29 i (fun q => h (mem_subn (by decide) q)))⟩ hP hS dX9_count_211
          · skip
            refine lv_iload_n hE.1 hE.2.1 dX9_count_186 rfl (lv_at hl 1 rfl) ?_
            refine lv_aload_n hE.1 hE.2.1 dX9_count_187 rfl (lv_at hl 2 rfl) ?_
            refine x_get (x := .ref (ad 1)) hE hK hP 0 (by decide) (yG_9 rfl) rfl hin9 1 (by decide) mw_1335 rfl dX9_count_188 ?_
            refine lv_iload_n hE.1 hE.2.1 dX9_count_191 rfl (lv_at hl 0 rfl) ?_
            refine x_iald (j := iI (y29_3)) hE hK hP 1 (by decide) (yG_10 rfl) (iI_in (n := 4) (by omega)) dX9_count_192 ?_
            obtain ⟨z32, hz32, ez32⟩ := YI_a1 hI ((iI (y29_3)).toNatClampNeg)
            refine x_top ez32 ?_
            refine lv_iconst (v := iI (-1)) hE.1 hE.2.1 dX9_count_193 (by decide) ?_
            refine s_icmp_ne (a := z32) (b := -1) (tgt := 201) hE.1 hE.2.1 (by omega) (by omega) dX9_count_194 (by decide) (fun c33 => ?_) (fun c33 => ?_)
            · skip
              refine lv_iconst (v := iI (1)) hE.1 hE.2.1 dX9_count_201 (by decide) ?_
              refine lv_iadd hE.1 hE.2.1 dX9_count_202 ?_
              obtain ⟨z34, hz34, ez34⟩ := iI_of (iI (y29_2) + iI (1))
              refine x_top ez34 ?_
              refine lv_istore_n (lv' := [(2, .int (iI (z34))), (3, .int (iI (y29_3))), (0, .ref (ad 0)), (1, .int (iI (9)))]) hE.1 hE.2.1 dX9_count_203 rfl hl (by decide) rfl (fun ls hl => ?_)
              refine lv_iinc (v := iI (y29_3 + 1)) (lv' := [(3, .int (iI (y29_3 + 1))), (2, .int (iI (z34))), (0, .ref (ad 0)), (1, .int (iI (9)))]) hE.1 hE.2.1 dX9_count_204 hl (k := 1) rfl ((iI_add (y29_3) (1)).trans (congrArg iI (by omega))) (by decide) rfl (fun ls hl => ?_)
              refine lv_goto (tgt := 181) hE.1 hE.2.1 dX9_count_207 (by decide) ?_
              exact ih29 _ (by omega) (y29_3 + 1) (z34)  vl29  all29 _ _ _ rfl (by omega) (by omega)  hI (fun i j h => (hfr29 i j h)) (fun i h => (hfl29 i h)) hP hS (lv_sub hl [0, 1, 2, 3] rfl)
            · skip
              refine lv_iconst (v := iI (0)) hE.1 hE.2.1 dX9_count_197 (by decide) ?_
              refine lv_goto (tgt := 202) hE.1 hE.2.1 dX9_count_198 (by decide) ?_
              refine lv_iadd hE.1 hE.2.1 dX9_count_202 ?_
              refine x_top (y := iI (y29_2)) ((iI_add (y29_2) (0)).trans (congrArg iI (by omega))) ?_
              refine lv_istore_n (lv' := [(2, .int (iI (y29_2))), (3, .int (iI (y29_3))), (0, .ref (ad 0)), (1, .int (iI (9)))]) hE.1 hE.2.1 dX9_count_203 rfl hl (by decide) rfl (fun ls hl => ?_)
              refine lv_iinc (v := iI (y29_3 + 1)) (lv' := [(3, .int (iI (y29_3 + 1))), (2, .int (iI (y29_2))), (0, .ref (ad 0)), (1, .int (iI (9)))]) hE.1 hE.2.1 dX9_count_204 hl (k := 1) rfl ((iI_add (y29_3) (1)).trans (congrArg iI (by omega))) (by decide) rfl (fun ls hl => ?_)
              refine lv_goto (tgt := 181) hE.1 hE.2.1 dX9_count_207 (by decide) ?_
              exact ih29 _ (by omega) (y29_3 + 1) (y29_2)  vl29  all29 _ _ _ rfl (by omega) (by omega)  hI (fun i j h => (hfr29 i j h)) (fun i h => (hfl29 i h)) hP hS (lv_sub hl [0, 1, 2, 3] rfl)
      exact loop29 _ (0) (0)  v5  al _ _ _ rfl (by omega) (by omega)  hI (fun _ _ _ => rfl) (fun _ _ => rfl) hP hS hl

theorem dX9_whyNoRow_0 : decode cX9_whyNoRow 0 = .ok (.iload_n 1, 1) := by decide +kernel
theorem dX9_whyNoRow_1 : decode cX9_whyNoRow 1 = .ok (.invokestatic 90, 3) := by decide +kernel
theorem dX9_whyNoRow_4 : decode cX9_whyNoRow 4 = .ok (.ifCond .eq 10, 3) := by decide +kernel
theorem dX9_whyNoRow_7 : decode cX9_whyNoRow 7 = .ok (.aload_n 0, 1) := by decide +kernel
theorem dX9_whyNoRow_8 : decode cX9_whyNoRow 8 = .ok (.invokevirtual 301, 3) := by decide +kernel
theorem dX9_whyNoRow_11 : decode cX9_whyNoRow 11 = .ok (.ifCond .ne 8, 3) := by decide +kernel
theorem dX9_whyNoRow_14 : decode cX9_whyNoRow 14 = .ok (.bipush (-2), 2) := by decide +kernel
theorem dX9_whyNoRow_16 : decode cX9_whyNoRow 16 = .ok (.goto 19, 3) := by decide +kernel
theorem dX9_whyNoRow_19 : decode cX9_whyNoRow 19 = .ok (.aload_n 0, 1) := by decide +kernel
theorem dX9_whyNoRow_20 : decode cX9_whyNoRow 20 = .ok (.getfield 7, 3) := by decide +kernel
theorem dX9_whyNoRow_23 : decode cX9_whyNoRow 23 = .ok (.iload_n 1, 1) := by decide +kernel
theorem dX9_whyNoRow_24 : decode cX9_whyNoRow 24 = .ok (.iaload, 1) := by decide +kernel
theorem dX9_whyNoRow_25 : decode cX9_whyNoRow 25 = .ok (.iconst (-1), 1) := by decide +kernel
theorem dX9_whyNoRow_26 : decode cX9_whyNoRow 26 = .ok (.if_icmp .ne 8, 3) := by decide +kernel
theorem dX9_whyNoRow_29 : decode cX9_whyNoRow 29 = .ok (.bipush (-6), 2) := by decide +kernel
theorem dX9_whyNoRow_31 : decode cX9_whyNoRow 31 = .ok (.goto 4, 3) := by decide +kernel
theorem dX9_whyNoRow_34 : decode cX9_whyNoRow 34 = .ok (.iconst 0, 1) := by decide +kernel
theorem dX9_whyNoRow_35 : decode cX9_whyNoRow 35 = .ok (.ireturn, 1) := by decide +kernel
set_option maxHeartbeats 4000000 in
set_option maxRecDepth 100000 in
theorem s_X9_whyNoRow (l : Launch) (D : va_G) (K : Nat → ClassId) (ad : Nat → Nat) (v ar : sI) (al : sL) (hI : YI v ar) (w_1 : Int) (hw_1 : -2147483648 ≤ w_1 ∧ w_1 ≤ 2147483647) (ew_1 : ar 6 0 = iI w_1) (z_1 : Int) (hz_1 : -2147483648 ≤ z_1 ∧ z_1 ≤ 2147483647) : Met l yX9_whyNoRow (wM yX9_whyNoRow cX9_whyNoRow 2 (some .int)) (rmD 2) (va_Pc [.ref (ad 0), .int (iI (z_1))] (wPre D K ad (yG ad K) 21 v ar al)) (vp_Si (fun r => ∃ z : Int, ((z = 0 ∧ 0 ≤ z_1 ∧ z_1 ≤ 3 ∧ 0 < w_1) ∨ z = -2 ∨ z = -6) ∧ r = iI z)) 0 0 (fun _ => False) := by
  refine s_metP (by decide) (Nat.le_of_ble_eq_true rfl) ?_
  intro p e s m below meth c ls args Q hE hB hl kr
  have hE : CallFix p m c cX9_whyNoRow 2 s args tbG "TaleCourtModel" := hE
  obtain ⟨hP, hK, hN⟩ := hB
  have hl : lv_has ls 2 [(0, .ref (ad 0)), (1, .int (iI (z_1)))] := hl
  refine lv_iload_n hE.1 hE.2.1 dX9_whyNoRow_0 rfl (lv_at hl 1 rfl) ?_
  refine x_sp (nn := 1) (As := [.int (iI (z_1))]) (rest := []) hE (s_X9_isSlot l (z_1) (by omega)) tt_blind (fun _ _ _ => trivial) rfl mw_1490 mw_1491 mw_123 mw_1492 (by decide +kernel) ⟨by decide, by decide⟩ hl.1 rfl (Nat.le_of_ble_eq_true rfl) ⟨Nat.zero_le _, Nat.zero_le _⟩ dX9_whyNoRow_1 (fun r1 hr1 => ?_)
  obtain ⟨z1, hz1, rfl⟩ := hr1
  refine s_if_eq (a := z1) (tgt := 14) hE.1 hE.2.1 (by omega) dX9_whyNoRow_4 (by decide) (fun c2 => ?_) (fun c2 => ?_)
  · skip
    refine lv_bipush (v := iI (-2)) hE.1 hE.2.1 dX9_whyNoRow_14 (by decide) ?_
    refine lv_goto (tgt := 35) hE.1 hE.2.1 dX9_whyNoRow_16 (by decide) ?_
    exact kr _ _ _ rfl ⟨-2, by omega, rfl⟩ dX9_whyNoRow_35
  · skip
    refine lv_aload_n hE.1 hE.2.1 dX9_whyNoRow_7 rfl (lv_at hl 0 rfl) ?_
    refine x_vp (nn := 0) (As := []) (rest := []) hE (s_X9_isCourt l D K ad v ar al hI (w_1) (by omega) ew_1 ) wPre_blind (wPre_now hK hN hP) (x_recv hK hP 0 (by decide) (yG_9 rfl) rfl) rfl mw_1718 mw_1720 mw_79 mw_123 mw_1721 (by decide +kernel) ⟨by decide, by decide⟩ hl.1 rfl (Nat.le_of_ble_eq_true rfl) ⟨Nat.zero_le _, Nat.zero_le _⟩ dX9_whyNoRow_8 (fun r3 hr3 => ?_)
    obtain ⟨z3, hz3, rfl⟩ := hr3
    refine s_if_ne (a := z3) (tgt := 19) hE.1 hE.2.1 (by omega) dX9_whyNoRow_11 (by decide) (fun c4 => ?_) (fun c4 => ?_)
    · skip
      refine lv_aload_n hE.1 hE.2.1 dX9_whyNoRow_19 rfl (lv_at hl 0 rfl) ?_
      refine x_get (x := .ref (ad 1)) hE hK hP 0 (by decide) (yG_9 rfl) rfl hin9 1 (by decide) mw_1335 rfl dX9_whyNoRow_20 ?_
      refine lv_iload_n hE.1 hE.2.1 dX9_whyNoRow_23 rfl (lv_at hl 1 rfl) ?_
      refine x_iald (j := iI (z_1)) hE hK hP 1 (by decide) (yG_10 rfl) (iI_in (n := 4) (by omega)) dX9_whyNoRow_24 ?_
      obtain ⟨z6, hz6, ez6⟩ := YI_a1 hI ((iI (z_1)).toNatClampNeg)
      refine x_top ez6 ?_
      refine lv_iconst (v := iI (-1)) hE.1 hE.2.1 dX9_whyNoRow_25 (by decide) ?_
      refine s_icmp_ne (a := z6) (b := -1) (tgt := 34) hE.1 hE.2.1 (by omega) (by omega) dX9_whyNoRow_26 (by decide) (fun c7 => ?_) (fun c7 => ?_)
      · skip
        refine lv_iconst (v := iI (0)) hE.1 hE.2.1 dX9_whyNoRow_34 (by decide) ?_
        exact kr _ _ _ rfl ⟨0, by omega, rfl⟩ dX9_whyNoRow_35
      · skip
        refine lv_bipush (v := iI (-6)) hE.1 hE.2.1 dX9_whyNoRow_29 (by decide) ?_
        refine lv_goto (tgt := 35) hE.1 hE.2.1 dX9_whyNoRow_31 (by decide) ?_
        exact kr _ _ _ rfl ⟨-6, by omega, rfl⟩ dX9_whyNoRow_35
    · skip
      refine lv_bipush (v := iI (-2)) hE.1 hE.2.1 dX9_whyNoRow_14 (by decide) ?_
      refine lv_goto (tgt := 35) hE.1 hE.2.1 dX9_whyNoRow_16 (by decide) ?_
      exact kr _ _ _ rfl ⟨-2, by omega, rfl⟩ dX9_whyNoRow_35

theorem dX9_maySilence_0 : decode cX9_maySilence 0 = .ok (.aload_n 0, 1) := by decide +kernel
theorem dX9_maySilence_1 : decode cX9_maySilence 1 = .ok (.getfield 56, 3) := by decide +kernel
theorem dX9_maySilence_4 : decode cX9_maySilence 4 = .ok (.aload_n 0, 1) := by decide +kernel
theorem dX9_maySilence_5 : decode cX9_maySilence 5 = .ok (.getfield 265, 3) := by decide +kernel
theorem dX9_maySilence_8 : decode cX9_maySilence 8 = .ok (.aload_n 0, 1) := by decide +kernel
theorem dX9_maySilence_9 : decode cX9_maySilence 9 = .ok (.getfield 34, 3) := by decide +kernel
theorem dX9_maySilence_12 : decode cX9_maySilence 12 = .ok (.iconst 0, 1) := by decide +kernel
theorem dX9_maySilence_13 : decode cX9_maySilence 13 = .ok (.iaload, 1) := by decide +kernel
theorem dX9_maySilence_14 : decode cX9_maySilence 14 = .ok (.irem, 1) := by decide +kernel
theorem dX9_maySilence_15 : decode cX9_maySilence 15 = .ok (.iaload, 1) := by decide +kernel
theorem dX9_maySilence_16 : decode cX9_maySilence 16 = .ok (.aload_n 0, 1) := by decide +kernel
theorem dX9_maySilence_17 : decode cX9_maySilence 17 = .ok (.getfield 34, 3) := by decide +kernel
theorem dX9_maySilence_20 : decode cX9_maySilence 20 = .ok (.iconst 1, 1) := by decide +kernel
theorem dX9_maySilence_21 : decode cX9_maySilence 21 = .ok (.iaload, 1) := by decide +kernel
theorem dX9_maySilence_22 : decode cX9_maySilence 22 = .ok (.if_icmp .ge 16, 3) := by decide +kernel
theorem dX9_maySilence_25 : decode cX9_maySilence 25 = .ok (.aload_n 0, 1) := by decide +kernel
theorem dX9_maySilence_26 : decode cX9_maySilence 26 = .ok (.bipush 9, 2) := by decide +kernel
theorem dX9_maySilence_28 : decode cX9_maySilence 28 = .ok (.invokevirtual 289, 3) := by decide +kernel
theorem dX9_maySilence_31 : decode cX9_maySilence 31 = .ok (.ifCond .ne 7, 3) := by decide +kernel
theorem dX9_maySilence_34 : decode cX9_maySilence 34 = .ok (.iconst 1, 1) := by decide +kernel
theorem dX9_maySilence_35 : decode cX9_maySilence 35 = .ok (.goto 4, 3) := by decide +kernel
theorem dX9_maySilence_38 : decode cX9_maySilence 38 = .ok (.iconst 0, 1) := by decide +kernel
theorem dX9_maySilence_39 : decode cX9_maySilence 39 = .ok (.ireturn, 1) := by decide +kernel
set_option maxHeartbeats 4000000 in
set_option maxRecDepth 100000 in
theorem s_X9_maySilence (l : Launch) (D : va_G) (K : Nat → ClassId) (ad : Nat → Nat) (v ar : sI) (al : sL) (hI : YI v ar) (w_1 : Int) (hw_1 : 1 ≤ w_1 ∧ w_1 ≤ 3) (ew_1 : ar 7 0 = iI w_1) : Met l yX9_maySilence (wM yX9_maySilence cX9_maySilence 1 (some .boolean)) (rmD 2) (va_Pc [.ref (ad 0)] (wPre D K ad (yG ad K) 21 v ar al)) (vp_Si (fun r => ∃ z : Int, (0 ≤ z ∧ z ≤ 1) ∧ r = iI z)) 0 0 (fun _ => False) := by
  refine s_metP (by decide) (Nat.le_of_ble_eq_true rfl) ?_
  intro p e s m below meth c ls args Q hE hB hl kr
  have hE : CallFix p m c cX9_maySilence 1 s args tbG "TaleCourtModel" := hE
  obtain ⟨hP, hK, hN⟩ := hB
  have hl : lv_has ls 1 [(0, .ref (ad 0))] := hl
  refine lv_aload_n hE.1 hE.2.1 dX9_maySilence_0 rfl (lv_at hl 0 rfl) ?_
  refine x_get (x := .ref (ad 14)) hE hK hP 0 (by decide) (yG_9 rfl) rfl hin9 28 (by decide) mw_1362 rfl dX9_maySilence_1 ?_
  refine lv_aload_n hE.1 hE.2.1 dX9_maySilence_4 rfl (lv_at hl 0 rfl) ?_
  obtain ⟨z1, hz1, ez1⟩ := YI_get hI 0 24 0 60 (by decide)
  refine x_get (x := .int (v 0 24)) hE hK hP 0 (by decide) (yG_9 rfl) rfl hin9 24 (by decide) mw_1358 rfl dX9_maySilence_5 ?_
  refine x_top (y := iI (z1)) ez1 ?_
  refine lv_aload_n hE.1 hE.2.1 dX9_maySilence_8 rfl (lv_at hl 0 rfl) ?_
  refine x_get (x := .ref (ad 7)) hE hK hP 0 (by decide) (yG_9 rfl) rfl hin9 17 (by decide) mw_1351 rfl dX9_maySilence_9 ?_
  refine lv_iconst (v := iI (0)) hE.1 hE.2.1 dX9_maySilence_12 (by decide) ?_
  refine x_iald (j := iI (0)) hE hK hP 7 (by decide) (yG_10 rfl) (iI_in (n := 30) (by omega)) dX9_maySilence_13 ?_
  refine x_top (y := iI (w_1)) (by rw [show (iI (0)).toNatClampNeg = 0 from by decide]; exact ew_1) ?_
  refine lv_irem hE.1 hE.2.1 dX9_maySilence_14 (iI_ne0 (by omega) (by omega)) ?_
  obtain ⟨z3, hz3⟩ : ∃ z : Int, z = (z1) % (w_1) ∧ 0 ≤ z ∧ z < w_1 := ⟨_, rfl, Int.emod_nonneg _ (by omega), Int.emod_lt_of_pos _ (by omega)⟩
  refine x_top (y := iI (z3)) ((iI_rem (by omega) (by omega)).trans (congrArg iI hz3.1.symm)) ?_
  replace hz3 := hz3.2
  refine x_iald (j := iI (z3)) hE hK hP 14 (by decide) (yG_10 rfl) (iI_in (n := 3) (by omega)) dX9_maySilence_15 ?_
  obtain ⟨z5, hz5, ez5⟩ := iI_of (ar 14 (iI (z3)).toNatClampNeg)
  refine x_top ez5 ?_
  refine lv_aload_n hE.1 hE.2.1 dX9_maySilence_16 rfl (lv_at hl 0 rfl) ?_
  refine x_get (x := .ref (ad 7)) hE hK hP 0 (by decide) (yG_9 rfl) rfl hin9 17 (by decide) mw_1351 rfl dX9_maySilence_17 ?_
  refine lv_iconst (v := iI (1)) hE.1 hE.2.1 dX9_maySilence_20 (by decide) ?_
  refine x_iald (j := iI (1)) hE hK hP 7 (by decide) (yG_10 rfl) (iI_in (n := 30) (by omega)) dX9_maySilence_21 ?_
  obtain ⟨z7, hz7, ez7⟩ := YI_h1 hI 1 (by decide)
  refine x_top (y := iI (z7)) (by rw [show (iI (1)).toNatClampNeg = 1 from by decide]; exact ez7) ?_
  refine s_icmp_ge (a := z5) (b := z7) (tgt := 38) hE.1 hE.2.1 (by omega) (by omega) dX9_maySilence_22 (by decide) (fun c8 => ?_) (fun c8 => ?_)
  · skip
    refine lv_iconst (v := iI (0)) hE.1 hE.2.1 dX9_maySilence_38 (by decide) ?_
    exact kr _ _ _ (nar01 (by omega)) ⟨0, by omega, rfl⟩ dX9_maySilence_39
  · skip
    refine lv_aload_n hE.1 hE.2.1 dX9_maySilence_25 rfl (lv_at hl 0 rfl) ?_
    refine lv_bipush (v := iI (9)) hE.1 hE.2.1 dX9_maySilence_26 (by decide) ?_
    refine x_vp (nn := 1) (As := [.int (iI (9))]) (rest := []) hE (s_X9_isLate l D K ad v ar al hI  (9) (by omega)) wPre_blind (wPre_now hK hN hP) (x_recv hK hP 0 (by decide) (yG_9 rfl) rfl) rfl mw_1706 mw_1708 mw_77 mw_123 mw_1709 (by decide +kernel) ⟨by decide, by decide⟩ hl.1 rfl (Nat.le_of_ble_eq_true rfl) ⟨Nat.zero_le _, Nat.zero_le _⟩ dX9_maySilence_28 (fun r9 hr9 => ?_)
    obtain ⟨z9, hz9, rfl⟩ := hr9
    refine s_if_ne (a := z9) (tgt := 38) hE.1 hE.2.1 (by omega) dX9_maySilence_31 (by decide) (fun c10 => ?_) (fun c10 => ?_)
    · skip
      refine lv_iconst (v := iI (0)) hE.1 hE.2.1 dX9_maySilence_38 (by decide) ?_
      exact kr _ _ _ (nar01 (by omega)) ⟨0, by omega, rfl⟩ dX9_maySilence_39
    · skip
      refine lv_iconst (v := iI (1)) hE.1 hE.2.1 dX9_maySilence_34 (by decide) ?_
      refine lv_goto (tgt := 39) hE.1 hE.2.1 dX9_maySilence_35 (by decide) ?_
      exact kr _ _ _ (nar01 (by omega)) ⟨1, by omega, rfl⟩ dX9_maySilence_39

theorem dX9_judges_0 : decode cX9_judges 0 = .ok (.aload_n 0, 1) := by decide +kernel
theorem dX9_judges_1 : decode cX9_judges 1 = .ok (.invokevirtual 280, 3) := by decide +kernel
theorem dX9_judges_4 : decode cX9_judges 4 = .ok (.aload_n 0, 1) := by decide +kernel
theorem dX9_judges_5 : decode cX9_judges 5 = .ok (.iconst 0, 1) := by decide +kernel
theorem dX9_judges_6 : decode cX9_judges 6 = .ok (.putfield 415, 3) := by decide +kernel
theorem dX9_judges_9 : decode cX9_judges 9 = .ok (.iconst 0, 1) := by decide +kernel
theorem dX9_judges_10 : decode cX9_judges 10 = .ok (.istore_n 2, 1) := by decide +kernel
theorem dX9_judges_11 : decode cX9_judges 11 = .ok (.iload_n 2, 1) := by decide +kernel
theorem dX9_judges_12 : decode cX9_judges 12 = .ok (.aload_n 0, 1) := by decide +kernel
theorem dX9_judges_13 : decode cX9_judges 13 = .ok (.getfield 13, 3) := by decide +kernel
theorem dX9_judges_16 : decode cX9_judges 16 = .ok (.iload_n 1, 1) := by decide +kernel
theorem dX9_judges_17 : decode cX9_judges 17 = .ok (.iaload, 1) := by decide +kernel
theorem dX9_judges_18 : decode cX9_judges 18 = .ok (.if_icmp .ge 83, 3) := by decide +kernel
theorem dX9_judges_21 : decode cX9_judges 21 = .ok (.aload_n 0, 1) := by decide +kernel
theorem dX9_judges_22 : decode cX9_judges 22 = .ok (.getfield 16, 3) := by decide +kernel
theorem dX9_judges_25 : decode cX9_judges 25 = .ok (.bipush 60, 2) := by decide +kernel
theorem dX9_judges_27 : decode cX9_judges 27 = .ok (.iload_n 1, 1) := by decide +kernel
theorem dX9_judges_28 : decode cX9_judges 28 = .ok (.imul, 1) := by decide +kernel
theorem dX9_judges_29 : decode cX9_judges 29 = .ok (.iload_n 2, 1) := by decide +kernel
theorem dX9_judges_30 : decode cX9_judges 30 = .ok (.iadd, 1) := by decide +kernel
theorem dX9_judges_31 : decode cX9_judges 31 = .ok (.laload, 1) := by decide +kernel
theorem dX9_judges_32 : decode cX9_judges 32 = .ok (.lstore_n 3, 1) := by decide +kernel
theorem dX9_judges_33 : decode cX9_judges 33 = .ok (.aload_n 0, 1) := by decide +kernel
theorem dX9_judges_34 : decode cX9_judges 34 = .ok (.lload_n 3, 1) := by decide +kernel
theorem dX9_judges_35 : decode cX9_judges 35 = .ok (.ldc2_w 368, 3) := by decide +kernel
theorem dX9_judges_38 : decode cX9_judges 38 = .ok (.lcmp, 1) := by decide +kernel
theorem dX9_judges_39 : decode cX9_judges 39 = .ok (.ifCond .ne 19, 3) := by decide +kernel
theorem dX9_judges_42 : decode cX9_judges 42 = .ok (.aload_n 0, 1) := by decide +kernel
theorem dX9_judges_43 : decode cX9_judges 43 = .ok (.invokevirtual 304, 3) := by decide +kernel
theorem dX9_judges_46 : decode cX9_judges 46 = .ok (.ifCond .eq 7, 3) := by decide +kernel
theorem dX9_judges_49 : decode cX9_judges 49 = .ok (.iconst 0, 1) := by decide +kernel
theorem dX9_judges_50 : decode cX9_judges 50 = .ok (.goto 27, 3) := by decide +kernel
theorem dX9_judges_53 : decode cX9_judges 53 = .ok (.bipush 9, 2) := by decide +kernel
theorem dX9_judges_55 : decode cX9_judges 55 = .ok (.goto 22, 3) := by decide +kernel
theorem dX9_judges_58 : decode cX9_judges 58 = .ok (.aload_n 0, 1) := by decide +kernel
theorem dX9_judges_59 : decode cX9_judges 59 = .ok (.lload_n 3, 1) := by decide +kernel
theorem dX9_judges_60 : decode cX9_judges 60 = .ok (.invokevirtual 253, 3) := by decide +kernel
theorem dX9_judges_63 : decode cX9_judges 63 = .ok (.ifCond .eq 12, 3) := by decide +kernel
theorem dX9_judges_66 : decode cX9_judges 66 = .ok (.aload_n 0, 1) := by decide +kernel
theorem dX9_judges_67 : decode cX9_judges 67 = .ok (.lload_n 3, 1) := by decide +kernel
theorem dX9_judges_68 : decode cX9_judges 68 = .ok (.l2i, 1) := by decide +kernel
theorem dX9_judges_69 : decode cX9_judges 69 = .ok (.invokevirtual 295, 3) := by decide +kernel
theorem dX9_judges_72 : decode cX9_judges 72 = .ok (.goto 5, 3) := by decide +kernel
theorem dX9_judges_75 : decode cX9_judges 75 = .ok (.bipush 9, 2) := by decide +kernel
theorem dX9_judges_77 : decode cX9_judges 77 = .ok (.putfield 415, 3) := by decide +kernel
theorem dX9_judges_80 : decode cX9_judges 80 = .ok (.aload_n 0, 1) := by decide +kernel
theorem dX9_judges_81 : decode cX9_judges 81 = .ok (.getfield 415, 3) := by decide +kernel
theorem dX9_judges_84 : decode cX9_judges 84 = .ok (.ifCond .eq 5, 3) := by decide +kernel
theorem dX9_judges_87 : decode cX9_judges 87 = .ok (.iload_n 2, 1) := by decide +kernel
theorem dX9_judges_88 : decode cX9_judges 88 = .ok (.ireturn, 1) := by decide +kernel
theorem dX9_judges_89 : decode cX9_judges 89 = .ok (.aload_n 0, 1) := by decide +kernel
theorem dX9_judges_90 : decode cX9_judges 90 = .ok (.lload_n 3, 1) := by decide +kernel
theorem dX9_judges_91 : decode cX9_judges 91 = .ok (.l2i, 1) := by decide +kernel
theorem dX9_judges_92 : decode cX9_judges 92 = .ok (.invokevirtual 283, 3) := by decide +kernel
theorem dX9_judges_95 : decode cX9_judges 95 = .ok (.iinc 2 1, 3) := by decide +kernel
theorem dX9_judges_98 : decode cX9_judges 98 = .ok (.goto (-87), 3) := by decide +kernel
theorem dX9_judges_101 : decode cX9_judges 101 = .ok (.aload_n 0, 1) := by decide +kernel
theorem dX9_judges_102 : decode cX9_judges 102 = .ok (.getfield 13, 3) := by decide +kernel
theorem dX9_judges_105 : decode cX9_judges 105 = .ok (.iload_n 1, 1) := by decide +kernel
theorem dX9_judges_106 : decode cX9_judges 106 = .ok (.iaload, 1) := by decide +kernel
theorem dX9_judges_107 : decode cX9_judges 107 = .ok (.ireturn, 1) := by decide +kernel
set_option maxHeartbeats 4000000 in
set_option maxRecDepth 100000 in
theorem s_X9_judges (l : Launch) (D : va_G) (K : Nat → ClassId) (ad : Nat → Nat) (v ar : sI) (al : sL) (hI : YI v ar) (w_1 : Int) (hw_1 : 1 ≤ w_1 ∧ w_1 ≤ 3) (ew_1 : ar 7 0 = iI w_1) (z_1 : Int) (hz_1 : 0 ≤ z_1 ∧ z_1 ≤ 3) : Met l yX9_judges (wM yX9_judges cX9_judges 5 (some .int)) (rmD 3) (va_Pc [.ref (ad 0), .int (iI (z_1))] (wPre D K ad (yG ad K) 21 v ar al)) (va_Qi (fun (r : Int32) (u : sT) => (∃ z : Int, (-2147483648 ≤ z ∧ z ≤ 2147483647) ∧ r = iI z) ∧ YI u.1 u.2.1 ∧ (∀ i j : Nat, (i, j) ∉ ([(0, 24), (0, 25), (0, 26), (0, 27), (0, 46)] : List (Nat × Nat)) → u.1 i j = v i j) ∧ (∀ i : Nat, i ∉ ([12, 13, 14] : List Nat) → u.2.1 i = ar i) ∧ (∀ i : Nat, i ∉ ([] : List Nat) → u.2.2 i = al i)) (wB D ad (yG ad K) 21) (inW ad 21)) 0 0 (inW ad 21) := by
  refine s_metI (by decide) (Nat.le_of_ble_eq_true rfl) ?_
  intro p e s m below meth c ls args Q hE hB hl kr
  have hE : CallFix p m c cX9_judges 5 s args tbG "TaleCourtModel" := hE
  obtain ⟨hP, hK, hN⟩ := hB
  have hS : va_S (inW ad 21) s.heap s.heap [] := va_S.rf
  have hl : lv_has ls 5 [(0, .ref (ad 0)), (1, .int (iI (z_1)))] := hl
  refine lv_aload_n hE.1 hE.2.1 dX9_judges_0 rfl (lv_at hl 0 rfl) ?_
  refine x_vv (nn := 0) (As := []) (rest := []) hE hK hN hP hS (s_X9_empties l D K ad v ar al hI  ) (x_recv hK hP 0 (by decide) (yG_9 rfl) rfl) rfl mw_1642 mw_1644 mw_70 mw_123 mw_1645 (by decide +kernel) ⟨by decide, by decide⟩ hl.1 rfl (Nat.le_of_ble_eq_true rfl) ⟨Nat.zero_le _, Nat.zero_le _⟩ dX9_judges_1 (fun v1 ar1 al1 H locs hq1 hP hS => ?_)
  obtain ⟨hI, hq1, hqa1, hql1, x1_1, x1_2, x1_3, hx1, ex1_1, ex1_2, ex1_3⟩ := hq1
  have hI : YI v1 ar1 := hI
  refine lv_aload_n hE.1 hE.2.1 dX9_judges_4 rfl (lv_at hl 0 rfl) ?_
  refine lv_iconst (v := iI (0)) hE.1 hE.2.1 dX9_judges_5 (by decide) ?_
  refine x_put (x := iI (0)) hE hK hN hP hS 0 (by decide) (yG_9 rfl) rfl hin9 tyX9 tyX9_ok nmX9 46 (by decide) mw_1380 rfl rfl rfl (Nat.le_of_ble_eq_true rfl) (yG_9 rfl) dX9_judges_6 (fun v2 H locs hv2 hP hS => ?_)
  have hI := YI_putN hI hv2 (by decide)
  refine lv_iconst (v := iI (0)) hE.1 hE.2.1 dX9_judges_9 (by decide) ?_
  refine lv_istore_n (lv' := [(2, .int (iI (0))), (0, .ref (ad 0)), (1, .int (iI (z_1)))]) hE.1 hE.2.1 dX9_judges_10 rfl hl (by decide) rfl (fun ls hl => ?_)
  have loop3 : ∀ (k3 : Nat) (y3_2 : Int) (yf3_0 : Int) (yf3_1 : Int) (yf3_2 : Int) (vl3 arl3 : sI) (all3 : sL) (H : Heap) (locs : List Loc) (ls : Array Slot), (60 - y3_2).toNat = k3 → (0 ≤ y3_2 ∧ y3_2 ≤ 60) → (0 ≤ yf3_0 ∧ yf3_0 ≤ 60 ∧ 0 ≤ yf3_1 ∧ yf3_1 ≤ 511 ∧ -1 ≤ yf3_2 ∧ yf3_2 ≤ 8 ∧ (yf3_0 = y3_2)) → (vl3 0 24 = iI yf3_0) → (vl3 0 25 = iI yf3_1) → (vl3 0 26 = iI yf3_2) → YI vl3 arl3 → (∀ i j : Nat, (i, j) ∉ ([(0, 24), (0, 25), (0, 26), (0, 27), (0, 46)] : List (Nat × Nat)) → vl3 i j = v2 i j) → (∀ i : Nat, i ∉ ([12, 13, 14] : List Nat) → arl3 i = ar1 i) → (∀ i : Nat, i ∉ ([] : List Nat) → all3 i = al1 i) → va_P D xcl (wW ad (yG ad K) 21 vl3 arl3 all3) H → va_S (inW ad 21) s.heap H locs → lv_has ls 5 [(2, .int (iI (y3_2))), (0, .ref (ad 0)), (1, .int (iI (z_1)))] → W p l e (rmD 3) s m args below meth c H locs 0 0 Q (F0 m 11 ls []) := by
    intro k3
    induction k3 using Nat.strongRecOn with
    | _ k3 ih3 =>
      intro y3_2 yf3_0 yf3_1 yf3_2 vl3 arl3 all3 H locs ls hk3 hb_y3_2 hyf3 eyf3_0 eyf3_1 eyf3_2 hI hfr3 hfa3 hfl3 hP hS hl
      refine lv_iload_n hE.1 hE.2.1 dX9_judges_11 rfl (lv_at hl 0 rfl) ?_
      refine lv_aload_n hE.1 hE.2.1 dX9_judges_12 rfl (lv_at hl 1 rfl) ?_
      refine x_get (x := .ref (ad 2)) hE hK hP 0 (by decide) (yG_9 rfl) rfl hin9 2 (by decide) mw_1336 rfl dX9_judges_13 ?_
      refine lv_iload_n hE.1 hE.2.1 dX9_judges_16 rfl (lv_at hl 2 rfl) ?_
      refine x_iald (j := iI (z_1)) hE hK hP 2 (by decide) (yG_10 rfl) (iI_in (n := 4) (by omega)) dX9_judges_17 ?_
      obtain ⟨z5, hz5, ez5⟩ := YI_a2 hI ((iI (z_1)).toNatClampNeg)
      refine x_top ez5 ?_
      refine s_icmp_ge (a := y3_2) (b := z5) (tgt := 101) hE.1 hE.2.1 (by omega) (by omega) dX9_judges_18 (by decide) (fun c6 => ?_) (fun c6 => ?_)
      · skip
        refine lv_aload_n hE.1 hE.2.1 dX9_judges_101 rfl (lv_at hl 1 rfl) ?_
        refine x_get (x := .ref (ad 2)) hE hK hP 0 (by decide) (yG_9 rfl) rfl hin9 2 (by decide) mw_1336 rfl dX9_judges_102 ?_
        refine lv_iload_n hE.1 hE.2.1 dX9_judges_105 rfl (lv_at hl 2 rfl) ?_
        refine x_iald (j := iI (z_1)) hE hK hP 2 (by decide) (yG_10 rfl) (iI_in (n := 4) (by omega)) dX9_judges_106 ?_
        refine x_top ez5 ?_
        exact kr _ vl3 arl3 all3 _ _ _ _ rfl ⟨⟨z5, by omega, rfl⟩, hI, fun i j h => ((hfr3 i j (fun q => h (mem_sub (by decide) q))).trans ((up_oth hv2 (fun q => h (by rcases q with ⟨rfl, rfl⟩; decide))).trans (hq1 i j (fun q => h (mem_sub (by decide) q))))), fun i h => ((hfa3 i (fun q => h (mem_subn (by decide) q))).trans (hqa1 i (fun q => h (mem_subn (by decide) q)))), fun i h => ((hfl3 i (fun q => h (mem_subn (by decide) q))).trans (hql1 i (fun q => h (mem_subn (by decide) q))))⟩ hP hS dX9_judges_107
      · skip
        refine lv_aload_n hE.1 hE.2.1 dX9_judges_21 rfl (lv_at hl 1 rfl) ?_
        refine x_get (x := .ref (ad 3)) hE hK hP 0 (by decide) (yG_9 rfl) rfl hin9 3 (by decide) mw_1337 rfl dX9_judges_22 ?_
        refine lv_bipush (v := iI (60)) hE.1 hE.2.1 dX9_judges_25 (by decide) ?_
        refine lv_iload_n hE.1 hE.2.1 dX9_judges_27 rfl (lv_at hl 2 rfl) ?_
        refine lv_imul hE.1 hE.2.1 dX9_judges_28 ?_
        refine x_top (y := iI (60 * z_1)) ((iI_mul (60) (z_1)).trans (congrArg iI (by omega))) ?_
        refine lv_iload_n hE.1 hE.2.1 dX9_judges_29 rfl (lv_at hl 0 rfl) ?_
        refine lv_iadd hE.1 hE.2.1 dX9_judges_30 ?_
        refine x_top (y := iI (y3_2 + 60 * z_1)) ((iI_add (60 * z_1) (y3_2)).trans (congrArg iI (by omega))) ?_
        refine x_lald (j := iI (y3_2 + 60 * z_1)) hE hK hP 3 (by decide) (yG_11 rfl) (iI_in (n := 240) (by omega)) dX9_judges_31 ?_
        obtain ⟨z9, hz9, ez9⟩ := lI_of (all3 3 (iI (y3_2 + 60 * z_1)).toNatClampNeg)
        refine x_topl ez9 ?_
        refine lv_lstore_n (lv' := [(3, .long (lI (z9))), (2, .int (iI (y3_2))), (0, .ref (ad 0)), (1, .int (iI (z_1)))]) hE.1 hE.2.1 dX9_judges_32 rfl hl (by decide) rfl (fun ls hl => ?_)
        refine lv_aload_n hE.1 hE.2.1 dX9_judges_33 rfl (lv_at hl 2 rfl) ?_
        refine lv_lload_n hE.1 hE.2.1 dX9_judges_34 rfl (lv_at hl 0 rfl) ?_
        refine lv_ldc2 (v := 9) hE.1 hE.2.1 hE.2.2.2.1 (hE.2.2.2.2 _ mw_1858) dX9_judges_35 ?_
        refine x_topl (y := lI (9)) (by decide) ?_
        refine W.lcmp hE.1 hE.2.1 dX9_judges_38 ?_
        obtain ⟨z10, hz10, ez10⟩ := lcmp_of (a := z9) (b := 9) (by omega) (by omega)
        refine x_top ez10 ?_
        refine s_if_ne (a := z10) (tgt := 58) hE.1 hE.2.1 (by omega) dX9_judges_39 (by decide) (fun c11 => ?_) (fun c11 => ?_)
        · skip
          refine lv_aload_n hE.1 hE.2.1 dX9_judges_58 rfl (lv_at hl 2 rfl) ?_
          refine lv_lload_n hE.1 hE.2.1 dX9_judges_59 rfl (lv_at hl 0 rfl) ?_
          obtain ⟨z12, hz12, ez12⟩ := YI_h2 hI 2 (by decide)
          refine x_vp (nn := 1) (As := [.long (lI (z9))]) (rest := [.ref (ad 0)]) hE (s_X9_isMotif l D K ad vl3 arl3 all3 hI (z12) (by omega) ez12 (z9) (by omega)) wPre_blind (wPre_now hK hN hP) (x_recv hK hP 0 (by decide) (yG_9 rfl) rfl) rfl mw_1662 mw_1664 mw_74 mw_123 mw_1665 (by decide +kernel) ⟨by decide, by decide⟩ hl.1 rfl (Nat.le_of_ble_eq_true rfl) ⟨Nat.zero_le _, Nat.zero_le _⟩ dX9_judges_60 (fun r13 hr13 => ?_)
          obtain ⟨z13, hz13, rfl⟩ := hr13
          refine s_if_eq (a := z13) (tgt := 75) hE.1 hE.2.1 (by omega) dX9_judges_63 (by decide) (fun c14 => ?_) (fun c14 => ?_)
          · skip
            refine lv_bipush (v := iI (9)) hE.1 hE.2.1 dX9_judges_75 (by decide) ?_
            refine x_put (x := iI (9)) hE hK hN hP hS 0 (by decide) (yG_9 rfl) rfl hin9 tyX9 tyX9_ok nmX9 46 (by decide) mw_1380 rfl rfl rfl (Nat.le_of_ble_eq_true rfl) (yG_9 rfl) dX9_judges_77 (fun v15 H locs hv15 hP hS => ?_)
            have hI := YI_putN hI hv15 (by decide)
            refine lv_aload_n hE.1 hE.2.1 dX9_judges_80 rfl (lv_at hl 2 rfl) ?_
            refine x_get (x := .int (v15 0 46)) hE hK hP 0 (by decide) (yG_9 rfl) rfl hin9 46 (by decide) mw_1380 rfl dX9_judges_81 ?_
            refine x_top (y := iI (9)) (up_eq hv15) ?_
            refine s_if_eq (a := 9) (tgt := 89) hE.1 hE.2.1 (by omega) dX9_judges_84 (by decide) (fun c16 => False.elim (by omega)) (fun _ => ?_)
            refine lv_iload_n hE.1 hE.2.1 dX9_judges_87 rfl (lv_at hl 1 rfl) ?_
            exact kr _ v15 arl3 all3 _ _ _ _ rfl ⟨⟨y3_2, by omega, rfl⟩, hI, fun i j h => ((up_oth hv15 (fun q => h (by rcases q with ⟨rfl, rfl⟩; decide))).trans ((hfr3 i j (fun q => h (mem_sub (by decide) q))).trans ((up_oth hv2 (fun q => h (by rcases q with ⟨rfl, rfl⟩; decide))).trans (hq1 i j (fun q => h (mem_sub (by decide) q)))))), fun i h => ((hfa3 i (fun q => h (mem_subn (by decide) q))).trans (hqa1 i (fun q => h (mem_subn (by decide) q)))), fun i h => ((hfl3 i (fun q => h (mem_subn (by decide) q))).trans (hql1 i (fun q => h (mem_subn (by decide) q))))⟩ hP hS dX9_judges_88
          · skip
            refine lv_aload_n hE.1 hE.2.1 dX9_judges_66 rfl (lv_at hl 2 rfl) ?_
            refine lv_lload_n hE.1 hE.2.1 dX9_judges_67 rfl (lv_at hl 0 rfl) ?_
            refine lv_l2i (v := iI (z9)) hE.1 hE.2.1 dX9_judges_68 (lI_l2i _) ?_
            refine x_vp (nn := 1) (As := [.int (iI (z9))]) (rest := [.ref (ad 0)]) hE (s_X9_whyNot l D K ad vl3 arl3 all3 hI (w_1) (by omega) ((congrFun (hfa3 7 (by decide)) 0).trans ((congrFun (hqa1 7 (by decide)) 0).trans ew_1)) (z9) (by omega)) wPre_blind (wPre_now hK hN hP) (x_recv hK hP 0 (by decide) (yG_9 rfl) rfl) rfl mw_1698 mw_1700 mw_75 mw_123 mw_1701 (by decide +kernel) ⟨by decide, by decide⟩ hl.1 rfl (Nat.le_of_ble_eq_true rfl) ⟨Nat.zero_le _, Nat.zero_le _⟩ dX9_judges_69 (fun r17 hr17 => ?_)
            obtain ⟨z17, hz17, rfl⟩ := hr17
            refine lv_goto (tgt := 77) hE.1 hE.2.1 dX9_judges_72 (by decide) ?_
            refine x_put (x := iI (z17)) hE hK hN hP hS 0 (by decide) (yG_9 rfl) rfl hin9 tyX9 tyX9_ok nmX9 46 (by decide) mw_1380 rfl rfl rfl (Nat.le_of_ble_eq_true rfl) (yG_9 rfl) dX9_judges_77 (fun v18 H locs hv18 hP hS => ?_)
            have hI := YI_putN hI hv18 (by decide)
            refine lv_aload_n hE.1 hE.2.1 dX9_judges_80 rfl (lv_at hl 2 rfl) ?_
            refine x_get (x := .int (v18 0 46)) hE hK hP 0 (by decide) (yG_9 rfl) rfl hin9 46 (by decide) mw_1380 rfl dX9_judges_81 ?_
            refine x_top (y := iI (z17)) (up_eq hv18) ?_
            refine s_if_eq (a := z17) (tgt := 89) hE.1 hE.2.1 (by omega) dX9_judges_84 (by decide) (fun c19 => ?_) (fun c19 => ?_)
            · skip
              refine lv_aload_n hE.1 hE.2.1 dX9_judges_89 rfl (lv_at hl 2 rfl) ?_
              refine lv_lload_n hE.1 hE.2.1 dX9_judges_90 rfl (lv_at hl 0 rfl) ?_
              refine lv_l2i (v := iI (z9)) hE.1 hE.2.1 dX9_judges_91 (lI_l2i _) ?_
              refine x_vv (nn := 1) (As := [.int (iI (z9))]) (rest := []) hE hK hN hP hS (s_X9_puts l D K ad v18 arl3 all3 hI (yf3_0) (by omega) ((up_oth hv18 (by decide)).trans eyf3_0) (yf3_1) (by omega) ((up_oth hv18 (by decide)).trans eyf3_1) (yf3_2) (by omega) ((up_oth hv18 (by decide)).trans eyf3_2) (w_1) (by omega) ((congrFun (hfa3 7 (by decide)) 0).trans ((congrFun (hqa1 7 (by decide)) 0).trans ew_1)) (z9) (by omega)) (x_recv hK hP 0 (by decide) (yG_9 rfl) rfl) rfl mw_1646 mw_1648 mw_71 mw_123 mw_1649 (by decide +kernel) ⟨by decide, by decide⟩ hl.1 rfl (Nat.le_of_ble_eq_true rfl) ⟨Nat.zero_le _, Nat.zero_le _⟩ dX9_judges_92 (fun v20 ar20 al20 H locs hq20 hP hS => ?_)
              obtain ⟨hI, hq20, hqa20, hql20, x20_1, x20_2, x20_3, hx20, ex20_1, ex20_2, ex20_3⟩ := hq20
              have hI : YI v20 ar20 := hI
              refine lv_iinc (v := iI (y3_2 + 1)) (lv' := [(2, .int (iI (y3_2 + 1))), (3, .long (lI (z9))), (0, .ref (ad 0)), (1, .int (iI (z_1)))]) hE.1 hE.2.1 dX9_judges_95 hl (k := 1) rfl ((iI_add (y3_2) (1)).trans (congrArg iI (by omega))) (by decide) rfl (fun ls hl => ?_)
              refine lv_goto (tgt := 11) hE.1 hE.2.1 dX9_judges_98 (by decide) ?_
              exact ih3 _ (by omega) (y3_2 + 1) (x20_1) (x20_2) (x20_3) v20 ar20 al20 _ _ _ rfl (by omega) (by omega) ex20_1 ex20_2 ex20_3 hI (fun i j h => (((hq20 i j (fun q => h (mem_sub (by decide) q))).trans (up_oth hv18 (fun q => h (by rcases q with ⟨rfl, rfl⟩; decide)))).trans (hfr3 i j h))) (fun i h => ((hqa20 i (fun q => h (mem_subn (by decide) q))).trans (hfa3 i h))) (fun i h => ((hql20 i (fun q => h (mem_subn (by decide) q))).trans (hfl3 i h))) hP hS (lv_sub hl [0, 2, 3] rfl)
            · skip
              refine lv_iload_n hE.1 hE.2.1 dX9_judges_87 rfl (lv_at hl 1 rfl) ?_
              exact kr _ v18 arl3 all3 _ _ _ _ rfl ⟨⟨y3_2, by omega, rfl⟩, hI, fun i j h => ((up_oth hv18 (fun q => h (by rcases q with ⟨rfl, rfl⟩; decide))).trans ((hfr3 i j (fun q => h (mem_sub (by decide) q))).trans ((up_oth hv2 (fun q => h (by rcases q with ⟨rfl, rfl⟩; decide))).trans (hq1 i j (fun q => h (mem_sub (by decide) q)))))), fun i h => ((hfa3 i (fun q => h (mem_subn (by decide) q))).trans (hqa1 i (fun q => h (mem_subn (by decide) q)))), fun i h => ((hfl3 i (fun q => h (mem_subn (by decide) q))).trans (hql1 i (fun q => h (mem_subn (by decide) q))))⟩ hP hS dX9_judges_88
        · skip
          refine lv_aload_n hE.1 hE.2.1 dX9_judges_42 rfl (lv_at hl 2 rfl) ?_
          refine x_vp (nn := 0) (As := []) (rest := [.ref (ad 0)]) hE (s_X9_maySilence l D K ad vl3 arl3 all3 hI (w_1) (by omega) ((congrFun (hfa3 7 (by decide)) 0).trans ((congrFun (hqa1 7 (by decide)) 0).trans ew_1)) ) wPre_blind (wPre_now hK hN hP) (x_recv hK hP 0 (by decide) (yG_9 rfl) rfl) rfl mw_1722 mw_1724 mw_80 mw_123 mw_1725 (by decide +kernel) ⟨by decide, by decide⟩ hl.1 rfl (Nat.le_of_ble_eq_true rfl) ⟨Nat.zero_le _, Nat.zero_le _⟩ dX9_judges_43 (fun r21 hr21 => ?_)
          obtain ⟨z21, hz21, rfl⟩ := hr21
          refine s_if_eq (a := z21) (tgt := 53) hE.1 hE.2.1 (by omega) dX9_judges_46 (by decide) (fun c22 => ?_) (fun c22 => ?_)
          · skip
            refine lv_bipush (v := iI (9)) hE.1 hE.2.1 dX9_judges_53 (by decide) ?_
            refine lv_goto (tgt := 77) hE.1 hE.2.1 dX9_judges_55 (by decide) ?_
            refine x_put (x := iI (9)) hE hK hN hP hS 0 (by decide) (yG_9 rfl) rfl hin9 tyX9 tyX9_ok nmX9 46 (by decide) mw_1380 rfl rfl rfl (Nat.le_of_ble_eq_true rfl) (yG_9 rfl) dX9_judges_77 (fun v23 H locs hv23 hP hS => ?_)
            have hI := YI_putN hI hv23 (by decide)
            refine lv_aload_n hE.1 hE.2.1 dX9_judges_80 rfl (lv_at hl 2 rfl) ?_
            refine x_get (x := .int (v23 0 46)) hE hK hP 0 (by decide) (yG_9 rfl) rfl hin9 46 (by decide) mw_1380 rfl dX9_judges_81 ?_
            refine x_top (y := iI (9)) (up_eq hv23) ?_
            refine s_if_eq (a := 9) (tgt := 89) hE.1 hE.2.1 (by omega) dX9_judges_84 (by decide) (fun c24 => False.elim (by omega)) (fun _ => ?_)
            refine lv_iload_n hE.1 hE.2.1 dX9_judges_87 rfl (lv_at hl 1 rfl) ?_
            exact kr _ v23 arl3 all3 _ _ _ _ rfl ⟨⟨y3_2, by omega, rfl⟩, hI, fun i j h => ((up_oth hv23 (fun q => h (by rcases q with ⟨rfl, rfl⟩; decide))).trans ((hfr3 i j (fun q => h (mem_sub (by decide) q))).trans ((up_oth hv2 (fun q => h (by rcases q with ⟨rfl, rfl⟩; decide))).trans (hq1 i j (fun q => h (mem_sub (by decide) q)))))), fun i h => ((hfa3 i (fun q => h (mem_subn (by decide) q))).trans (hqa1 i (fun q => h (mem_subn (by decide) q)))), fun i h => ((hfl3 i (fun q => h (mem_subn (by decide) q))).trans (hql1 i (fun q => h (mem_subn (by decide) q))))⟩ hP hS dX9_judges_88
          · skip
            refine lv_iconst (v := iI (0)) hE.1 hE.2.1 dX9_judges_49 (by decide) ?_
            refine lv_goto (tgt := 77) hE.1 hE.2.1 dX9_judges_50 (by decide) ?_
            refine x_put (x := iI (0)) hE hK hN hP hS 0 (by decide) (yG_9 rfl) rfl hin9 tyX9 tyX9_ok nmX9 46 (by decide) mw_1380 rfl rfl rfl (Nat.le_of_ble_eq_true rfl) (yG_9 rfl) dX9_judges_77 (fun v25 H locs hv25 hP hS => ?_)
            have hI := YI_putN hI hv25 (by decide)
            refine lv_aload_n hE.1 hE.2.1 dX9_judges_80 rfl (lv_at hl 2 rfl) ?_
            refine x_get (x := .int (v25 0 46)) hE hK hP 0 (by decide) (yG_9 rfl) rfl hin9 46 (by decide) mw_1380 rfl dX9_judges_81 ?_
            refine x_top (y := iI (0)) (up_eq hv25) ?_
            refine s_if_eq (a := 0) (tgt := 89) hE.1 hE.2.1 (by omega) dX9_judges_84 (by decide) (fun _ => ?_) (fun c26 => False.elim (by omega))
            refine lv_aload_n hE.1 hE.2.1 dX9_judges_89 rfl (lv_at hl 2 rfl) ?_
            refine lv_lload_n hE.1 hE.2.1 dX9_judges_90 rfl (lv_at hl 0 rfl) ?_
            refine lv_l2i (v := iI (z9)) hE.1 hE.2.1 dX9_judges_91 (lI_l2i _) ?_
            refine x_vv (nn := 1) (As := [.int (iI (z9))]) (rest := []) hE hK hN hP hS (s_X9_puts l D K ad v25 arl3 all3 hI (yf3_0) (by omega) ((up_oth hv25 (by decide)).trans eyf3_0) (yf3_1) (by omega) ((up_oth hv25 (by decide)).trans eyf3_1) (yf3_2) (by omega) ((up_oth hv25 (by decide)).trans eyf3_2) (w_1) (by omega) ((congrFun (hfa3 7 (by decide)) 0).trans ((congrFun (hqa1 7 (by decide)) 0).trans ew_1)) (z9) (by omega)) (x_recv hK hP 0 (by decide) (yG_9 rfl) rfl) rfl mw_1646 mw_1648 mw_71 mw_123 mw_1649 (by decide +kernel) ⟨by decide, by decide⟩ hl.1 rfl (Nat.le_of_ble_eq_true rfl) ⟨Nat.zero_le _, Nat.zero_le _⟩ dX9_judges_92 (fun v27 ar27 al27 H locs hq27 hP hS => ?_)
            obtain ⟨hI, hq27, hqa27, hql27, x27_1, x27_2, x27_3, hx27, ex27_1, ex27_2, ex27_3⟩ := hq27
            have hI : YI v27 ar27 := hI
            refine lv_iinc (v := iI (y3_2 + 1)) (lv' := [(2, .int (iI (y3_2 + 1))), (3, .long (lI (z9))), (0, .ref (ad 0)), (1, .int (iI (z_1)))]) hE.1 hE.2.1 dX9_judges_95 hl (k := 1) rfl ((iI_add (y3_2) (1)).trans (congrArg iI (by omega))) (by decide) rfl (fun ls hl => ?_)
            refine lv_goto (tgt := 11) hE.1 hE.2.1 dX9_judges_98 (by decide) ?_
            exact ih3 _ (by omega) (y3_2 + 1) (x27_1) (x27_2) (x27_3) v27 ar27 al27 _ _ _ rfl (by omega) (by omega) ex27_1 ex27_2 ex27_3 hI (fun i j h => (((hq27 i j (fun q => h (mem_sub (by decide) q))).trans (up_oth hv25 (fun q => h (by rcases q with ⟨rfl, rfl⟩; decide)))).trans (hfr3 i j h))) (fun i h => ((hqa27 i (fun q => h (mem_subn (by decide) q))).trans (hfa3 i h))) (fun i h => ((hql27 i (fun q => h (mem_subn (by decide) q))).trans (hfl3 i h))) hP hS (lv_sub hl [0, 2, 3] rfl)
  exact loop3 _ (0) (x1_1) (x1_2) (x1_3) v2 ar1 al1 _ _ _ rfl (by omega) (by omega) ((up_oth hv2 (by decide)).trans ex1_1) ((up_oth hv2 (by decide)).trans ex1_2) ((up_oth hv2 (by decide)).trans ex1_3) hI (fun _ _ _ => rfl) (fun _ _ => rfl) (fun _ _ => rfl) hP hS hl

theorem dX9_judge_0 : decode cX9_judge 0 = .ok (.aload_n 0, 1) := by decide +kernel
theorem dX9_judge_1 : decode cX9_judge 1 = .ok (.iconst 0, 1) := by decide +kernel
theorem dX9_judge_2 : decode cX9_judge 2 = .ok (.putfield 81, 3) := by decide +kernel
theorem dX9_judge_5 : decode cX9_judge 5 = .ok (.aload_n 0, 1) := by decide +kernel
theorem dX9_judge_6 : decode cX9_judge 6 = .ok (.iload_n 1, 1) := by decide +kernel
theorem dX9_judge_7 : decode cX9_judge 7 = .ok (.invokevirtual 418, 3) := by decide +kernel
theorem dX9_judge_10 : decode cX9_judge 10 = .ok (.istore_n 2, 1) := by decide +kernel
theorem dX9_judge_11 : decode cX9_judge 11 = .ok (.iload_n 2, 1) := by decide +kernel
theorem dX9_judge_12 : decode cX9_judge 12 = .ok (.ifCond .eq 7, 3) := by decide +kernel
theorem dX9_judge_15 : decode cX9_judge 15 = .ok (.iload_n 2, 1) := by decide +kernel
theorem dX9_judge_16 : decode cX9_judge 16 = .ok (.goto 8, 3) := by decide +kernel
theorem dX9_judge_19 : decode cX9_judge 19 = .ok (.aload_n 0, 1) := by decide +kernel
theorem dX9_judge_20 : decode cX9_judge 20 = .ok (.iload_n 1, 1) := by decide +kernel
theorem dX9_judge_21 : decode cX9_judge 21 = .ok (.invokevirtual 421, 3) := by decide +kernel
theorem dX9_judge_24 : decode cX9_judge 24 = .ok (.ireturn, 1) := by decide +kernel
set_option maxHeartbeats 4000000 in
set_option maxRecDepth 100000 in
theorem s_X9_judge (l : Launch) (D : va_G) (K : Nat → ClassId) (ad : Nat → Nat) (v ar : sI) (al : sL) (hI : YI v ar) (z_1 : Int) (hz_1 : -2147483648 ≤ z_1 ∧ z_1 ≤ 2147483647) : Met l yX9_judge (wM yX9_judge cX9_judge 3 (some .int)) (rmD 4) (va_Pc [.ref (ad 0), .int (iI (z_1))] (wPre D K ad (yG ad K) 21 v ar al)) (va_Qi (fun (r : Int32) (u : sT) => (∃ z : Int, (-2147483648 ≤ z ∧ z ≤ 2147483647) ∧ r = iI z) ∧ YI u.1 u.2.1 ∧ (∀ i j : Nat, (i, j) ∉ ([(0, 0), (0, 24), (0, 25), (0, 26), (0, 27), (0, 46)] : List (Nat × Nat)) → u.1 i j = v i j) ∧ (∀ i : Nat, i ∉ ([12, 13, 14] : List Nat) → u.2.1 i = ar i) ∧ (∀ i : Nat, i ∉ ([] : List Nat) → u.2.2 i = al i)) (wB D ad (yG ad K) 21) (inW ad 21)) 0 0 (inW ad 21) := by
  refine s_metI (by decide) (Nat.le_of_ble_eq_true rfl) ?_
  intro p e s m below meth c ls args Q hE hB hl kr
  have hE : CallFix p m c cX9_judge 3 s args tbG "TaleCourtModel" := hE
  obtain ⟨hP, hK, hN⟩ := hB
  have hS : va_S (inW ad 21) s.heap s.heap [] := va_S.rf
  have hl : lv_has ls 3 [(0, .ref (ad 0)), (1, .int (iI (z_1)))] := hl
  obtain ⟨z1, hz1, ez1⟩ := iI_of (ar 6 0)
  obtain ⟨z2, hz2, ez2⟩ := YI_h2 hI 2 (by decide)
  obtain ⟨z3, hz3, ez3⟩ := YI_h5 hI 5 (by decide)
  obtain ⟨z4, hz4, ez4⟩ := YI_h0 hI 0 (by decide)
  have ht0 := YI_t0 hI ez1 (by omega) ez2 (by omega) ez3 (by omega) ez4 (by omega)
  refine lv_aload_n hE.1 hE.2.1 dX9_judge_0 rfl (lv_at hl 0 rfl) ?_
  refine lv_iconst (v := iI (0)) hE.1 hE.2.1 dX9_judge_1 (by decide) ?_
  refine x_put (x := iI (0)) hE hK hN hP hS 0 (by decide) (yG_9 rfl) rfl hin9 tyX9 tyX9_ok nmX9 0 (by decide) mw_1334 rfl rfl rfl (Nat.le_of_ble_eq_true rfl) (yG_9 rfl) dX9_judge_2 (fun v5 H locs hv5 hP hS => ?_)
  have hI := YI_putN hI hv5 (by decide)
  refine lv_aload_n hE.1 hE.2.1 dX9_judge_5 rfl (lv_at hl 0 rfl) ?_
  refine lv_iload_n hE.1 hE.2.1 dX9_judge_6 rfl (lv_at hl 1 rfl) ?_
  refine x_vp (nn := 1) (As := [.int (iI (z_1))]) (rest := []) hE (s_X9_whyNoRow l D K ad v5 ar al hI (z1) (by omega) ez1 (z_1) (by omega)) wPre_blind (wPre_now hK hN hP) (x_recv hK hP 0 (by decide) (yG_9 rfl) rfl) rfl mw_1974 mw_1976 mw_104 mw_123 mw_1977 (by decide +kernel) ⟨by decide, by decide⟩ hl.1 rfl (Nat.le_of_ble_eq_true rfl) ⟨Nat.zero_le _, Nat.zero_le _⟩ dX9_judge_7 (fun r6 hr6 => ?_)
  obtain ⟨z6, hz6, rfl⟩ := hr6
  refine lv_istore_n (lv' := [(2, .int (iI (z6))), (0, .ref (ad 0)), (1, .int (iI (z_1)))]) hE.1 hE.2.1 dX9_judge_10 rfl hl (by decide) rfl (fun ls hl => ?_)
  refine lv_iload_n hE.1 hE.2.1 dX9_judge_11 rfl (lv_at hl 0 rfl) ?_
  refine s_if_eq (a := z6) (tgt := 19) hE.1 hE.2.1 (by omega) dX9_judge_12 (by decide) (fun c7 => ?_) (fun c7 => ?_)
  · skip
    refine lv_aload_n hE.1 hE.2.1 dX9_judge_19 rfl (lv_at hl 1 rfl) ?_
    refine lv_iload_n hE.1 hE.2.1 dX9_judge_20 rfl (lv_at hl 2 rfl) ?_
    refine x_vi (nn := 1) (As := [.int (iI (z_1))]) (rest := []) hE hK hN hP hS (s_X9_judges l D K ad v5 ar al hI (z4) (by omega) ez4 (z_1) (by omega)) (x_recv hK hP 0 (by decide) (yG_9 rfl) rfl) rfl mw_1978 mw_1980 mw_105 mw_123 mw_1981 (by decide +kernel) ⟨by decide, by decide⟩ hl.1 rfl (Nat.le_of_ble_eq_true rfl) ⟨Nat.zero_le _, Nat.zero_le _⟩ dX9_judge_21 (fun r8 v8 ar8 al8 H locs hq8 hP hS => ?_)
    obtain ⟨⟨z8, hz8, rfl⟩, hI, hq8, hqa8, hql8⟩ := hq8
    have hI : YI v8 ar8 := hI
    exact kr _ v8 ar8 al8 _ _ _ _ rfl ⟨⟨z8, by omega, rfl⟩, hI, fun i j h => ((hq8 i j (fun q => h (mem_sub (by decide) q))).trans (up_oth hv5 (fun q => h (by rcases q with ⟨rfl, rfl⟩; decide)))), fun i h => (hqa8 i (fun q => h (mem_subn (by decide) q))), fun i h => (hql8 i (fun q => h (mem_subn (by decide) q)))⟩ hP hS dX9_judge_24
  · skip
    refine lv_iload_n hE.1 hE.2.1 dX9_judge_15 rfl (lv_at hl 0 rfl) ?_
    refine lv_goto (tgt := 24) hE.1 hE.2.1 dX9_judge_16 (by decide) ?_
    exact kr _ v5 ar al _ _ _ _ rfl ⟨⟨z6, by omega, rfl⟩, hI, fun i j h => (up_oth hv5 (fun q => h (by rcases q with ⟨rfl, rfl⟩; decide))), fun i h => rfl, fun i h => rfl⟩ hP hS dX9_judge_24

theorem dX9_verdict_0 : decode cX9_verdict 0 = .ok (.aload_n 0, 1) := by decide +kernel
theorem dX9_verdict_1 : decode cX9_verdict 1 = .ok (.iconst 0, 1) := by decide +kernel
theorem dX9_verdict_2 : decode cX9_verdict 2 = .ok (.putfield 81, 3) := by decide +kernel
theorem dX9_verdict_5 : decode cX9_verdict 5 = .ok (.aload_n 0, 1) := by decide +kernel
theorem dX9_verdict_6 : decode cX9_verdict 6 = .ok (.iload_n 1, 1) := by decide +kernel
theorem dX9_verdict_7 : decode cX9_verdict 7 = .ok (.invokevirtual 418, 3) := by decide +kernel
theorem dX9_verdict_10 : decode cX9_verdict 10 = .ok (.istore_n 2, 1) := by decide +kernel
theorem dX9_verdict_11 : decode cX9_verdict 11 = .ok (.iload_n 2, 1) := by decide +kernel
theorem dX9_verdict_12 : decode cX9_verdict 12 = .ok (.ifCond .eq 5, 3) := by decide +kernel
theorem dX9_verdict_15 : decode cX9_verdict 15 = .ok (.iload_n 2, 1) := by decide +kernel
theorem dX9_verdict_16 : decode cX9_verdict 16 = .ok (.ireturn, 1) := by decide +kernel
theorem dX9_verdict_17 : decode cX9_verdict 17 = .ok (.aload_n 0, 1) := by decide +kernel
theorem dX9_verdict_18 : decode cX9_verdict 18 = .ok (.iload_n 1, 1) := by decide +kernel
theorem dX9_verdict_19 : decode cX9_verdict 19 = .ok (.invokevirtual 421, 3) := by decide +kernel
theorem dX9_verdict_22 : decode cX9_verdict 22 = .ok (.pop, 1) := by decide +kernel
theorem dX9_verdict_23 : decode cX9_verdict 23 = .ok (.aload_n 0, 1) := by decide +kernel
theorem dX9_verdict_24 : decode cX9_verdict 24 = .ok (.getfield 415, 3) := by decide +kernel
theorem dX9_verdict_27 : decode cX9_verdict 27 = .ok (.ireturn, 1) := by decide +kernel
set_option maxHeartbeats 4000000 in
set_option maxRecDepth 100000 in
theorem s_X9_verdict (l : Launch) (D : va_G) (K : Nat → ClassId) (ad : Nat → Nat) (v ar : sI) (al : sL) (hI : YI v ar) (z_1 : Int) (hz_1 : -2147483648 ≤ z_1 ∧ z_1 ≤ 2147483647) : Met l yX9_verdict (wM yX9_verdict cX9_verdict 3 (some .int)) (rmD 4) (va_Pc [.ref (ad 0), .int (iI (z_1))] (wPre D K ad (yG ad K) 21 v ar al)) (va_Qi (fun (r : Int32) (u : sT) => (∃ z : Int, (-2147483648 ≤ z ∧ z ≤ 2147483647) ∧ r = iI z) ∧ YI u.1 u.2.1 ∧ (∀ i j : Nat, (i, j) ∉ ([(0, 0), (0, 24), (0, 25), (0, 26), (0, 27), (0, 46)] : List (Nat × Nat)) → u.1 i j = v i j) ∧ (∀ i : Nat, i ∉ ([12, 13, 14] : List Nat) → u.2.1 i = ar i) ∧ (∀ i : Nat, i ∉ ([] : List Nat) → u.2.2 i = al i)) (wB D ad (yG ad K) 21) (inW ad 21)) 0 0 (inW ad 21) := by
  refine s_metI (by decide) (Nat.le_of_ble_eq_true rfl) ?_
  intro p e s m below meth c ls args Q hE hB hl kr
  have hE : CallFix p m c cX9_verdict 3 s args tbG "TaleCourtModel" := hE
  obtain ⟨hP, hK, hN⟩ := hB
  have hS : va_S (inW ad 21) s.heap s.heap [] := va_S.rf
  have hl : lv_has ls 3 [(0, .ref (ad 0)), (1, .int (iI (z_1)))] := hl
  obtain ⟨z1, hz1, ez1⟩ := iI_of (ar 6 0)
  obtain ⟨z2, hz2, ez2⟩ := YI_h2 hI 2 (by decide)
  obtain ⟨z3, hz3, ez3⟩ := YI_h5 hI 5 (by decide)
  obtain ⟨z4, hz4, ez4⟩ := YI_h0 hI 0 (by decide)
  have ht0 := YI_t0 hI ez1 (by omega) ez2 (by omega) ez3 (by omega) ez4 (by omega)
  refine lv_aload_n hE.1 hE.2.1 dX9_verdict_0 rfl (lv_at hl 0 rfl) ?_
  refine lv_iconst (v := iI (0)) hE.1 hE.2.1 dX9_verdict_1 (by decide) ?_
  refine x_put (x := iI (0)) hE hK hN hP hS 0 (by decide) (yG_9 rfl) rfl hin9 tyX9 tyX9_ok nmX9 0 (by decide) mw_1334 rfl rfl rfl (Nat.le_of_ble_eq_true rfl) (yG_9 rfl) dX9_verdict_2 (fun v5 H locs hv5 hP hS => ?_)
  have hI := YI_putN hI hv5 (by decide)
  refine lv_aload_n hE.1 hE.2.1 dX9_verdict_5 rfl (lv_at hl 0 rfl) ?_
  refine lv_iload_n hE.1 hE.2.1 dX9_verdict_6 rfl (lv_at hl 1 rfl) ?_
  refine x_vp (nn := 1) (As := [.int (iI (z_1))]) (rest := []) hE (s_X9_whyNoRow l D K ad v5 ar al hI (z1) (by omega) ez1 (z_1) (by omega)) wPre_blind (wPre_now hK hN hP) (x_recv hK hP 0 (by decide) (yG_9 rfl) rfl) rfl mw_1974 mw_1976 mw_104 mw_123 mw_1977 (by decide +kernel) ⟨by decide, by decide⟩ hl.1 rfl (Nat.le_of_ble_eq_true rfl) ⟨Nat.zero_le _, Nat.zero_le _⟩ dX9_verdict_7 (fun r6 hr6 => ?_)
  obtain ⟨z6, hz6, rfl⟩ := hr6
  refine lv_istore_n (lv' := [(2, .int (iI (z6))), (0, .ref (ad 0)), (1, .int (iI (z_1)))]) hE.1 hE.2.1 dX9_verdict_10 rfl hl (by decide) rfl (fun ls hl => ?_)
  refine lv_iload_n hE.1 hE.2.1 dX9_verdict_11 rfl (lv_at hl 0 rfl) ?_
  refine s_if_eq (a := z6) (tgt := 17) hE.1 hE.2.1 (by omega) dX9_verdict_12 (by decide) (fun c7 => ?_) (fun c7 => ?_)
  · skip
    refine lv_aload_n hE.1 hE.2.1 dX9_verdict_17 rfl (lv_at hl 1 rfl) ?_
    refine lv_iload_n hE.1 hE.2.1 dX9_verdict_18 rfl (lv_at hl 2 rfl) ?_
    refine x_vi (nn := 1) (As := [.int (iI (z_1))]) (rest := []) hE hK hN hP hS (s_X9_judges l D K ad v5 ar al hI (z4) (by omega) ez4 (z_1) (by omega)) (x_recv hK hP 0 (by decide) (yG_9 rfl) rfl) rfl mw_1978 mw_1980 mw_105 mw_123 mw_1981 (by decide +kernel) ⟨by decide, by decide⟩ hl.1 rfl (Nat.le_of_ble_eq_true rfl) ⟨Nat.zero_le _, Nat.zero_le _⟩ dX9_verdict_19 (fun r8 v8 ar8 al8 H locs hq8 hP hS => ?_)
    obtain ⟨⟨z8, hz8, rfl⟩, hI, hq8, hqa8, hql8⟩ := hq8
    have hI : YI v8 ar8 := hI
    refine lv_pop hE.1 hE.2.1 dX9_verdict_22 rfl ?_
    refine lv_aload_n hE.1 hE.2.1 dX9_verdict_23 rfl (lv_at hl 1 rfl) ?_
    obtain ⟨z9, hz9, ez9⟩ := iI_of (v8 0 46)
    refine x_get (x := .int (v8 0 46)) hE hK hP 0 (by decide) (yG_9 rfl) rfl hin9 46 (by decide) mw_1380 rfl dX9_verdict_24 ?_
    refine x_top (y := iI (z9)) ez9 ?_
    exact kr _ v8 ar8 al8 _ _ _ _ rfl ⟨⟨z9, by omega, rfl⟩, hI, fun i j h => ((hq8 i j (fun q => h (mem_sub (by decide) q))).trans (up_oth hv5 (fun q => h (by rcases q with ⟨rfl, rfl⟩; decide)))), fun i h => (hqa8 i (fun q => h (mem_subn (by decide) q))), fun i h => (hql8 i (fun q => h (mem_subn (by decide) q)))⟩ hP hS dX9_verdict_27
  · skip
    refine lv_iload_n hE.1 hE.2.1 dX9_verdict_15 rfl (lv_at hl 0 rfl) ?_
    exact kr _ v5 ar al _ _ _ _ rfl ⟨⟨z6, by omega, rfl⟩, hI, fun i j h => (up_oth hv5 (fun q => h (by rcases q with ⟨rfl, rfl⟩; decide))), fun i h => rfl, fun i h => rfl⟩ hP hS dX9_verdict_16

theorem dX9_areMotifs_0 : decode cX9_areMotifs 0 = .ok (.iconst 0, 1) := by decide +kernel
theorem dX9_areMotifs_1 : decode cX9_areMotifs 1 = .ok (.istore_n 2, 1) := by decide +kernel
theorem dX9_areMotifs_2 : decode cX9_areMotifs 2 = .ok (.iload_n 2, 1) := by decide +kernel
theorem dX9_areMotifs_3 : decode cX9_areMotifs 3 = .ok (.aload_n 0, 1) := by decide +kernel
theorem dX9_areMotifs_4 : decode cX9_areMotifs 4 = .ok (.getfield 13, 3) := by decide +kernel
theorem dX9_areMotifs_7 : decode cX9_areMotifs 7 = .ok (.iload_n 1, 1) := by decide +kernel
theorem dX9_areMotifs_8 : decode cX9_areMotifs 8 = .ok (.iaload, 1) := by decide +kernel
theorem dX9_areMotifs_9 : decode cX9_areMotifs 9 = .ok (.if_icmp .ge 29, 3) := by decide +kernel
theorem dX9_areMotifs_12 : decode cX9_areMotifs 12 = .ok (.aload_n 0, 1) := by decide +kernel
theorem dX9_areMotifs_13 : decode cX9_areMotifs 13 = .ok (.aload_n 0, 1) := by decide +kernel
theorem dX9_areMotifs_14 : decode cX9_areMotifs 14 = .ok (.getfield 16, 3) := by decide +kernel
theorem dX9_areMotifs_17 : decode cX9_areMotifs 17 = .ok (.bipush 60, 2) := by decide +kernel
theorem dX9_areMotifs_19 : decode cX9_areMotifs 19 = .ok (.iload_n 1, 1) := by decide +kernel
theorem dX9_areMotifs_20 : decode cX9_areMotifs 20 = .ok (.imul, 1) := by decide +kernel
theorem dX9_areMotifs_21 : decode cX9_areMotifs 21 = .ok (.iload_n 2, 1) := by decide +kernel
theorem dX9_areMotifs_22 : decode cX9_areMotifs 22 = .ok (.iadd, 1) := by decide +kernel
theorem dX9_areMotifs_23 : decode cX9_areMotifs 23 = .ok (.laload, 1) := by decide +kernel
theorem dX9_areMotifs_24 : decode cX9_areMotifs 24 = .ok (.invokevirtual 253, 3) := by decide +kernel
theorem dX9_areMotifs_27 : decode cX9_areMotifs 27 = .ok (.ifCond .ne 5, 3) := by decide +kernel
theorem dX9_areMotifs_30 : decode cX9_areMotifs 30 = .ok (.iconst 0, 1) := by decide +kernel
theorem dX9_areMotifs_31 : decode cX9_areMotifs 31 = .ok (.ireturn, 1) := by decide +kernel
theorem dX9_areMotifs_32 : decode cX9_areMotifs 32 = .ok (.iinc 2 1, 3) := by decide +kernel
theorem dX9_areMotifs_35 : decode cX9_areMotifs 35 = .ok (.goto (-33), 3) := by decide +kernel
theorem dX9_areMotifs_38 : decode cX9_areMotifs 38 = .ok (.iconst 1, 1) := by decide +kernel
theorem dX9_areMotifs_39 : decode cX9_areMotifs 39 = .ok (.ireturn, 1) := by decide +kernel
set_option maxHeartbeats 4000000 in
set_option maxRecDepth 100000 in
theorem s_X9_areMotifs (l : Launch) (D : va_G) (K : Nat → ClassId) (ad : Nat → Nat) (v ar : sI) (al : sL) (hI : YI v ar) (z_1 : Int) (hz_1 : 0 ≤ z_1 ∧ z_1 ≤ 3) : Met l yX9_areMotifs (wM yX9_areMotifs cX9_areMotifs 3 (some .boolean)) (rmD 2) (va_Pc [.ref (ad 0), .int (iI (z_1))] (wPre D K ad (yG ad K) 21 v ar al)) (vp_Si (fun r => ∃ z : Int, (0 ≤ z ∧ z ≤ 1) ∧ r = iI z)) 0 0 (fun _ => False) := by
  refine s_metP (by decide) (Nat.le_of_ble_eq_true rfl) ?_
  intro p e s m below meth c ls args Q hE hB hl kr
  have hE : CallFix p m c cX9_areMotifs 3 s args tbG "TaleCourtModel" := hE
  obtain ⟨hP, hK, hN⟩ := hB
  have hl : lv_has ls 3 [(0, .ref (ad 0)), (1, .int (iI (z_1)))] := hl
  refine lv_iconst (v := iI (0)) hE.1 hE.2.1 dX9_areMotifs_0 (by decide) ?_
  refine lv_istore_n (lv' := [(2, .int (iI (0))), (0, .ref (ad 0)), (1, .int (iI (z_1)))]) hE.1 hE.2.1 dX9_areMotifs_1 rfl hl (by decide) rfl (fun ls hl => ?_)
  have loop1 : ∀ (k1 : Nat) (y1_2 : Int) (ls : Array Slot), (60 - y1_2).toNat = k1 → (0 ≤ y1_2 ∧ y1_2 ≤ 60) → lv_has ls 3 [(2, .int (iI (y1_2))), (0, .ref (ad 0)), (1, .int (iI (z_1)))] → W p l e (rmD 2) s m args below meth c s.heap [] 0 0 Q (F0 m 2 ls []) := by
    intro k1
    induction k1 using Nat.strongRecOn with
    | _ k1 ih1 =>
      intro y1_2 ls hk1 hb_y1_2 hl
      refine lv_iload_n hE.1 hE.2.1 dX9_areMotifs_2 rfl (lv_at hl 0 rfl) ?_
      refine lv_aload_n hE.1 hE.2.1 dX9_areMotifs_3 rfl (lv_at hl 1 rfl) ?_
      refine x_get (x := .ref (ad 2)) hE hK hP 0 (by decide) (yG_9 rfl) rfl hin9 2 (by decide) mw_1336 rfl dX9_areMotifs_4 ?_
      refine lv_iload_n hE.1 hE.2.1 dX9_areMotifs_7 rfl (lv_at hl 2 rfl) ?_
      refine x_iald (j := iI (z_1)) hE hK hP 2 (by decide) (yG_10 rfl) (iI_in (n := 4) (by omega)) dX9_areMotifs_8 ?_
      obtain ⟨z3, hz3, ez3⟩ := YI_a2 hI ((iI (z_1)).toNatClampNeg)
      refine x_top ez3 ?_
      refine s_icmp_ge (a := y1_2) (b := z3) (tgt := 38) hE.1 hE.2.1 (by omega) (by omega) dX9_areMotifs_9 (by decide) (fun c4 => ?_) (fun c4 => ?_)
      · skip
        refine lv_iconst (v := iI (1)) hE.1 hE.2.1 dX9_areMotifs_38 (by decide) ?_
        exact kr _ _ _ (nar01 (by omega)) ⟨1, by omega, rfl⟩ dX9_areMotifs_39
      · skip
        refine lv_aload_n hE.1 hE.2.1 dX9_areMotifs_12 rfl (lv_at hl 1 rfl) ?_
        refine lv_aload_n hE.1 hE.2.1 dX9_areMotifs_13 rfl (lv_at hl 1 rfl) ?_
        refine x_get (x := .ref (ad 3)) hE hK hP 0 (by decide) (yG_9 rfl) rfl hin9 3 (by decide) mw_1337 rfl dX9_areMotifs_14 ?_
        refine lv_bipush (v := iI (60)) hE.1 hE.2.1 dX9_areMotifs_17 (by decide) ?_
        refine lv_iload_n hE.1 hE.2.1 dX9_areMotifs_19 rfl (lv_at hl 2 rfl) ?_
        refine lv_imul hE.1 hE.2.1 dX9_areMotifs_20 ?_
        refine x_top (y := iI (60 * z_1)) ((iI_mul (60) (z_1)).trans (congrArg iI (by omega))) ?_
        refine lv_iload_n hE.1 hE.2.1 dX9_areMotifs_21 rfl (lv_at hl 0 rfl) ?_
        refine lv_iadd hE.1 hE.2.1 dX9_areMotifs_22 ?_
        refine x_top (y := iI (y1_2 + 60 * z_1)) ((iI_add (60 * z_1) (y1_2)).trans (congrArg iI (by omega))) ?_
        refine x_lald (j := iI (y1_2 + 60 * z_1)) hE hK hP 3 (by decide) (yG_11 rfl) (iI_in (n := 240) (by omega)) dX9_areMotifs_23 ?_
        obtain ⟨z6, hz6, ez6⟩ := lI_of (al 3 (iI (y1_2 + 60 * z_1)).toNatClampNeg)
        refine x_topl ez6 ?_
        obtain ⟨z7, hz7, ez7⟩ := YI_h2 hI 2 (by decide)
        refine x_vp (nn := 1) (As := [.long (lI (z6))]) (rest := []) hE (s_X9_isMotif l D K ad v ar al hI (z7) (by omega) ez7 (z6) (by omega)) wPre_blind (wPre_now hK hN hP) (x_recv hK hP 0 (by decide) (yG_9 rfl) rfl) rfl mw_1662 mw_1664 mw_74 mw_123 mw_1665 (by decide +kernel) ⟨by decide, by decide⟩ hl.1 rfl (Nat.le_of_ble_eq_true rfl) ⟨Nat.zero_le _, Nat.zero_le _⟩ dX9_areMotifs_24 (fun r8 hr8 => ?_)
        obtain ⟨z8, hz8, rfl⟩ := hr8
        refine s_if_ne (a := z8) (tgt := 32) hE.1 hE.2.1 (by omega) dX9_areMotifs_27 (by decide) (fun c9 => ?_) (fun c9 => ?_)
        · skip
          refine lv_iinc (v := iI (y1_2 + 1)) (lv' := [(2, .int (iI (y1_2 + 1))), (0, .ref (ad 0)), (1, .int (iI (z_1)))]) hE.1 hE.2.1 dX9_areMotifs_32 hl (k := 0) rfl ((iI_add (y1_2) (1)).trans (congrArg iI (by omega))) (by decide) rfl (fun ls hl => ?_)
          refine lv_goto (tgt := 2) hE.1 hE.2.1 dX9_areMotifs_35 (by decide) ?_
          exact ih1 _ (by omega) (y1_2 + 1) _ rfl (by omega) (lv_sub hl [0, 1, 2] rfl)
        · skip
          refine lv_iconst (v := iI (0)) hE.1 hE.2.1 dX9_areMotifs_30 (by decide) ?_
          exact kr _ _ _ (nar01 (by omega)) ⟨0, by omega, rfl⟩ dX9_areMotifs_31
  exact loop1 _ (0) _ rfl (by omega) hl

theorem dX9_cellOf_0 : decode cX9_cellOf 0 = .ok (.aload_n 0, 1) := by decide +kernel
theorem dX9_cellOf_1 : decode cX9_cellOf 1 = .ok (.getfield 16, 3) := by decide +kernel
theorem dX9_cellOf_4 : decode cX9_cellOf 4 = .ok (.bipush 60, 2) := by decide +kernel
theorem dX9_cellOf_6 : decode cX9_cellOf 6 = .ok (.iload_n 1, 1) := by decide +kernel
theorem dX9_cellOf_7 : decode cX9_cellOf 7 = .ok (.imul, 1) := by decide +kernel
theorem dX9_cellOf_8 : decode cX9_cellOf 8 = .ok (.iload_n 2, 1) := by decide +kernel
theorem dX9_cellOf_9 : decode cX9_cellOf 9 = .ok (.iadd, 1) := by decide +kernel
theorem dX9_cellOf_10 : decode cX9_cellOf 10 = .ok (.laload, 1) := by decide +kernel
theorem dX9_cellOf_11 : decode cX9_cellOf 11 = .ok (.l2i, 1) := by decide +kernel
theorem dX9_cellOf_12 : decode cX9_cellOf 12 = .ok (.ireturn, 1) := by decide +kernel
set_option maxHeartbeats 4000000 in
set_option maxRecDepth 100000 in
theorem s_X9_cellOf (l : Launch) (D : va_G) (K : Nat → ClassId) (ad : Nat → Nat) (v ar : sI) (al : sL) (hI : YI v ar) (z_1 : Int) (hz_1 : 0 ≤ z_1 ∧ z_1 ≤ 3) (z_2 : Int) (hz_2 : 0 ≤ z_2 ∧ z_2 ≤ 59) : Met l yX9_cellOf (wM yX9_cellOf cX9_cellOf 3 (some .int)) (rmD 0) (va_Pc [.ref (ad 0), .int (iI (z_1)), .int (iI (z_2))] (wPre D K ad (yG ad K) 21 v ar al)) (vp_Si (fun r => ∃ z : Int, (-2147483648 ≤ z ∧ z ≤ 2147483647) ∧ r = iI z)) 0 0 (fun _ => False) := by
  refine s_metP (by decide) (Nat.le_of_ble_eq_true rfl) ?_
  intro p e s m below meth c ls args Q hE hB hl kr
  have hE : CallFix p m c cX9_cellOf 3 s args tbG "TaleCourtModel" := hE
  obtain ⟨hP, hK, hN⟩ := hB
  have hl : lv_has ls 3 [(0, .ref (ad 0)), (1, .int (iI (z_1))), (2, .int (iI (z_2)))] := hl
  refine lv_aload_n hE.1 hE.2.1 dX9_cellOf_0 rfl (lv_at hl 0 rfl) ?_
  refine x_get (x := .ref (ad 3)) hE hK hP 0 (by decide) (yG_9 rfl) rfl hin9 3 (by decide) mw_1337 rfl dX9_cellOf_1 ?_
  refine lv_bipush (v := iI (60)) hE.1 hE.2.1 dX9_cellOf_4 (by decide) ?_
  refine lv_iload_n hE.1 hE.2.1 dX9_cellOf_6 rfl (lv_at hl 1 rfl) ?_
  refine lv_imul hE.1 hE.2.1 dX9_cellOf_7 ?_
  refine x_top (y := iI (60 * z_1)) ((iI_mul (60) (z_1)).trans (congrArg iI (by omega))) ?_
  refine lv_iload_n hE.1 hE.2.1 dX9_cellOf_8 rfl (lv_at hl 2 rfl) ?_
  refine lv_iadd hE.1 hE.2.1 dX9_cellOf_9 ?_
  refine x_top (y := iI (60 * z_1 + z_2)) ((iI_add (60 * z_1) (z_2)).trans (congrArg iI (by omega))) ?_
  refine x_lald (j := iI (60 * z_1 + z_2)) hE hK hP 3 (by decide) (yG_11 rfl) (iI_in (n := 240) (by omega)) dX9_cellOf_10 ?_
  obtain ⟨z2, hz2, ez2⟩ := lI_of (al 3 (iI (60 * z_1 + z_2)).toNatClampNeg)
  refine x_topl ez2 ?_
  refine lv_l2i (v := iI (z2)) hE.1 hE.2.1 dX9_cellOf_11 (lI_l2i _) ?_
  obtain ⟨z3, hz3, ez3⟩ := iI_of (iI (z2))
  refine x_top ez3 ?_
  exact kr _ _ _ rfl ⟨z3, by omega, rfl⟩ dX9_cellOf_12

theorem dX9_tasteOf_0 : decode cX9_tasteOf 0 = .ok (.iconst 0, 1) := by decide +kernel
theorem dX9_tasteOf_1 : decode cX9_tasteOf 1 = .ok (.istore_n 3, 1) := by decide +kernel
theorem dX9_tasteOf_2 : decode cX9_tasteOf 2 = .ok (.iconst 0, 1) := by decide +kernel
theorem dX9_tasteOf_3 : decode cX9_tasteOf 3 = .ok (.istore 4, 2) := by decide +kernel
theorem dX9_tasteOf_5 : decode cX9_tasteOf 5 = .ok (.iload 4, 2) := by decide +kernel
theorem dX9_tasteOf_7 : decode cX9_tasteOf 7 = .ok (.aload_n 0, 1) := by decide +kernel
theorem dX9_tasteOf_8 : decode cX9_tasteOf 8 = .ok (.getfield 13, 3) := by decide +kernel
theorem dX9_tasteOf_11 : decode cX9_tasteOf 11 = .ok (.iload_n 2, 1) := by decide +kernel
theorem dX9_tasteOf_12 : decode cX9_tasteOf 12 = .ok (.iaload, 1) := by decide +kernel
theorem dX9_tasteOf_13 : decode cX9_tasteOf 13 = .ok (.if_icmp .ge 58, 3) := by decide +kernel
theorem dX9_tasteOf_16 : decode cX9_tasteOf 16 = .ok (.aload_n 0, 1) := by decide +kernel
theorem dX9_tasteOf_17 : decode cX9_tasteOf 17 = .ok (.iload_n 2, 1) := by decide +kernel
theorem dX9_tasteOf_18 : decode cX9_tasteOf 18 = .ok (.iload 4, 2) := by decide +kernel
theorem dX9_tasteOf_20 : decode cX9_tasteOf 20 = .ok (.invokevirtual 424, 3) := by decide +kernel
theorem dX9_tasteOf_23 : decode cX9_tasteOf 23 = .ok (.istore 5, 2) := by decide +kernel
theorem dX9_tasteOf_25 : decode cX9_tasteOf 25 = .ok (.iload_n 3, 1) := by decide +kernel
theorem dX9_tasteOf_26 : decode cX9_tasteOf 26 = .ok (.aload_n 0, 1) := by decide +kernel
theorem dX9_tasteOf_27 : decode cX9_tasteOf 27 = .ok (.iload 5, 2) := by decide +kernel
theorem dX9_tasteOf_29 : decode cX9_tasteOf 29 = .ok (.invokevirtual 274, 3) := by decide +kernel
theorem dX9_tasteOf_32 : decode cX9_tasteOf 32 = .ok (.aload_n 0, 1) := by decide +kernel
theorem dX9_tasteOf_33 : decode cX9_tasteOf 33 = .ok (.getfield 40, 3) := by decide +kernel
theorem dX9_tasteOf_36 : decode cX9_tasteOf 36 = .ok (.iconst 2, 1) := by decide +kernel
theorem dX9_tasteOf_37 : decode cX9_tasteOf 37 = .ok (.iload_n 1, 1) := by decide +kernel
theorem dX9_tasteOf_38 : decode cX9_tasteOf 38 = .ok (.imul, 1) := by decide +kernel
theorem dX9_tasteOf_39 : decode cX9_tasteOf 39 = .ok (.iconst 1, 1) := by decide +kernel
theorem dX9_tasteOf_40 : decode cX9_tasteOf 40 = .ok (.iadd, 1) := by decide +kernel
theorem dX9_tasteOf_41 : decode cX9_tasteOf 41 = .ok (.iaload, 1) := by decide +kernel
theorem dX9_tasteOf_42 : decode cX9_tasteOf 42 = .ok (.iload 5, 2) := by decide +kernel
theorem dX9_tasteOf_44 : decode cX9_tasteOf 44 = .ok (.invokestatic 261, 3) := by decide +kernel
theorem dX9_tasteOf_47 : decode cX9_tasteOf 47 = .ok (.ifCond .eq 14, 3) := by decide +kernel
theorem dX9_tasteOf_50 : decode cX9_tasteOf 50 = .ok (.aload_n 0, 1) := by decide +kernel
theorem dX9_tasteOf_51 : decode cX9_tasteOf 51 = .ok (.getfield 40, 3) := by decide +kernel
theorem dX9_tasteOf_54 : decode cX9_tasteOf 54 = .ok (.iconst 2, 1) := by decide +kernel
theorem dX9_tasteOf_55 : decode cX9_tasteOf 55 = .ok (.iload_n 1, 1) := by decide +kernel
theorem dX9_tasteOf_56 : decode cX9_tasteOf 56 = .ok (.imul, 1) := by decide +kernel
theorem dX9_tasteOf_57 : decode cX9_tasteOf 57 = .ok (.iaload, 1) := by decide +kernel
theorem dX9_tasteOf_58 : decode cX9_tasteOf 58 = .ok (.goto 4, 3) := by decide +kernel
theorem dX9_tasteOf_61 : decode cX9_tasteOf 61 = .ok (.iconst 0, 1) := by decide +kernel
theorem dX9_tasteOf_62 : decode cX9_tasteOf 62 = .ok (.iadd, 1) := by decide +kernel
theorem dX9_tasteOf_63 : decode cX9_tasteOf 63 = .ok (.iadd, 1) := by decide +kernel
theorem dX9_tasteOf_64 : decode cX9_tasteOf 64 = .ok (.istore_n 3, 1) := by decide +kernel
theorem dX9_tasteOf_65 : decode cX9_tasteOf 65 = .ok (.iinc 4 1, 3) := by decide +kernel
theorem dX9_tasteOf_68 : decode cX9_tasteOf 68 = .ok (.goto (-63), 3) := by decide +kernel
theorem dX9_tasteOf_71 : decode cX9_tasteOf 71 = .ok (.iload_n 3, 1) := by decide +kernel
theorem dX9_tasteOf_72 : decode cX9_tasteOf 72 = .ok (.ireturn, 1) := by decide +kernel
set_option maxHeartbeats 4000000 in
set_option maxRecDepth 100000 in
theorem s_X9_tasteOf (l : Launch) (D : va_G) (K : Nat → ClassId) (ad : Nat → Nat) (v ar : sI) (al : sL) (hI : YI v ar) (z_1 : Int) (hz_1 : 0 ≤ z_1 ∧ z_1 ≤ 7) (z_2 : Int) (hz_2 : 0 ≤ z_2 ∧ z_2 ≤ 3) : Met l yX9_tasteOf (wM yX9_tasteOf cX9_tasteOf 6 (some .int)) (rmD 2) (va_Pc [.ref (ad 0), .int (iI (z_1)), .int (iI (z_2))] (wPre D K ad (yG ad K) 21 v ar al)) (vp_Si (fun r => ∃ z : Int, (-2147483648 ≤ z ∧ z ≤ 2147483647) ∧ r = iI z)) 0 0 (fun _ => False) := by
  refine s_metP (by decide) (Nat.le_of_ble_eq_true rfl) ?_
  intro p e s m below meth c ls args Q hE hB hl kr
  have hE : CallFix p m c cX9_tasteOf 6 s args tbG "TaleCourtModel" := hE
  obtain ⟨hP, hK, hN⟩ := hB
  have hl : lv_has ls 6 [(0, .ref (ad 0)), (1, .int (iI (z_1))), (2, .int (iI (z_2)))] := hl
  refine lv_iconst (v := iI (0)) hE.1 hE.2.1 dX9_tasteOf_0 (by decide) ?_
  refine lv_istore_n (lv' := [(3, .int (iI (0))), (0, .ref (ad 0)), (1, .int (iI (z_1))), (2, .int (iI (z_2)))]) hE.1 hE.2.1 dX9_tasteOf_1 rfl hl (by decide) rfl (fun ls hl => ?_)
  refine lv_iconst (v := iI (0)) hE.1 hE.2.1 dX9_tasteOf_2 (by decide) ?_
  refine lv_istore (lv' := [(4, .int (iI (0))), (3, .int (iI (0))), (0, .ref (ad 0)), (1, .int (iI (z_1))), (2, .int (iI (z_2)))]) hE.1 hE.2.1 dX9_tasteOf_3 hl (by decide) rfl (fun ls hl => ?_)
  have loop1 : ∀ (k1 : Nat) (y1_4 : Int) (y1_3 : Int) (ls : Array Slot), (60 - y1_4).toNat = k1 → (0 ≤ y1_4 ∧ y1_4 ≤ 60) → (-2147483648 ≤ y1_3 ∧ y1_3 ≤ 2147483647) → lv_has ls 6 [(4, .int (iI (y1_4))), (3, .int (iI (y1_3))), (0, .ref (ad 0)), (1, .int (iI (z_1))), (2, .int (iI (z_2)))] → W p l e (rmD 2) s m args below meth c s.heap [] 0 0 Q (F0 m 5 ls []) := by
    intro k1
    induction k1 using Nat.strongRecOn with
    | _ k1 ih1 =>
      intro y1_4 y1_3 ls hk1 hb_y1_4 hb_y1_3 hl
      refine lv_iload hE.1 hE.2.1 dX9_tasteOf_5 (lv_at hl 0 rfl) ?_
      refine lv_aload_n hE.1 hE.2.1 dX9_tasteOf_7 rfl (lv_at hl 2 rfl) ?_
      refine x_get (x := .ref (ad 2)) hE hK hP 0 (by decide) (yG_9 rfl) rfl hin9 2 (by decide) mw_1336 rfl dX9_tasteOf_8 ?_
      refine lv_iload_n hE.1 hE.2.1 dX9_tasteOf_11 rfl (lv_at hl 4 rfl) ?_
      refine x_iald (j := iI (z_2)) hE hK hP 2 (by decide) (yG_10 rfl) (iI_in (n := 4) (by omega)) dX9_tasteOf_12 ?_
      obtain ⟨z3, hz3, ez3⟩ := YI_a2 hI ((iI (z_2)).toNatClampNeg)
      refine x_top ez3 ?_
      refine s_icmp_ge (a := y1_4) (b := z3) (tgt := 71) hE.1 hE.2.1 (by omega) (by omega) dX9_tasteOf_13 (by decide) (fun c4 => ?_) (fun c4 => ?_)
      · skip
        refine lv_iload_n hE.1 hE.2.1 dX9_tasteOf_71 rfl (lv_at hl 1 rfl) ?_
        exact kr _ _ _ rfl ⟨y1_3, by omega, rfl⟩ dX9_tasteOf_72
      · skip
        refine lv_aload_n hE.1 hE.2.1 dX9_tasteOf_16 rfl (lv_at hl 2 rfl) ?_
        refine lv_iload_n hE.1 hE.2.1 dX9_tasteOf_17 rfl (lv_at hl 4 rfl) ?_
        refine lv_iload hE.1 hE.2.1 dX9_tasteOf_18 (lv_at hl 0 rfl) ?_
        refine x_vp (nn := 2) (As := [.int (iI (z_2)), .int (iI (y1_4))]) (rest := []) hE (s_X9_cellOf l D K ad v ar al hI  (z_2) (by omega) (y1_4) (by omega)) wPre_blind (wPre_now hK hN hP) (x_recv hK hP 0 (by decide) (yG_9 rfl) rfl) rfl mw_1814 mw_1816 mw_89 mw_123 mw_1817 (by decide +kernel) ⟨by decide, by decide⟩ hl.1 rfl (Nat.le_of_ble_eq_true rfl) ⟨Nat.zero_le _, Nat.zero_le _⟩ dX9_tasteOf_20 (fun r5 hr5 => ?_)
        obtain ⟨z5, hz5, rfl⟩ := hr5
        refine lv_istore (lv' := [(5, .int (iI (z5))), (4, .int (iI (y1_4))), (3, .int (iI (y1_3))), (0, .ref (ad 0)), (1, .int (iI (z_1))), (2, .int (iI (z_2)))]) hE.1 hE.2.1 dX9_tasteOf_23 hl (by decide) rfl (fun ls hl => ?_)
        refine lv_iload_n hE.1 hE.2.1 dX9_tasteOf_25 rfl (lv_at hl 2 rfl) ?_
        refine lv_aload_n hE.1 hE.2.1 dX9_tasteOf_26 rfl (lv_at hl 3 rfl) ?_
        refine lv_iload hE.1 hE.2.1 dX9_tasteOf_27 (lv_at hl 0 rfl) ?_
        refine x_vp (nn := 1) (As := [.int (iI (z5))]) (rest := [.int (iI (y1_3))]) hE (s_X9_pointsOf l D K ad v ar al hI  (z5) (by omega)) wPre_blind (wPre_now hK hN hP) (x_recv hK hP 0 (by decide) (yG_9 rfl) rfl) rfl mw_1650 mw_1652 mw_72 mw_123 mw_1653 (by decide +kernel) ⟨by decide, by decide⟩ hl.1 rfl (Nat.le_of_ble_eq_true rfl) ⟨Nat.zero_le _, Nat.zero_le _⟩ dX9_tasteOf_29 (fun r6 hr6 => ?_)
        obtain ⟨z6, hz6, rfl⟩ := hr6
        refine lv_aload_n hE.1 hE.2.1 dX9_tasteOf_32 rfl (lv_at hl 3 rfl) ?_
        refine x_get (x := .ref (ad 9)) hE hK hP 0 (by decide) (yG_9 rfl) rfl hin9 19 (by decide) mw_1353 rfl dX9_tasteOf_33 ?_
        refine lv_iconst (v := iI (2)) hE.1 hE.2.1 dX9_tasteOf_36 (by decide) ?_
        refine lv_iload_n hE.1 hE.2.1 dX9_tasteOf_37 rfl (lv_at hl 4 rfl) ?_
        refine lv_imul hE.1 hE.2.1 dX9_tasteOf_38 ?_
        refine x_top (y := iI (2 * z_1)) ((iI_mul (2) (z_1)).trans (congrArg iI (by omega))) ?_
        refine lv_iconst (v := iI (1)) hE.1 hE.2.1 dX9_tasteOf_39 (by decide) ?_
        refine lv_iadd hE.1 hE.2.1 dX9_tasteOf_40 ?_
        refine x_top (y := iI (2 * z_1 + 1)) ((iI_add (2 * z_1) (1)).trans (congrArg iI (by omega))) ?_
        refine x_iald (j := iI (2 * z_1 + 1)) hE hK hP 9 (by decide) (yG_10 rfl) (iI_in (n := 80) (by omega)) dX9_tasteOf_41 ?_
        obtain ⟨z8, hz8, ez8⟩ := iI_of (ar 9 (iI (2 * z_1 + 1)).toNatClampNeg)
        refine x_top ez8 ?_
        refine lv_iload hE.1 hE.2.1 dX9_tasteOf_42 (lv_at hl 0 rfl) ?_
        refine x_sp (nn := 2) (As := [.int (iI (z8)), .int (iI (z5))]) (rest := [.int (iI (z6)), .int (iI (y1_3))]) hE (s_X9_isBit l (z8) (by omega) (z5) (by omega)) tt_blind (fun _ _ _ => trivial) rfl mw_1683 mw_1684 mw_123 mw_1685 (by decide +kernel) ⟨by decide, by decide⟩ hl.1 rfl (Nat.le_of_ble_eq_true rfl) ⟨Nat.zero_le _, Nat.zero_le _⟩ dX9_tasteOf_44 (fun r9 hr9 => ?_)
        obtain ⟨z9, hz9, rfl⟩ := hr9
        refine s_if_eq (a := z9) (tgt := 61) hE.1 hE.2.1 (by omega) dX9_tasteOf_47 (by decide) (fun c10 => ?_) (fun c10 => ?_)
        · skip
          refine lv_iconst (v := iI (0)) hE.1 hE.2.1 dX9_tasteOf_61 (by decide) ?_
          refine lv_iadd hE.1 hE.2.1 dX9_tasteOf_62 ?_
          refine x_top (y := iI (z6)) ((iI_add (z6) (0)).trans (congrArg iI (by omega))) ?_
          refine lv_iadd hE.1 hE.2.1 dX9_tasteOf_63 ?_
          obtain ⟨z11, hz11, ez11⟩ := iI_of (iI (y1_3) + iI (z6))
          refine x_top ez11 ?_
          refine lv_istore_n (lv' := [(3, .int (iI (z11))), (5, .int (iI (z5))), (4, .int (iI (y1_4))), (0, .ref (ad 0)), (1, .int (iI (z_1))), (2, .int (iI (z_2)))]) hE.1 hE.2.1 dX9_tasteOf_64 rfl hl (by decide) rfl (fun ls hl => ?_)
          refine lv_iinc (v := iI (y1_4 + 1)) (lv' := [(4, .int (iI (y1_4 + 1))), (3, .int (iI (z11))), (5, .int (iI (z5))), (0, .ref (ad 0)), (1, .int (iI (z_1))), (2, .int (iI (z_2)))]) hE.1 hE.2.1 dX9_tasteOf_65 hl (k := 2) rfl ((iI_add (y1_4) (1)).trans (congrArg iI (by omega))) (by decide) rfl (fun ls hl => ?_)
          refine lv_goto (tgt := 5) hE.1 hE.2.1 dX9_tasteOf_68 (by decide) ?_
          exact ih1 _ (by omega) (y1_4 + 1) (z11) _ rfl (by omega) (by omega) (lv_sub hl [0, 1, 3, 4, 5] rfl)
        · skip
          refine lv_aload_n hE.1 hE.2.1 dX9_tasteOf_50 rfl (lv_at hl 3 rfl) ?_
          refine x_get (x := .ref (ad 9)) hE hK hP 0 (by decide) (yG_9 rfl) rfl hin9 19 (by decide) mw_1353 rfl dX9_tasteOf_51 ?_
          refine lv_iconst (v := iI (2)) hE.1 hE.2.1 dX9_tasteOf_54 (by decide) ?_
          refine lv_iload_n hE.1 hE.2.1 dX9_tasteOf_55 rfl (lv_at hl 4 rfl) ?_
          refine lv_imul hE.1 hE.2.1 dX9_tasteOf_56 ?_
          refine x_top (y := iI (2 * z_1)) ((iI_mul (2) (z_1)).trans (congrArg iI (by omega))) ?_
          refine x_iald (j := iI (2 * z_1)) hE hK hP 9 (by decide) (yG_10 rfl) (iI_in (n := 80) (by omega)) dX9_tasteOf_57 ?_
          obtain ⟨z13, hz13, ez13⟩ := iI_of (ar 9 (iI (2 * z_1)).toNatClampNeg)
          refine x_top ez13 ?_
          refine lv_goto (tgt := 62) hE.1 hE.2.1 dX9_tasteOf_58 (by decide) ?_
          refine lv_iadd hE.1 hE.2.1 dX9_tasteOf_62 ?_
          obtain ⟨z14, hz14, ez14⟩ := iI_of (iI (z6) + iI (z13))
          refine x_top ez14 ?_
          refine lv_iadd hE.1 hE.2.1 dX9_tasteOf_63 ?_
          obtain ⟨z15, hz15, ez15⟩ := iI_of (iI (y1_3) + iI (z14))
          refine x_top ez15 ?_
          refine lv_istore_n (lv' := [(3, .int (iI (z15))), (5, .int (iI (z5))), (4, .int (iI (y1_4))), (0, .ref (ad 0)), (1, .int (iI (z_1))), (2, .int (iI (z_2)))]) hE.1 hE.2.1 dX9_tasteOf_64 rfl hl (by decide) rfl (fun ls hl => ?_)
          refine lv_iinc (v := iI (y1_4 + 1)) (lv' := [(4, .int (iI (y1_4 + 1))), (3, .int (iI (z15))), (5, .int (iI (z5))), (0, .ref (ad 0)), (1, .int (iI (z_1))), (2, .int (iI (z_2)))]) hE.1 hE.2.1 dX9_tasteOf_65 hl (k := 2) rfl ((iI_add (y1_4) (1)).trans (congrArg iI (by omega))) (by decide) rfl (fun ls hl => ?_)
          refine lv_goto (tgt := 5) hE.1 hE.2.1 dX9_tasteOf_68 (by decide) ?_
          exact ih1 _ (by omega) (y1_4 + 1) (z15) _ rfl (by omega) (by omega) (lv_sub hl [0, 1, 3, 4, 5] rfl)
  exact loop1 _ (0) (0) _ rfl (by omega) (by omega) hl

theorem dX9_votes_0 : decode cX9_votes 0 = .ok (.aload_n 0, 1) := by decide +kernel
theorem dX9_votes_1 : decode cX9_votes 1 = .ok (.iconst 0, 1) := by decide +kernel
theorem dX9_votes_2 : decode cX9_votes 2 = .ok (.putfield 81, 3) := by decide +kernel
theorem dX9_votes_5 : decode cX9_votes 5 = .ok (.iload_n 1, 1) := by decide +kernel
theorem dX9_votes_6 : decode cX9_votes 6 = .ok (.invokestatic 90, 3) := by decide +kernel
theorem dX9_votes_9 : decode cX9_votes 9 = .ok (.ifCond .eq 17, 3) := by decide +kernel
theorem dX9_votes_12 : decode cX9_votes 12 = .ok (.iload_n 2, 1) := by decide +kernel
theorem dX9_votes_13 : decode cX9_votes 13 = .ok (.invokestatic 90, 3) := by decide +kernel
theorem dX9_votes_16 : decode cX9_votes 16 = .ok (.ifCond .eq 10, 3) := by decide +kernel
theorem dX9_votes_19 : decode cX9_votes 19 = .ok (.aload_n 0, 1) := by decide +kernel
theorem dX9_votes_20 : decode cX9_votes 20 = .ok (.invokevirtual 301, 3) := by decide +kernel
theorem dX9_votes_23 : decode cX9_votes 23 = .ok (.ifCond .ne 6, 3) := by decide +kernel
theorem dX9_votes_26 : decode cX9_votes 26 = .ok (.bipush (-2), 2) := by decide +kernel
theorem dX9_votes_28 : decode cX9_votes 28 = .ok (.ireturn, 1) := by decide +kernel
theorem dX9_votes_29 : decode cX9_votes 29 = .ok (.aload_n 0, 1) := by decide +kernel
theorem dX9_votes_30 : decode cX9_votes 30 = .ok (.getfield 7, 3) := by decide +kernel
theorem dX9_votes_33 : decode cX9_votes 33 = .ok (.iload_n 1, 1) := by decide +kernel
theorem dX9_votes_34 : decode cX9_votes 34 = .ok (.iaload, 1) := by decide +kernel
theorem dX9_votes_35 : decode cX9_votes 35 = .ok (.iconst (-1), 1) := by decide +kernel
theorem dX9_votes_36 : decode cX9_votes 36 = .ok (.if_icmp .eq 13, 3) := by decide +kernel
theorem dX9_votes_39 : decode cX9_votes 39 = .ok (.aload_n 0, 1) := by decide +kernel
theorem dX9_votes_40 : decode cX9_votes 40 = .ok (.getfield 7, 3) := by decide +kernel
theorem dX9_votes_43 : decode cX9_votes 43 = .ok (.iload_n 2, 1) := by decide +kernel
theorem dX9_votes_44 : decode cX9_votes 44 = .ok (.iaload, 1) := by decide +kernel
theorem dX9_votes_45 : decode cX9_votes 45 = .ok (.iconst (-1), 1) := by decide +kernel
theorem dX9_votes_46 : decode cX9_votes 46 = .ok (.if_icmp .ne 6, 3) := by decide +kernel
theorem dX9_votes_49 : decode cX9_votes 49 = .ok (.bipush (-6), 2) := by decide +kernel
theorem dX9_votes_51 : decode cX9_votes 51 = .ok (.ireturn, 1) := by decide +kernel
theorem dX9_votes_52 : decode cX9_votes 52 = .ok (.aload_n 0, 1) := by decide +kernel
theorem dX9_votes_53 : decode cX9_votes 53 = .ok (.iload_n 1, 1) := by decide +kernel
theorem dX9_votes_54 : decode cX9_votes 54 = .ok (.invokevirtual 439, 3) := by decide +kernel
theorem dX9_votes_57 : decode cX9_votes 57 = .ok (.ifCond .eq 11, 3) := by decide +kernel
theorem dX9_votes_60 : decode cX9_votes 60 = .ok (.aload_n 0, 1) := by decide +kernel
theorem dX9_votes_61 : decode cX9_votes 61 = .ok (.iload_n 2, 1) := by decide +kernel
theorem dX9_votes_62 : decode cX9_votes 62 = .ok (.invokevirtual 439, 3) := by decide +kernel
theorem dX9_votes_65 : decode cX9_votes 65 = .ok (.ifCond .ne 6, 3) := by decide +kernel
theorem dX9_votes_68 : decode cX9_votes 68 = .ok (.bipush (-2), 2) := by decide +kernel
theorem dX9_votes_70 : decode cX9_votes 70 = .ok (.ireturn, 1) := by decide +kernel
theorem dX9_votes_71 : decode cX9_votes 71 = .ok (.iconst 0, 1) := by decide +kernel
theorem dX9_votes_72 : decode cX9_votes 72 = .ok (.istore_n 3, 1) := by decide +kernel
theorem dX9_votes_73 : decode cX9_votes 73 = .ok (.iconst 0, 1) := by decide +kernel
theorem dX9_votes_74 : decode cX9_votes 74 = .ok (.istore 4, 2) := by decide +kernel
theorem dX9_votes_76 : decode cX9_votes 76 = .ok (.iload 4, 2) := by decide +kernel
theorem dX9_votes_78 : decode cX9_votes 78 = .ok (.aload_n 0, 1) := by decide +kernel
theorem dX9_votes_79 : decode cX9_votes 79 = .ok (.getfield 34, 3) := by decide +kernel
theorem dX9_votes_82 : decode cX9_votes 82 = .ok (.iconst 3, 1) := by decide +kernel
theorem dX9_votes_83 : decode cX9_votes 83 = .ok (.iaload, 1) := by decide +kernel
theorem dX9_votes_84 : decode cX9_votes 84 = .ok (.if_icmp .ge 34, 3) := by decide +kernel
theorem dX9_votes_87 : decode cX9_votes 87 = .ok (.iload_n 3, 1) := by decide +kernel
theorem dX9_votes_88 : decode cX9_votes 88 = .ok (.aload_n 0, 1) := by decide +kernel
theorem dX9_votes_89 : decode cX9_votes 89 = .ok (.iload 4, 2) := by decide +kernel
theorem dX9_votes_91 : decode cX9_votes 91 = .ok (.iload_n 1, 1) := by decide +kernel
theorem dX9_votes_92 : decode cX9_votes 92 = .ok (.invokevirtual 442, 3) := by decide +kernel
theorem dX9_votes_95 : decode cX9_votes 95 = .ok (.aload_n 0, 1) := by decide +kernel
theorem dX9_votes_96 : decode cX9_votes 96 = .ok (.iload 4, 2) := by decide +kernel
theorem dX9_votes_98 : decode cX9_votes 98 = .ok (.iload_n 2, 1) := by decide +kernel
theorem dX9_votes_99 : decode cX9_votes 99 = .ok (.invokevirtual 442, 3) := by decide +kernel
theorem dX9_votes_102 : decode cX9_votes 102 = .ok (.if_icmp .le 7, 3) := by decide +kernel
theorem dX9_votes_105 : decode cX9_votes 105 = .ok (.iconst 1, 1) := by decide +kernel
theorem dX9_votes_106 : decode cX9_votes 106 = .ok (.goto 4, 3) := by decide +kernel
theorem dX9_votes_109 : decode cX9_votes 109 = .ok (.iconst 0, 1) := by decide +kernel
theorem dX9_votes_110 : decode cX9_votes 110 = .ok (.iadd, 1) := by decide +kernel
theorem dX9_votes_111 : decode cX9_votes 111 = .ok (.istore_n 3, 1) := by decide +kernel
theorem dX9_votes_112 : decode cX9_votes 112 = .ok (.iinc 4 1, 3) := by decide +kernel
theorem dX9_votes_115 : decode cX9_votes 115 = .ok (.goto (-39), 3) := by decide +kernel
theorem dX9_votes_118 : decode cX9_votes 118 = .ok (.iload_n 3, 1) := by decide +kernel
theorem dX9_votes_119 : decode cX9_votes 119 = .ok (.ireturn, 1) := by decide +kernel
set_option maxHeartbeats 4000000 in
set_option maxRecDepth 100000 in
theorem s_X9_votes (l : Launch) (D : va_G) (K : Nat → ClassId) (ad : Nat → Nat) (v ar : sI) (al : sL) (hI : YI v ar) (z_1 : Int) (hz_1 : -2147483648 ≤ z_1 ∧ z_1 ≤ 2147483647) (z_2 : Int) (hz_2 : -2147483648 ≤ z_2 ∧ z_2 ≤ 2147483647) : Met l yX9_votes (wM yX9_votes cX9_votes 5 (some .int)) (rmD 3) (va_Pc [.ref (ad 0), .int (iI (z_1)), .int (iI (z_2))] (wPre D K ad (yG ad K) 21 v ar al)) (va_Qi (fun (r : Int32) (u : sT) => (∃ z : Int, (-2147483648 ≤ z ∧ z ≤ 2147483647) ∧ r = iI z) ∧ YI u.1 u.2.1 ∧ (∀ i j : Nat, (i, j) ∉ ([(0, 0)] : List (Nat × Nat)) → u.1 i j = v i j) ∧ (∀ i : Nat, i ∉ ([] : List Nat) → u.2.1 i = ar i) ∧ (∀ i : Nat, i ∉ ([] : List Nat) → u.2.2 i = al i)) (wB D ad (yG ad K) 21) (inW ad 21)) 0 0 (inW ad 21) := by
  refine s_metI (by decide) (Nat.le_of_ble_eq_true rfl) ?_
  intro p e s m below meth c ls args Q hE hB hl kr
  have hE : CallFix p m c cX9_votes 5 s args tbG "TaleCourtModel" := hE
  obtain ⟨hP, hK, hN⟩ := hB
  have hS : va_S (inW ad 21) s.heap s.heap [] := va_S.rf
  have hl : lv_has ls 5 [(0, .ref (ad 0)), (1, .int (iI (z_1))), (2, .int (iI (z_2)))] := hl
  obtain ⟨z1, hz1, ez1⟩ := iI_of (ar 6 0)
  obtain ⟨z2, hz2, ez2⟩ := YI_h2 hI 2 (by decide)
  obtain ⟨z3, hz3, ez3⟩ := YI_h5 hI 5 (by decide)
  obtain ⟨z4, hz4, ez4⟩ := YI_h0 hI 0 (by decide)
  have ht0 := YI_t0 hI ez1 (by omega) ez2 (by omega) ez3 (by omega) ez4 (by omega)
  refine lv_aload_n hE.1 hE.2.1 dX9_votes_0 rfl (lv_at hl 0 rfl) ?_
  refine lv_iconst (v := iI (0)) hE.1 hE.2.1 dX9_votes_1 (by decide) ?_
  refine x_put (x := iI (0)) hE hK hN hP hS 0 (by decide) (yG_9 rfl) rfl hin9 tyX9 tyX9_ok nmX9 0 (by decide) mw_1334 rfl rfl rfl (Nat.le_of_ble_eq_true rfl) (yG_9 rfl) dX9_votes_2 (fun v5 H locs hv5 hP hS => ?_)
  have hI := YI_putN hI hv5 (by decide)
  refine lv_iload_n hE.1 hE.2.1 dX9_votes_5 rfl (lv_at hl 1 rfl) ?_
  refine x_sp (nn := 1) (As := [.int (iI (z_1))]) (rest := []) hE (s_X9_isSlot l (z_1) (by omega)) tt_blind (fun _ _ _ => trivial) rfl mw_1490 mw_1491 mw_123 mw_1492 (by decide +kernel) ⟨by decide, by decide⟩ hl.1 rfl (Nat.le_of_ble_eq_true rfl) ⟨Nat.zero_le _, Nat.zero_le _⟩ dX9_votes_6 (fun r6 hr6 => ?_)
  obtain ⟨z6, hz6, rfl⟩ := hr6
  refine s_if_eq (a := z6) (tgt := 26) hE.1 hE.2.1 (by omega) dX9_votes_9 (by decide) (fun c7 => ?_) (fun c7 => ?_)
  · skip
    refine lv_bipush (v := iI (-2)) hE.1 hE.2.1 dX9_votes_26 (by decide) ?_
    exact kr _ v5 ar al _ _ _ _ rfl ⟨⟨-2, by omega, rfl⟩, hI, fun i j h => (up_oth hv5 (fun q => h (by rcases q with ⟨rfl, rfl⟩; decide))), fun i h => rfl, fun i h => rfl⟩ hP hS dX9_votes_28
  · skip
    refine lv_iload_n hE.1 hE.2.1 dX9_votes_12 rfl (lv_at hl 2 rfl) ?_
    refine x_sp (nn := 1) (As := [.int (iI (z_2))]) (rest := []) hE (s_X9_isSlot l (z_2) (by omega)) tt_blind (fun _ _ _ => trivial) rfl mw_1490 mw_1491 mw_123 mw_1492 (by decide +kernel) ⟨by decide, by decide⟩ hl.1 rfl (Nat.le_of_ble_eq_true rfl) ⟨Nat.zero_le _, Nat.zero_le _⟩ dX9_votes_13 (fun r8 hr8 => ?_)
    obtain ⟨z8, hz8, rfl⟩ := hr8
    refine s_if_eq (a := z8) (tgt := 26) hE.1 hE.2.1 (by omega) dX9_votes_16 (by decide) (fun c9 => ?_) (fun c9 => ?_)
    · skip
      refine lv_bipush (v := iI (-2)) hE.1 hE.2.1 dX9_votes_26 (by decide) ?_
      exact kr _ v5 ar al _ _ _ _ rfl ⟨⟨-2, by omega, rfl⟩, hI, fun i j h => (up_oth hv5 (fun q => h (by rcases q with ⟨rfl, rfl⟩; decide))), fun i h => rfl, fun i h => rfl⟩ hP hS dX9_votes_28
    · skip
      refine lv_aload_n hE.1 hE.2.1 dX9_votes_19 rfl (lv_at hl 0 rfl) ?_
      refine x_vp (nn := 0) (As := []) (rest := []) hE (s_X9_isCourt l D K ad v5 ar al hI (z1) (by omega) ez1 ) wPre_blind (wPre_now hK hN hP) (x_recv hK hP 0 (by decide) (yG_9 rfl) rfl) rfl mw_1718 mw_1720 mw_79 mw_123 mw_1721 (by decide +kernel) ⟨by decide, by decide⟩ hl.1 rfl (Nat.le_of_ble_eq_true rfl) ⟨Nat.zero_le _, Nat.zero_le _⟩ dX9_votes_20 (fun r10 hr10 => ?_)
      obtain ⟨z10, hz10, rfl⟩ := hr10
      refine s_if_ne (a := z10) (tgt := 29) hE.1 hE.2.1 (by omega) dX9_votes_23 (by decide) (fun c11 => ?_) (fun c11 => ?_)
      · skip
        refine lv_aload_n hE.1 hE.2.1 dX9_votes_29 rfl (lv_at hl 0 rfl) ?_
        refine x_get (x := .ref (ad 1)) hE hK hP 0 (by decide) (yG_9 rfl) rfl hin9 1 (by decide) mw_1335 rfl dX9_votes_30 ?_
        refine lv_iload_n hE.1 hE.2.1 dX9_votes_33 rfl (lv_at hl 1 rfl) ?_
        refine x_iald (j := iI (z_1)) hE hK hP 1 (by decide) (yG_10 rfl) (iI_in (n := 4) (by omega)) dX9_votes_34 ?_
        obtain ⟨z13, hz13, ez13⟩ := YI_a1 hI ((iI (z_1)).toNatClampNeg)
        refine x_top ez13 ?_
        refine lv_iconst (v := iI (-1)) hE.1 hE.2.1 dX9_votes_35 (by decide) ?_
        refine s_icmp_eq (a := z13) (b := -1) (tgt := 49) hE.1 hE.2.1 (by omega) (by omega) dX9_votes_36 (by decide) (fun c14 => ?_) (fun c14 => ?_)
        · skip
          refine lv_bipush (v := iI (-6)) hE.1 hE.2.1 dX9_votes_49 (by decide) ?_
          exact kr _ v5 ar al _ _ _ _ rfl ⟨⟨-6, by omega, rfl⟩, hI, fun i j h => (up_oth hv5 (fun q => h (by rcases q with ⟨rfl, rfl⟩; decide))), fun i h => rfl, fun i h => rfl⟩ hP hS dX9_votes_51
        · skip
          refine lv_aload_n hE.1 hE.2.1 dX9_votes_39 rfl (lv_at hl 0 rfl) ?_
          refine x_get (x := .ref (ad 1)) hE hK hP 0 (by decide) (yG_9 rfl) rfl hin9 1 (by decide) mw_1335 rfl dX9_votes_40 ?_
          refine lv_iload_n hE.1 hE.2.1 dX9_votes_43 rfl (lv_at hl 2 rfl) ?_
          refine x_iald (j := iI (z_2)) hE hK hP 1 (by decide) (yG_10 rfl) (iI_in (n := 4) (by omega)) dX9_votes_44 ?_
          obtain ⟨z16, hz16, ez16⟩ := YI_a1 hI ((iI (z_2)).toNatClampNeg)
          refine x_top ez16 ?_
          refine lv_iconst (v := iI (-1)) hE.1 hE.2.1 dX9_votes_45 (by decide) ?_
          refine s_icmp_ne (a := z16) (b := -1) (tgt := 52) hE.1 hE.2.1 (by omega) (by omega) dX9_votes_46 (by decide) (fun c17 => ?_) (fun c17 => ?_)
          · skip
            refine lv_aload_n hE.1 hE.2.1 dX9_votes_52 rfl (lv_at hl 0 rfl) ?_
            refine lv_iload_n hE.1 hE.2.1 dX9_votes_53 rfl (lv_at hl 1 rfl) ?_
            refine x_vp (nn := 1) (As := [.int (iI (z_1))]) (rest := []) hE (s_X9_areMotifs l D K ad v5 ar al hI  (z_1) (by omega)) wPre_blind (wPre_now hK hN hP) (x_recv hK hP 0 (by decide) (yG_9 rfl) rfl) rfl mw_2025 mw_2027 mw_109 mw_123 mw_2028 (by decide +kernel) ⟨by decide, by decide⟩ hl.1 rfl (Nat.le_of_ble_eq_true rfl) ⟨Nat.zero_le _, Nat.zero_le _⟩ dX9_votes_54 (fun r18 hr18 => ?_)
            obtain ⟨z18, hz18, rfl⟩ := hr18
            refine s_if_eq (a := z18) (tgt := 68) hE.1 hE.2.1 (by omega) dX9_votes_57 (by decide) (fun c19 => ?_) (fun c19 => ?_)
            · skip
              refine lv_bipush (v := iI (-2)) hE.1 hE.2.1 dX9_votes_68 (by decide) ?_
              exact kr _ v5 ar al _ _ _ _ rfl ⟨⟨-2, by omega, rfl⟩, hI, fun i j h => (up_oth hv5 (fun q => h (by rcases q with ⟨rfl, rfl⟩; decide))), fun i h => rfl, fun i h => rfl⟩ hP hS dX9_votes_70
            · skip
              refine lv_aload_n hE.1 hE.2.1 dX9_votes_60 rfl (lv_at hl 0 rfl) ?_
              refine lv_iload_n hE.1 hE.2.1 dX9_votes_61 rfl (lv_at hl 2 rfl) ?_
              refine x_vp (nn := 1) (As := [.int (iI (z_2))]) (rest := []) hE (s_X9_areMotifs l D K ad v5 ar al hI  (z_2) (by omega)) wPre_blind (wPre_now hK hN hP) (x_recv hK hP 0 (by decide) (yG_9 rfl) rfl) rfl mw_2025 mw_2027 mw_109 mw_123 mw_2028 (by decide +kernel) ⟨by decide, by decide⟩ hl.1 rfl (Nat.le_of_ble_eq_true rfl) ⟨Nat.zero_le _, Nat.zero_le _⟩ dX9_votes_62 (fun r20 hr20 => ?_)
              obtain ⟨z20, hz20, rfl⟩ := hr20
              refine s_if_ne (a := z20) (tgt := 71) hE.1 hE.2.1 (by omega) dX9_votes_65 (by decide) (fun c21 => ?_) (fun c21 => ?_)
              · skip
                refine lv_iconst (v := iI (0)) hE.1 hE.2.1 dX9_votes_71 (by decide) ?_
                refine lv_istore_n (lv' := [(3, .int (iI (0))), (0, .ref (ad 0)), (1, .int (iI (z_1))), (2, .int (iI (z_2)))]) hE.1 hE.2.1 dX9_votes_72 rfl hl (by decide) rfl (fun ls hl => ?_)
                refine lv_iconst (v := iI (0)) hE.1 hE.2.1 dX9_votes_73 (by decide) ?_
                refine lv_istore (lv' := [(4, .int (iI (0))), (3, .int (iI (0))), (0, .ref (ad 0)), (1, .int (iI (z_1))), (2, .int (iI (z_2)))]) hE.1 hE.2.1 dX9_votes_74 hl (by decide) rfl (fun ls hl => ?_)
                have loop22 : ∀ (k22 : Nat) (y22_4 : Int) (y22_3 : Int) (vl22 : sI) (all22 : sL) (H : Heap) (locs : List Loc) (ls : Array Slot), (8 - y22_4).toNat = k22 → (0 ≤ y22_4 ∧ y22_4 ≤ 8) → (-2147483648 ≤ y22_3 ∧ y22_3 ≤ 2147483647) → YI vl22 ar → (∀ i j : Nat, (i, j) ∉ ([] : List (Nat × Nat)) → vl22 i j = v5 i j) → (∀ i : Nat, i ∉ ([] : List Nat) → all22 i = al i) → va_P D xcl (wW ad (yG ad K) 21 vl22 ar all22) H → va_S (inW ad 21) s.heap H locs → lv_has ls 5 [(4, .int (iI (y22_4))), (3, .int (iI (y22_3))), (0, .ref (ad 0)), (1, .int (iI (z_1))), (2, .int (iI (z_2)))] → W p l e (rmD 3) s m args below meth c H locs 0 0 Q (F0 m 76 ls []) := by
                  intro k22
                  induction k22 using Nat.strongRecOn with
                  | _ k22 ih22 =>
                    intro y22_4 y22_3  vl22 all22 H locs ls hk22 hb_y22_4 hb_y22_3 hI hfr22 hfl22 hP hS hl
                    refine lv_iload hE.1 hE.2.1 dX9_votes_76 (lv_at hl 0 rfl) ?_
                    refine lv_aload_n hE.1 hE.2.1 dX9_votes_78 rfl (lv_at hl 2 rfl) ?_
                    refine x_get (x := .ref (ad 7)) hE hK hP 0 (by decide) (yG_9 rfl) rfl hin9 17 (by decide) mw_1351 rfl dX9_votes_79 ?_
                    refine lv_iconst (v := iI (3)) hE.1 hE.2.1 dX9_votes_82 (by decide) ?_
                    refine x_iald (j := iI (3)) hE hK hP 7 (by decide) (yG_10 rfl) (iI_in (n := 30) (by omega)) dX9_votes_83 ?_
                    obtain ⟨z24, hz24, ez24⟩ := YI_h3 hI 3 (by decide)
                    refine x_top (y := iI (z24)) (by rw [show (iI (3)).toNatClampNeg = 3 from by decide]; exact ez24) ?_
                    refine s_icmp_ge (a := y22_4) (b := z24) (tgt := 118) hE.1 hE.2.1 (by omega) (by omega) dX9_votes_84 (by decide) (fun c25 => ?_) (fun c25 => ?_)
                    · skip
                      refine lv_iload_n hE.1 hE.2.1 dX9_votes_118 rfl (lv_at hl 1 rfl) ?_
                      exact kr _ vl22 ar all22 _ _ _ _ rfl ⟨⟨y22_3, by omega, rfl⟩, hI, fun i j h => ((hfr22 i j (fun q => h (mem_sub (by decide) q))).trans (up_oth hv5 (fun q => h (by rcases q with ⟨rfl, rfl⟩; decide)))), fun i h => rfl, fun i h => (hfl22 i (fun q => h (mem_subn (by decide) q)))⟩ hP hS dX9_votes_119
                    · skip
                      refine lv_iload_n hE.1 hE.2.1 dX9_votes_87 rfl (lv_at hl 1 rfl) ?_
                      refine lv_aload_n hE.1 hE.2.1 dX9_votes_88 rfl (lv_at hl 2 rfl) ?_
                      refine lv_iload hE.1 hE.2.1 dX9_votes_89 (lv_at hl 0 rfl) ?_
                      refine lv_iload_n hE.1 hE.2.1 dX9_votes_91 rfl (lv_at hl 3 rfl) ?_
                      refine x_vp (nn := 2) (As := [.int (iI (y22_4)), .int (iI (z_1))]) (rest := [.int (iI (y22_3))]) hE (s_X9_tasteOf l D K ad vl22 ar all22 hI  (y22_4) (by omega) (z_1) (by omega)) wPre_blind (wPre_now hK hN hP) (x_recv hK hP 0 (by decide) (yG_9 rfl) rfl) rfl mw_2029 mw_2031 mw_110 mw_123 mw_2032 (by decide +kernel) ⟨by decide, by decide⟩ hl.1 rfl (Nat.le_of_ble_eq_true rfl) ⟨Nat.zero_le _, Nat.zero_le _⟩ dX9_votes_92 (fun r26 hr26 => ?_)
                      obtain ⟨z26, hz26, rfl⟩ := hr26
                      refine lv_aload_n hE.1 hE.2.1 dX9_votes_95 rfl (lv_at hl 2 rfl) ?_
                      refine lv_iload hE.1 hE.2.1 dX9_votes_96 (lv_at hl 0 rfl) ?_
                      refine lv_iload_n hE.1 hE.2.1 dX9_votes_98 rfl (lv_at hl 4 rfl) ?_
                      refine x_vp (nn := 2) (As := [.int (iI (y22_4)), .int (iI (z_2))]) (rest := [.int (iI (z26)), .int (iI (y22_3))]) hE (s_X9_tasteOf l D K ad vl22 ar all22 hI  (y22_4) (by omega) (z_2) (by omega)) wPre_blind (wPre_now hK hN hP) (x_recv hK hP 0 (by decide) (yG_9 rfl) rfl) rfl mw_2029 mw_2031 mw_110 mw_123 mw_2032 (by decide +kernel) ⟨by decide, by decide⟩ hl.1 rfl (Nat.le_of_ble_eq_true rfl) ⟨Nat.zero_le _, Nat.zero_le _⟩ dX9_votes_99 (fun r27 hr27 => ?_)
                      obtain ⟨z27, hz27, rfl⟩ := hr27
                      refine s_icmp_le (a := z26) (b := z27) (tgt := 109) hE.1 hE.2.1 (by omega) (by omega) dX9_votes_102 (by decide) (fun c28 => ?_) (fun c28 => ?_)
                      · skip
                        refine lv_iconst (v := iI (0)) hE.1 hE.2.1 dX9_votes_109 (by decide) ?_
                        refine lv_iadd hE.1 hE.2.1 dX9_votes_110 ?_
                        refine x_top (y := iI (y22_3)) ((iI_add (y22_3) (0)).trans (congrArg iI (by omega))) ?_
                        refine lv_istore_n (lv' := [(3, .int (iI (y22_3))), (4, .int (iI (y22_4))), (0, .ref (ad 0)), (1, .int (iI (z_1))), (2, .int (iI (z_2)))]) hE.1 hE.2.1 dX9_votes_111 rfl hl (by decide) rfl (fun ls hl => ?_)
                        refine lv_iinc (v := iI (y22_4 + 1)) (lv' := [(4, .int (iI (y22_4 + 1))), (3, .int (iI (y22_3))), (0, .ref (ad 0)), (1, .int (iI (z_1))), (2, .int (iI (z_2)))]) hE.1 hE.2.1 dX9_votes_112 hl (k := 1) rfl ((iI_add (y22_4) (1)).trans (congrArg iI (by omega))) (by decide) rfl (fun ls hl => ?_)
                        refine lv_goto (tgt := 76) hE.1 hE.2.1 dX9_votes_115 (by decide) ?_
                        exact ih22 _ (by omega) (y22_4 + 1) (y22_3)  vl22  all22 _ _ _ rfl (by omega) (by omega)  hI (fun i j h => (hfr22 i j h)) (fun i h => (hfl22 i h)) hP hS (lv_sub hl [0, 1, 2, 3, 4] rfl)
                      · skip
                        refine lv_iconst (v := iI (1)) hE.1 hE.2.1 dX9_votes_105 (by decide) ?_
                        refine lv_goto (tgt := 110) hE.1 hE.2.1 dX9_votes_106 (by decide) ?_
                        refine lv_iadd hE.1 hE.2.1 dX9_votes_110 ?_
                        obtain ⟨z29, hz29, ez29⟩ := iI_of (iI (y22_3) + iI (1))
                        refine x_top ez29 ?_
                        refine lv_istore_n (lv' := [(3, .int (iI (z29))), (4, .int (iI (y22_4))), (0, .ref (ad 0)), (1, .int (iI (z_1))), (2, .int (iI (z_2)))]) hE.1 hE.2.1 dX9_votes_111 rfl hl (by decide) rfl (fun ls hl => ?_)
                        refine lv_iinc (v := iI (y22_4 + 1)) (lv' := [(4, .int (iI (y22_4 + 1))), (3, .int (iI (z29))), (0, .ref (ad 0)), (1, .int (iI (z_1))), (2, .int (iI (z_2)))]) hE.1 hE.2.1 dX9_votes_112 hl (k := 1) rfl ((iI_add (y22_4) (1)).trans (congrArg iI (by omega))) (by decide) rfl (fun ls hl => ?_)
                        refine lv_goto (tgt := 76) hE.1 hE.2.1 dX9_votes_115 (by decide) ?_
                        exact ih22 _ (by omega) (y22_4 + 1) (z29)  vl22  all22 _ _ _ rfl (by omega) (by omega)  hI (fun i j h => (hfr22 i j h)) (fun i h => (hfl22 i h)) hP hS (lv_sub hl [0, 1, 2, 3, 4] rfl)
                exact loop22 _ (0) (0)  v5  al _ _ _ rfl (by omega) (by omega)  hI (fun _ _ _ => rfl) (fun _ _ => rfl) hP hS hl
              · skip
                refine lv_bipush (v := iI (-2)) hE.1 hE.2.1 dX9_votes_68 (by decide) ?_
                exact kr _ v5 ar al _ _ _ _ rfl ⟨⟨-2, by omega, rfl⟩, hI, fun i j h => (up_oth hv5 (fun q => h (by rcases q with ⟨rfl, rfl⟩; decide))), fun i h => rfl, fun i h => rfl⟩ hP hS dX9_votes_70
          · skip
            refine lv_bipush (v := iI (-6)) hE.1 hE.2.1 dX9_votes_49 (by decide) ?_
            exact kr _ v5 ar al _ _ _ _ rfl ⟨⟨-6, by omega, rfl⟩, hI, fun i j h => (up_oth hv5 (fun q => h (by rcases q with ⟨rfl, rfl⟩; decide))), fun i h => rfl, fun i h => rfl⟩ hP hS dX9_votes_51
      · skip
        refine lv_bipush (v := iI (-2)) hE.1 hE.2.1 dX9_votes_26 (by decide) ?_
        exact kr _ v5 ar al _ _ _ _ rfl ⟨⟨-2, by omega, rfl⟩, hI, fun i j h => (up_oth hv5 (fun q => h (by rcases q with ⟨rfl, rfl⟩; decide))), fun i h => rfl, fun i h => rfl⟩ hP hS dX9_votes_28

theorem dX9_taste_0 : decode cX9_taste 0 = .ok (.aload_n 0, 1) := by decide +kernel
theorem dX9_taste_1 : decode cX9_taste 1 = .ok (.iconst 0, 1) := by decide +kernel
theorem dX9_taste_2 : decode cX9_taste 2 = .ok (.putfield 81, 3) := by decide +kernel
theorem dX9_taste_5 : decode cX9_taste 5 = .ok (.iload_n 1, 1) := by decide +kernel
theorem dX9_taste_6 : decode cX9_taste 6 = .ok (.i2l, 1) := by decide +kernel
theorem dX9_taste_7 : decode cX9_taste 7 = .ok (.lconst 0, 1) := by decide +kernel
theorem dX9_taste_8 : decode cX9_taste 8 = .ok (.aload_n 0, 1) := by decide +kernel
theorem dX9_taste_9 : decode cX9_taste 9 = .ok (.getfield 34, 3) := by decide +kernel
theorem dX9_taste_12 : decode cX9_taste 12 = .ok (.iconst 3, 1) := by decide +kernel
theorem dX9_taste_13 : decode cX9_taste 13 = .ok (.iaload, 1) := by decide +kernel
theorem dX9_taste_14 : decode cX9_taste 14 = .ok (.iconst 1, 1) := by decide +kernel
theorem dX9_taste_15 : decode cX9_taste 15 = .ok (.isub, 1) := by decide +kernel
theorem dX9_taste_16 : decode cX9_taste 16 = .ok (.i2l, 1) := by decide +kernel
theorem dX9_taste_17 : decode cX9_taste 17 = .ok (.invokestatic 86, 3) := by decide +kernel
theorem dX9_taste_20 : decode cX9_taste 20 = .ok (.ifCond .eq 10, 3) := by decide +kernel
theorem dX9_taste_23 : decode cX9_taste 23 = .ok (.iload_n 2, 1) := by decide +kernel
theorem dX9_taste_24 : decode cX9_taste 24 = .ok (.invokestatic 90, 3) := by decide +kernel
theorem dX9_taste_27 : decode cX9_taste 27 = .ok (.ifCond .ne 7, 3) := by decide +kernel
theorem dX9_taste_30 : decode cX9_taste 30 = .ok (.sipush (-1000), 3) := by decide +kernel
theorem dX9_taste_33 : decode cX9_taste 33 = .ok (.ireturn, 1) := by decide +kernel
theorem dX9_taste_34 : decode cX9_taste 34 = .ok (.aload_n 0, 1) := by decide +kernel
theorem dX9_taste_35 : decode cX9_taste 35 = .ok (.getfield 7, 3) := by decide +kernel
theorem dX9_taste_38 : decode cX9_taste 38 = .ok (.iload_n 2, 1) := by decide +kernel
theorem dX9_taste_39 : decode cX9_taste 39 = .ok (.iaload, 1) := by decide +kernel
theorem dX9_taste_40 : decode cX9_taste 40 = .ok (.iconst (-1), 1) := by decide +kernel
theorem dX9_taste_41 : decode cX9_taste 41 = .ok (.if_icmp .ne 7, 3) := by decide +kernel
theorem dX9_taste_44 : decode cX9_taste 44 = .ok (.sipush (-6000), 3) := by decide +kernel
theorem dX9_taste_47 : decode cX9_taste 47 = .ok (.ireturn, 1) := by decide +kernel
theorem dX9_taste_48 : decode cX9_taste 48 = .ok (.aload_n 0, 1) := by decide +kernel
theorem dX9_taste_49 : decode cX9_taste 49 = .ok (.iload_n 2, 1) := by decide +kernel
theorem dX9_taste_50 : decode cX9_taste 50 = .ok (.invokevirtual 439, 3) := by decide +kernel
theorem dX9_taste_53 : decode cX9_taste 53 = .ok (.ifCond .eq 12, 3) := by decide +kernel
theorem dX9_taste_56 : decode cX9_taste 56 = .ok (.aload_n 0, 1) := by decide +kernel
theorem dX9_taste_57 : decode cX9_taste 57 = .ok (.iload_n 1, 1) := by decide +kernel
theorem dX9_taste_58 : decode cX9_taste 58 = .ok (.iload_n 2, 1) := by decide +kernel
theorem dX9_taste_59 : decode cX9_taste 59 = .ok (.invokevirtual 442, 3) := by decide +kernel
theorem dX9_taste_62 : decode cX9_taste 62 = .ok (.goto 6, 3) := by decide +kernel
theorem dX9_taste_65 : decode cX9_taste 65 = .ok (.sipush (-1000), 3) := by decide +kernel
theorem dX9_taste_68 : decode cX9_taste 68 = .ok (.ireturn, 1) := by decide +kernel
set_option maxHeartbeats 4000000 in
set_option maxRecDepth 100000 in
theorem s_X9_taste (l : Launch) (D : va_G) (K : Nat → ClassId) (ad : Nat → Nat) (v ar : sI) (al : sL) (hI : YI v ar) (z_1 : Int) (hz_1 : -2147483648 ≤ z_1 ∧ z_1 ≤ 2147483647) (z_2 : Int) (hz_2 : -2147483648 ≤ z_2 ∧ z_2 ≤ 2147483647) : Met l yX9_taste (wM yX9_taste cX9_taste 3 (some .int)) (rmD 3) (va_Pc [.ref (ad 0), .int (iI (z_1)), .int (iI (z_2))] (wPre D K ad (yG ad K) 21 v ar al)) (va_Qi (fun (r : Int32) (u : sT) => (∃ z : Int, (-2147483648 ≤ z ∧ z ≤ 2147483647) ∧ r = iI z) ∧ YI u.1 u.2.1 ∧ (∀ i j : Nat, (i, j) ∉ ([(0, 0)] : List (Nat × Nat)) → u.1 i j = v i j) ∧ (∀ i : Nat, i ∉ ([] : List Nat) → u.2.1 i = ar i) ∧ (∀ i : Nat, i ∉ ([] : List Nat) → u.2.2 i = al i)) (wB D ad (yG ad K) 21) (inW ad 21)) 0 0 (inW ad 21) := by
  refine s_metI (by decide) (Nat.le_of_ble_eq_true rfl) ?_
  intro p e s m below meth c ls args Q hE hB hl kr
  have hE : CallFix p m c cX9_taste 3 s args tbG "TaleCourtModel" := hE
  obtain ⟨hP, hK, hN⟩ := hB
  have hS : va_S (inW ad 21) s.heap s.heap [] := va_S.rf
  have hl : lv_has ls 3 [(0, .ref (ad 0)), (1, .int (iI (z_1))), (2, .int (iI (z_2)))] := hl
  obtain ⟨z1, hz1, ez1⟩ := iI_of (ar 6 0)
  obtain ⟨z2, hz2, ez2⟩ := YI_h2 hI 2 (by decide)
  obtain ⟨z3, hz3, ez3⟩ := YI_h5 hI 5 (by decide)
  obtain ⟨z4, hz4, ez4⟩ := YI_h0 hI 0 (by decide)
  have ht0 := YI_t0 hI ez1 (by omega) ez2 (by omega) ez3 (by omega) ez4 (by omega)
  refine lv_aload_n hE.1 hE.2.1 dX9_taste_0 rfl (lv_at hl 0 rfl) ?_
  refine lv_iconst (v := iI (0)) hE.1 hE.2.1 dX9_taste_1 (by decide) ?_
  refine x_put (x := iI (0)) hE hK hN hP hS 0 (by decide) (yG_9 rfl) rfl hin9 tyX9 tyX9_ok nmX9 0 (by decide) mw_1334 rfl rfl rfl (Nat.le_of_ble_eq_true rfl) (yG_9 rfl) dX9_taste_2 (fun v5 H locs hv5 hP hS => ?_)
  have hI := YI_putN hI hv5 (by decide)
  refine lv_iload_n hE.1 hE.2.1 dX9_taste_5 rfl (lv_at hl 1 rfl) ?_
  refine lv_i2l (v := lI (z_1)) hE.1 hE.2.1 dX9_taste_6 (iI_i2l (by omega)) ?_
  refine lv_lconst (v := lI (0)) hE.1 hE.2.1 dX9_taste_7 (by decide) ?_
  refine lv_aload_n hE.1 hE.2.1 dX9_taste_8 rfl (lv_at hl 0 rfl) ?_
  refine x_get (x := .ref (ad 7)) hE hK hP 0 (by decide) (yG_9 rfl) rfl hin9 17 (by decide) mw_1351 rfl dX9_taste_9 ?_
  refine lv_iconst (v := iI (3)) hE.1 hE.2.1 dX9_taste_12 (by decide) ?_
  refine x_iald (j := iI (3)) hE hK hP 7 (by decide) (yG_10 rfl) (iI_in (n := 30) (by omega)) dX9_taste_13 ?_
  obtain ⟨z7, hz7, ez7⟩ := YI_h3 hI 3 (by decide)
  refine x_top (y := iI (z7)) (by rw [show (iI (3)).toNatClampNeg = 3 from by decide]; exact ez7) ?_
  refine lv_iconst (v := iI (1)) hE.1 hE.2.1 dX9_taste_14 (by decide) ?_
  refine lv_isub hE.1 hE.2.1 dX9_taste_15 ?_
  refine x_top (y := iI (z7 - 1)) ((iI_sub (z7) (1)).trans (congrArg iI (by omega))) ?_
  refine lv_i2l (v := lI (z7 - 1)) hE.1 hE.2.1 dX9_taste_16 (iI_i2l (by omega)) ?_
  refine x_sp (nn := 3) (As := [.long (lI (z_1)), .long (lI (0)), .long (lI (z7 - 1))]) (rest := []) hE (s_X9_in l (z_1) (by omega) (0) (by omega) (z7 - 1) (by omega)) tt_blind (fun _ _ _ => trivial) rfl mw_1494 mw_1495 mw_123 mw_1496 (by decide +kernel) ⟨by decide, by decide⟩ hl.1 rfl (Nat.le_of_ble_eq_true rfl) ⟨Nat.zero_le _, Nat.zero_le _⟩ dX9_taste_17 (fun r8 hr8 => ?_)
  obtain ⟨z8, hz8, rfl⟩ := hr8
  refine s_if_eq (a := z8) (tgt := 30) hE.1 hE.2.1 (by omega) dX9_taste_20 (by decide) (fun c9 => ?_) (fun c9 => ?_)
  · skip
    refine lv_sipush (v := iI (-1000)) hE.1 hE.2.1 dX9_taste_30 (by decide) ?_
    exact kr _ v5 ar al _ _ _ _ rfl ⟨⟨-1000, by omega, rfl⟩, hI, fun i j h => (up_oth hv5 (fun q => h (by rcases q with ⟨rfl, rfl⟩; decide))), fun i h => rfl, fun i h => rfl⟩ hP hS dX9_taste_33
  · skip
    refine lv_iload_n hE.1 hE.2.1 dX9_taste_23 rfl (lv_at hl 2 rfl) ?_
    refine x_sp (nn := 1) (As := [.int (iI (z_2))]) (rest := []) hE (s_X9_isSlot l (z_2) (by omega)) tt_blind (fun _ _ _ => trivial) rfl mw_1490 mw_1491 mw_123 mw_1492 (by decide +kernel) ⟨by decide, by decide⟩ hl.1 rfl (Nat.le_of_ble_eq_true rfl) ⟨Nat.zero_le _, Nat.zero_le _⟩ dX9_taste_24 (fun r10 hr10 => ?_)
    obtain ⟨z10, hz10, rfl⟩ := hr10
    refine s_if_ne (a := z10) (tgt := 34) hE.1 hE.2.1 (by omega) dX9_taste_27 (by decide) (fun c11 => ?_) (fun c11 => ?_)
    · skip
      refine lv_aload_n hE.1 hE.2.1 dX9_taste_34 rfl (lv_at hl 0 rfl) ?_
      refine x_get (x := .ref (ad 1)) hE hK hP 0 (by decide) (yG_9 rfl) rfl hin9 1 (by decide) mw_1335 rfl dX9_taste_35 ?_
      refine lv_iload_n hE.1 hE.2.1 dX9_taste_38 rfl (lv_at hl 2 rfl) ?_
      refine x_iald (j := iI (z_2)) hE hK hP 1 (by decide) (yG_10 rfl) (iI_in (n := 4) (by omega)) dX9_taste_39 ?_
      obtain ⟨z13, hz13, ez13⟩ := YI_a1 hI ((iI (z_2)).toNatClampNeg)
      refine x_top ez13 ?_
      refine lv_iconst (v := iI (-1)) hE.1 hE.2.1 dX9_taste_40 (by decide) ?_
      refine s_icmp_ne (a := z13) (b := -1) (tgt := 48) hE.1 hE.2.1 (by omega) (by omega) dX9_taste_41 (by decide) (fun c14 => ?_) (fun c14 => ?_)
      · skip
        refine lv_aload_n hE.1 hE.2.1 dX9_taste_48 rfl (lv_at hl 0 rfl) ?_
        refine lv_iload_n hE.1 hE.2.1 dX9_taste_49 rfl (lv_at hl 2 rfl) ?_
        refine x_vp (nn := 1) (As := [.int (iI (z_2))]) (rest := []) hE (s_X9_areMotifs l D K ad v5 ar al hI  (z_2) (by omega)) wPre_blind (wPre_now hK hN hP) (x_recv hK hP 0 (by decide) (yG_9 rfl) rfl) rfl mw_2025 mw_2027 mw_109 mw_123 mw_2028 (by decide +kernel) ⟨by decide, by decide⟩ hl.1 rfl (Nat.le_of_ble_eq_true rfl) ⟨Nat.zero_le _, Nat.zero_le _⟩ dX9_taste_50 (fun r15 hr15 => ?_)
        obtain ⟨z15, hz15, rfl⟩ := hr15
        refine s_if_eq (a := z15) (tgt := 65) hE.1 hE.2.1 (by omega) dX9_taste_53 (by decide) (fun c16 => ?_) (fun c16 => ?_)
        · skip
          refine lv_sipush (v := iI (-1000)) hE.1 hE.2.1 dX9_taste_65 (by decide) ?_
          exact kr _ v5 ar al _ _ _ _ rfl ⟨⟨-1000, by omega, rfl⟩, hI, fun i j h => (up_oth hv5 (fun q => h (by rcases q with ⟨rfl, rfl⟩; decide))), fun i h => rfl, fun i h => rfl⟩ hP hS dX9_taste_68
        · skip
          refine lv_aload_n hE.1 hE.2.1 dX9_taste_56 rfl (lv_at hl 0 rfl) ?_
          refine lv_iload_n hE.1 hE.2.1 dX9_taste_57 rfl (lv_at hl 1 rfl) ?_
          refine lv_iload_n hE.1 hE.2.1 dX9_taste_58 rfl (lv_at hl 2 rfl) ?_
          refine x_vp (nn := 2) (As := [.int (iI (z_1)), .int (iI (z_2))]) (rest := []) hE (s_X9_tasteOf l D K ad v5 ar al hI  (z_1) (by omega) (z_2) (by omega)) wPre_blind (wPre_now hK hN hP) (x_recv hK hP 0 (by decide) (yG_9 rfl) rfl) rfl mw_2029 mw_2031 mw_110 mw_123 mw_2032 (by decide +kernel) ⟨by decide, by decide⟩ hl.1 rfl (Nat.le_of_ble_eq_true rfl) ⟨Nat.zero_le _, Nat.zero_le _⟩ dX9_taste_59 (fun r17 hr17 => ?_)
          obtain ⟨z17, hz17, rfl⟩ := hr17
          refine lv_goto (tgt := 68) hE.1 hE.2.1 dX9_taste_62 (by decide) ?_
          exact kr _ v5 ar al _ _ _ _ rfl ⟨⟨z17, by omega, rfl⟩, hI, fun i j h => (up_oth hv5 (fun q => h (by rcases q with ⟨rfl, rfl⟩; decide))), fun i h => rfl, fun i h => rfl⟩ hP hS dX9_taste_68
      · skip
        refine lv_sipush (v := iI (-6000)) hE.1 hE.2.1 dX9_taste_44 (by decide) ?_
        exact kr _ v5 ar al _ _ _ _ rfl ⟨⟨-6000, by omega, rfl⟩, hI, fun i j h => (up_oth hv5 (fun q => h (by rcases q with ⟨rfl, rfl⟩; decide))), fun i h => rfl, fun i h => rfl⟩ hP hS dX9_taste_47
    · skip
      refine lv_sipush (v := iI (-1000)) hE.1 hE.2.1 dX9_taste_30 (by decide) ?_
      exact kr _ v5 ar al _ _ _ _ rfl ⟨⟨-1000, by omega, rfl⟩, hI, fun i j h => (up_oth hv5 (fun q => h (by rcases q with ⟨rfl, rfl⟩; decide))), fun i h => rfl, fun i h => rfl⟩ hP hS dX9_taste_33
