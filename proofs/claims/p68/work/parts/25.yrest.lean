theorem szd {y z w : Int} (hy : y ≠ 0) (hr : -2147483648 ≤ y ∧ y ≤ 2147483647) (e1 : iI y - iI 1 = iI w) (e2 : iI y &&& iI w = iI z) : (iI z).toBitVec.toNat < (iI y).toBitVec.toNat := by
  have h0 : iI y ≠ 0 := iI_ne0 hr hy
  have h1 : (iI y).toBitVec ≠ 0 := fun q => h0 (Int32.toBitVec_inj.mp q)
  have h2 : 0 < (iI y).toBitVec.toNat := Nat.pos_of_ne_zero (fun q => h1 (BitVec.eq_of_toNat_eq (by rw [q]; rfl)))
  rw [← e2, ← e1, Int32.toBitVec_and, BitVec.toNat_and, Int32.toBitVec_sub]
  refine Nat.lt_of_le_of_lt Nat.and_le_right ?_
  have h3 : (iI 1).toBitVec.toNat = 1 := by decide
  have h4 := (iI y).toBitVec.isLt
  rw [BitVec.toNat_sub, h3]
  omega
theorem iI_shl9 {a : Int} (ha : 0 ≤ a ∧ a ≤ 9) : ∃ z : Int, (1 ≤ z ∧ z ≤ 512) ∧ iI 1 <<< (iI a &&& 31) = iI z := by
  rcases (show a ≤ 8 ∨ a = 9 by omega) with h | rfl
  · obtain ⟨z, hz, e⟩ := iI_shl8 (a := a) (by omega)
    exact ⟨z, by omega, e⟩
  · exact ⟨512, by omega, by decide⟩
theorem gGood_le {f : Nat → Int32} {T S n k : Nat} (h : k ≤ n) (g : gGood f T S n) : gGood f T S k := fun i hi => g i (by omega)
/-- the told tale is cut -/
theorem YI_cut {v ar ar' : sI} {z n : Int} (h : YI v ar) (ha : ar' = va_up ar 7 (upd (ar 7) 5 (iI z))) (e : ar 7 5 = iI n) (hn : 0 ≤ n ∧ n ≤ 18) (hz : 0 ≤ z ∧ z ≤ n) : YI v ar' := by
  obtain ⟨a, ⟨b1, b2, b7, b10, b12⟩, c0, c⟩ := h
  have ne : ∀ j, j ≠ 5 → ar' 7 j = ar 7 j := fun j hj => upa_idx ha hj
  have eq : ar' 7 5 = iI z := upa_at ha rfl
  refine ⟨a, ⟨by rw [upa_ne ha 1 (by decide)]; exact b1, by rw [upa_ne ha 2 (by decide)]; exact b2, ?_, by rw [upa_ne ha 10 (by decide)]; exact b10, by rw [upa_ne ha 12 (by decide)]; exact b12⟩, (ne 29 (by decide)).trans c0, fun r hr => ?_⟩
  · intro j
    by_cases q : j = 5
    · rw [q, eq, iI_toInt (by omega)]; unfold hasB; omega
    · rw [ne j q]; exact b7 j
  · rw [upa_ne ha 6 (by decide), upa_ne ha 10 (by decide), ne (6 * r + 2) (by omega), ne (6 * r) (by omega), ne (6 * r + 1) (by omega)]
    have cr := c r hr
    by_cases q : r = 0
    · subst q
      rw [show 6 * 0 + 5 = 5 from rfl, eq, iI_toInt (by omega)]
      rw [show 6 * 0 + 5 = 5 from rfl, e, iI_toInt (by omega)] at cr
      exact ⟨fun g => cr.1 (by omega), gGood_le (by omega) cr.2⟩
    · rw [ne (6 * r + 5) (by omega)]; exact cr
theorem YI_forbid {v ar ar' : sI} {x : Int32} (h : YI v ar) (ha : ar' = va_up ar 7 (upd (ar 7) 4 x)) : YI v ar' := by
  obtain ⟨a, ⟨b1, b2, b7, b10, b12⟩, c0, c⟩ := h
  have ne : ∀ j, j ≠ 4 → ar' 7 j = ar 7 j := fun j hj => upa_idx ha hj
  refine ⟨a, ⟨by rw [upa_ne ha 1 (by decide)]; exact b1, by rw [upa_ne ha 2 (by decide)]; exact b2, ?_, by rw [upa_ne ha 10 (by decide)]; exact b10, by rw [upa_ne ha 12 (by decide)]; exact b12⟩, (ne 29 (by decide)).trans c0, fun r hr => ?_⟩
  · intro j
    by_cases q : j = 4
    · subst q; unfold hasB; omega
    · rw [ne j q]; exact b7 j
  · rw [upa_ne ha 6 (by decide), upa_ne ha 10 (by decide), ne (6 * r + 2) (by omega), ne (6 * r) (by omega), ne (6 * r + 1) (by omega), ne (6 * r + 5) (by omega)]
    exact c r hr

theorem dX9_sizeOf_0 : decode cX9_sizeOf 0 = .ok (.iconst 0, 1) := by decide +kernel
theorem dX9_sizeOf_1 : decode cX9_sizeOf 1 = .ok (.istore_n 1, 1) := by decide +kernel
theorem dX9_sizeOf_2 : decode cX9_sizeOf 2 = .ok (.iload_n 0, 1) := by decide +kernel
theorem dX9_sizeOf_3 : decode cX9_sizeOf 3 = .ok (.istore_n 2, 1) := by decide +kernel
theorem dX9_sizeOf_4 : decode cX9_sizeOf 4 = .ok (.iload_n 2, 1) := by decide +kernel
theorem dX9_sizeOf_5 : decode cX9_sizeOf 5 = .ok (.ifCond .eq 15, 3) := by decide +kernel
theorem dX9_sizeOf_8 : decode cX9_sizeOf 8 = .ok (.iinc 1 1, 3) := by decide +kernel
theorem dX9_sizeOf_11 : decode cX9_sizeOf 11 = .ok (.iload_n 2, 1) := by decide +kernel
theorem dX9_sizeOf_12 : decode cX9_sizeOf 12 = .ok (.iload_n 2, 1) := by decide +kernel
theorem dX9_sizeOf_13 : decode cX9_sizeOf 13 = .ok (.iconst 1, 1) := by decide +kernel
theorem dX9_sizeOf_14 : decode cX9_sizeOf 14 = .ok (.isub, 1) := by decide +kernel
theorem dX9_sizeOf_15 : decode cX9_sizeOf 15 = .ok (.iand, 1) := by decide +kernel
theorem dX9_sizeOf_16 : decode cX9_sizeOf 16 = .ok (.istore_n 2, 1) := by decide +kernel
theorem dX9_sizeOf_17 : decode cX9_sizeOf 17 = .ok (.goto (-13), 3) := by decide +kernel
theorem dX9_sizeOf_20 : decode cX9_sizeOf 20 = .ok (.iload_n 1, 1) := by decide +kernel
theorem dX9_sizeOf_21 : decode cX9_sizeOf 21 = .ok (.ireturn, 1) := by decide +kernel
set_option maxHeartbeats 4000000 in
set_option maxRecDepth 100000 in
theorem s_X9_sizeOf (l : Launch) (z_1 : Int) (hz_1 : -2147483648 ≤ z_1 ∧ z_1 ≤ 2147483647) : Met l yX9_sizeOf (wM yX9_sizeOf cX9_sizeOf 3 (some .int)) (rmD 0) (va_Pc [.int (iI (z_1))] (fun _ => True)) (vp_Si (fun r => ∃ z : Int, (-2147483648 ≤ z ∧ z ≤ 2147483647) ∧ r = iI z)) 0 0 (fun _ => False) := by
  refine s_metP (by decide) (Nat.le_of_ble_eq_true rfl) ?_
  intro p e s m below meth c ls args Q hE hB hl kr
  have hE : CallFix p m c cX9_sizeOf 3 s args tbG "TaleCourtModel" := hE
  have hl : lv_has ls 3 [(0, .int (iI (z_1)))] := hl
  refine lv_iconst (v := iI (0)) hE.1 hE.2.1 dX9_sizeOf_0 (by decide) ?_
  refine lv_istore_n (lv' := [(1, .int (iI (0))), (0, .int (iI (z_1)))]) hE.1 hE.2.1 dX9_sizeOf_1 rfl hl (by decide) rfl (fun ls hl => ?_)
  refine lv_iload_n hE.1 hE.2.1 dX9_sizeOf_2 rfl (lv_at hl 1 rfl) ?_
  refine lv_istore_n (lv' := [(2, .int (iI (z_1))), (1, .int (iI (0))), (0, .int (iI (z_1)))]) hE.1 hE.2.1 dX9_sizeOf_3 rfl hl (by decide) rfl (fun ls hl => ?_)
  have loop1 : ∀ (k1 : Nat) (y1_2 : Int) (y1_1 : Int) (ls : Array Slot), (iI y1_2).toBitVec.toNat = k1 → (-2147483648 ≤ y1_2 ∧ y1_2 ≤ 2147483647) → (-2147483648 ≤ y1_1 ∧ y1_1 ≤ 2147483647) → lv_has ls 3 [(2, .int (iI (y1_2))), (1, .int (iI (y1_1))), (0, .int (iI (z_1)))] → W p l e (rmD 0) s m args below meth c s.heap [] 0 0 Q (F0 m 4 ls []) := by
    intro k1
    induction k1 using Nat.strongRecOn with
    | _ k1 ih1 =>
      intro y1_2 y1_1 ls hk1 hb_y1_2 hb_y1_1 hl
      refine lv_iload_n hE.1 hE.2.1 dX9_sizeOf_4 rfl (lv_at hl 0 rfl) ?_
      refine s_if_eq (a := y1_2) (tgt := 20) hE.1 hE.2.1 (by omega) dX9_sizeOf_5 (by decide) (fun c2 => ?_) (fun c2 => ?_)
      · skip
        refine lv_iload_n hE.1 hE.2.1 dX9_sizeOf_20 rfl (lv_at hl 1 rfl) ?_
        exact kr _ _ _ rfl ⟨y1_1, by omega, rfl⟩ dX9_sizeOf_21
      · skip
        obtain ⟨z3, hz3, ez3⟩ := iI_of (iI (y1_1) + iI (1))
        refine lv_iinc (v := iI (z3)) (lv' := [(1, .int (iI (z3))), (2, .int (iI (y1_2))), (0, .int (iI (z_1)))]) hE.1 hE.2.1 dX9_sizeOf_8 hl (k := 1) rfl ez3 (by decide) rfl (fun ls hl => ?_)
        refine lv_iload_n hE.1 hE.2.1 dX9_sizeOf_11 rfl (lv_at hl 1 rfl) ?_
        refine lv_iload_n hE.1 hE.2.1 dX9_sizeOf_12 rfl (lv_at hl 1 rfl) ?_
        refine lv_iconst (v := iI (1)) hE.1 hE.2.1 dX9_sizeOf_13 (by decide) ?_
        refine lv_isub hE.1 hE.2.1 dX9_sizeOf_14 ?_
        obtain ⟨z4, hz4, ez4⟩ := iI_of (iI (y1_2) - iI (1))
        refine x_top ez4 ?_
        refine lv_iand hE.1 hE.2.1 dX9_sizeOf_15 ?_
        obtain ⟨z5, hz5, ez5⟩ := iI_of (iI (y1_2) &&& iI (z4))
        refine x_top ez5 ?_
        refine lv_istore_n (lv' := [(2, .int (iI (z5))), (1, .int (iI (z3))), (0, .int (iI (z_1)))]) hE.1 hE.2.1 dX9_sizeOf_16 rfl hl (by decide) rfl (fun ls hl => ?_)
        refine lv_goto (tgt := 4) hE.1 hE.2.1 dX9_sizeOf_17 (by decide) ?_
        exact ih1 _ (by rw [← hk1]; exact szd (by omega) (by omega) (by assumption) (by assumption)) (z5) (z3) _ rfl (by omega) (by omega) (lv_sub hl [0, 1, 2] rfl)
  exact loop1 _ (z_1) (0) _ rfl (by omega) (by omega) hl

theorem dX9_count_0 : decode cX9_count 0 = .ok (.aload_n 0, 1) := by decide +kernel
theorem dX9_count_1 : decode cX9_count 1 = .ok (.iconst 0, 1) := by decide +kernel
theorem dX9_count_2 : decode cX9_count 2 = .ok (.putfield 81, 3) := by decide +kernel
theorem dX9_count_5 : decode cX9_count 5 = .ok (.iconst 0, 1) := by decide +kernel
theorem dX9_count_6 : decode cX9_count 6 = .ok (.istore_n 2, 1) := by decide +kernel
theorem dX9_count_7 : decode cX9_count 7 = .ok (.iload_n 1, 1) := by decide +kernel
theorem dX9_count_8 : decode cX9_count 8 = .ok (.tableswitch 204 0 9 #[56, 63, 70, 77, 110, 145, 152, 159, 164, 171], 56) := by decide +kernel
theorem dX9_count_64 : decode cX9_count 64 = .ok (.aload_n 0, 1) := by decide +kernel
theorem dX9_count_65 : decode cX9_count 65 = .ok (.getfield 34, 3) := by decide +kernel
theorem dX9_count_68 : decode cX9_count 68 = .ok (.iconst 2, 1) := by decide +kernel
theorem dX9_count_69 : decode cX9_count 69 = .ok (.iaload, 1) := by decide +kernel
theorem dX9_count_70 : decode cX9_count 70 = .ok (.ireturn, 1) := by decide +kernel
theorem dX9_count_71 : decode cX9_count 71 = .ok (.aload_n 0, 1) := by decide +kernel
theorem dX9_count_72 : decode cX9_count 72 = .ok (.getfield 34, 3) := by decide +kernel
theorem dX9_count_75 : decode cX9_count 75 = .ok (.iconst 0, 1) := by decide +kernel
theorem dX9_count_76 : decode cX9_count 76 = .ok (.iaload, 1) := by decide +kernel
theorem dX9_count_77 : decode cX9_count 77 = .ok (.ireturn, 1) := by decide +kernel
theorem dX9_count_78 : decode cX9_count 78 = .ok (.aload_n 0, 1) := by decide +kernel
theorem dX9_count_79 : decode cX9_count 79 = .ok (.getfield 34, 3) := by decide +kernel
theorem dX9_count_82 : decode cX9_count 82 = .ok (.iconst 1, 1) := by decide +kernel
theorem dX9_count_83 : decode cX9_count 83 = .ok (.iaload, 1) := by decide +kernel
theorem dX9_count_84 : decode cX9_count 84 = .ok (.ireturn, 1) := by decide +kernel
theorem dX9_count_85 : decode cX9_count 85 = .ok (.iconst 0, 1) := by decide +kernel
theorem dX9_count_86 : decode cX9_count 86 = .ok (.istore_n 3, 1) := by decide +kernel
theorem dX9_count_87 : decode cX9_count 87 = .ok (.iload_n 3, 1) := by decide +kernel
theorem dX9_count_88 : decode cX9_count 88 = .ok (.aload_n 0, 1) := by decide +kernel
theorem dX9_count_89 : decode cX9_count 89 = .ok (.getfield 34, 3) := by decide +kernel
theorem dX9_count_92 : decode cX9_count 92 = .ok (.iconst 2, 1) := by decide +kernel
theorem dX9_count_93 : decode cX9_count 93 = .ok (.iaload, 1) := by decide +kernel
theorem dX9_count_94 : decode cX9_count 94 = .ok (.if_icmp .ge 22, 3) := by decide +kernel
theorem dX9_count_97 : decode cX9_count 97 = .ok (.iload_n 2, 1) := by decide +kernel
theorem dX9_count_98 : decode cX9_count 98 = .ok (.aload_n 0, 1) := by decide +kernel
theorem dX9_count_99 : decode cX9_count 99 = .ok (.iload_n 3, 1) := by decide +kernel
theorem dX9_count_100 : decode cX9_count 100 = .ok (.bipush 7, 2) := by decide +kernel
theorem dX9_count_102 : decode cX9_count 102 = .ok (.invokevirtual 258, 3) := by decide +kernel
theorem dX9_count_105 : decode cX9_count 105 = .ok (.invokestatic 433, 3) := by decide +kernel
theorem dX9_count_108 : decode cX9_count 108 = .ok (.iadd, 1) := by decide +kernel
theorem dX9_count_109 : decode cX9_count 109 = .ok (.istore_n 2, 1) := by decide +kernel
theorem dX9_count_110 : decode cX9_count 110 = .ok (.iinc 3 1, 3) := by decide +kernel
theorem dX9_count_113 : decode cX9_count 113 = .ok (.goto (-26), 3) := by decide +kernel
theorem dX9_count_116 : decode cX9_count 116 = .ok (.iload_n 2, 1) := by decide +kernel
theorem dX9_count_117 : decode cX9_count 117 = .ok (.ireturn, 1) := by decide +kernel
theorem dX9_count_118 : decode cX9_count 118 = .ok (.iconst 0, 1) := by decide +kernel
theorem dX9_count_119 : decode cX9_count 119 = .ok (.istore_n 3, 1) := by decide +kernel
theorem dX9_count_120 : decode cX9_count 120 = .ok (.iload_n 3, 1) := by decide +kernel
theorem dX9_count_121 : decode cX9_count 121 = .ok (.aload_n 0, 1) := by decide +kernel
theorem dX9_count_122 : decode cX9_count 122 = .ok (.getfield 34, 3) := by decide +kernel
theorem dX9_count_125 : decode cX9_count 125 = .ok (.iconst 2, 1) := by decide +kernel
theorem dX9_count_126 : decode cX9_count 126 = .ok (.iaload, 1) := by decide +kernel
theorem dX9_count_127 : decode cX9_count 127 = .ok (.if_icmp .ge 22, 3) := by decide +kernel
theorem dX9_count_130 : decode cX9_count 130 = .ok (.iload_n 2, 1) := by decide +kernel
theorem dX9_count_131 : decode cX9_count 131 = .ok (.aload_n 0, 1) := by decide +kernel
theorem dX9_count_132 : decode cX9_count 132 = .ok (.iload_n 3, 1) := by decide +kernel
theorem dX9_count_133 : decode cX9_count 133 = .ok (.bipush 8, 2) := by decide +kernel
theorem dX9_count_135 : decode cX9_count 135 = .ok (.invokevirtual 258, 3) := by decide +kernel
theorem dX9_count_138 : decode cX9_count 138 = .ok (.invokestatic 433, 3) := by decide +kernel
theorem dX9_count_141 : decode cX9_count 141 = .ok (.iadd, 1) := by decide +kernel
theorem dX9_count_142 : decode cX9_count 142 = .ok (.istore_n 2, 1) := by decide +kernel
theorem dX9_count_143 : decode cX9_count 143 = .ok (.iinc 3 1, 3) := by decide +kernel
theorem dX9_count_146 : decode cX9_count 146 = .ok (.goto (-26), 3) := by decide +kernel
theorem dX9_count_149 : decode cX9_count 149 = .ok (.iload_n 2, 1) := by decide +kernel
theorem dX9_count_150 : decode cX9_count 150 = .ok (.iconst 2, 1) := by decide +kernel
theorem dX9_count_151 : decode cX9_count 151 = .ok (.idiv, 1) := by decide +kernel
theorem dX9_count_152 : decode cX9_count 152 = .ok (.ireturn, 1) := by decide +kernel
theorem dX9_count_153 : decode cX9_count 153 = .ok (.aload_n 0, 1) := by decide +kernel
theorem dX9_count_154 : decode cX9_count 154 = .ok (.getfield 34, 3) := by decide +kernel
theorem dX9_count_157 : decode cX9_count 157 = .ok (.iconst 3, 1) := by decide +kernel
theorem dX9_count_158 : decode cX9_count 158 = .ok (.iaload, 1) := by decide +kernel
theorem dX9_count_159 : decode cX9_count 159 = .ok (.ireturn, 1) := by decide +kernel
theorem dX9_count_160 : decode cX9_count 160 = .ok (.aload_n 0, 1) := by decide +kernel
theorem dX9_count_161 : decode cX9_count 161 = .ok (.getfield 31, 3) := by decide +kernel
theorem dX9_count_164 : decode cX9_count 164 = .ok (.iconst 0, 1) := by decide +kernel
theorem dX9_count_165 : decode cX9_count 165 = .ok (.iaload, 1) := by decide +kernel
theorem dX9_count_166 : decode cX9_count 166 = .ok (.ireturn, 1) := by decide +kernel
theorem dX9_count_167 : decode cX9_count 167 = .ok (.aload_n 0, 1) := by decide +kernel
theorem dX9_count_168 : decode cX9_count 168 = .ok (.getfield 98, 3) := by decide +kernel
theorem dX9_count_171 : decode cX9_count 171 = .ok (.ireturn, 1) := by decide +kernel
theorem dX9_count_172 : decode cX9_count 172 = .ok (.aload_n 0, 1) := by decide +kernel
theorem dX9_count_173 : decode cX9_count 173 = .ok (.getfield 34, 3) := by decide +kernel
theorem dX9_count_176 : decode cX9_count 176 = .ok (.iconst 5, 1) := by decide +kernel
theorem dX9_count_177 : decode cX9_count 177 = .ok (.iaload, 1) := by decide +kernel
theorem dX9_count_178 : decode cX9_count 178 = .ok (.ireturn, 1) := by decide +kernel
theorem dX9_count_179 : decode cX9_count 179 = .ok (.iconst 0, 1) := by decide +kernel
theorem dX9_count_180 : decode cX9_count 180 = .ok (.istore_n 3, 1) := by decide +kernel
theorem dX9_count_181 : decode cX9_count 181 = .ok (.iload_n 3, 1) := by decide +kernel
theorem dX9_count_182 : decode cX9_count 182 = .ok (.iconst 4, 1) := by decide +kernel
theorem dX9_count_183 : decode cX9_count 183 = .ok (.if_icmp .ge 27, 3) := by decide +kernel
theorem dX9_count_186 : decode cX9_count 186 = .ok (.iload_n 2, 1) := by decide +kernel
theorem dX9_count_187 : decode cX9_count 187 = .ok (.aload_n 0, 1) := by decide +kernel
theorem dX9_count_188 : decode cX9_count 188 = .ok (.getfield 7, 3) := by decide +kernel
theorem dX9_count_191 : decode cX9_count 191 = .ok (.iload_n 3, 1) := by decide +kernel
theorem dX9_count_192 : decode cX9_count 192 = .ok (.iaload, 1) := by decide +kernel
theorem dX9_count_193 : decode cX9_count 193 = .ok (.iconst (-1), 1) := by decide +kernel
theorem dX9_count_194 : decode cX9_count 194 = .ok (.if_icmp .ne 7, 3) := by decide +kernel
theorem dX9_count_197 : decode cX9_count 197 = .ok (.iconst 0, 1) := by decide +kernel
theorem dX9_count_198 : decode cX9_count 198 = .ok (.goto 4, 3) := by decide +kernel
theorem dX9_count_201 : decode cX9_count 201 = .ok (.iconst 1, 1) := by decide +kernel
theorem dX9_count_202 : decode cX9_count 202 = .ok (.iadd, 1) := by decide +kernel
theorem dX9_count_203 : decode cX9_count 203 = .ok (.istore_n 2, 1) := by decide +kernel
theorem dX9_count_204 : decode cX9_count 204 = .ok (.iinc 3 1, 3) := by decide +kernel
theorem dX9_count_207 : decode cX9_count 207 = .ok (.goto (-26), 3) := by decide +kernel
theorem dX9_count_210 : decode cX9_count 210 = .ok (.iload_n 2, 1) := by decide +kernel
theorem dX9_count_211 : decode cX9_count 211 = .ok (.ireturn, 1) := by decide +kernel
theorem dX9_count_212 : decode cX9_count 212 = .ok (.iconst (-1), 1) := by decide +kernel
theorem dX9_count_213 : decode cX9_count 213 = .ok (.ireturn, 1) := by decide +kernel
set_option maxHeartbeats 4000000 in
set_option maxRecDepth 100000 in
theorem s_X9_count (l : Launch) (D : va_G) (K : Nat → ClassId) (ad : Nat → Nat) (v ar : sI) (al : sL) (hI : YI v ar) (z_1 : Int) (hz_1 : -2147483648 ≤ z_1 ∧ z_1 ≤ 2147483647) : Met l yX9_count (wM yX9_count cX9_count 4 (some .int)) (rmD 1) (va_Pc [.ref (ad 0), .int (iI (z_1))] (wPre D K ad (yG ad K) 21 v ar al)) (va_Qi (fun (r : Int32) (u : sT) => (∃ z : Int, (-2147483648 ≤ z ∧ z ≤ 2147483647) ∧ r = iI z) ∧ YI u.1 u.2.1 ∧ (∀ i j : Nat, (i, j) ∉ ([(0, 0)] : List (Nat × Nat)) → u.1 i j = v i j) ∧ (∀ i : Nat, i ∉ ([] : List Nat) → u.2.1 i = ar i) ∧ (∀ i : Nat, i ∉ ([] : List Nat) → u.2.2 i = al i)) (wB D ad (yG ad K) 21) (inW ad 21)) 0 0 (inW ad 21) := by
  refine s_metI (by decide) (Nat.le_of_ble_eq_true rfl) ?_
  intro p e s m below meth c ls args Q hE hB hl kr
  have hE : CallFix p m c cX9_count 4 s args tbG "TaleCourtModel" := hE
  obtain ⟨hP, hK, hN⟩ := hB
  have hS : va_S (inW ad 21) s.heap s.heap [] := va_S.rf
  have hl : lv_has ls 4 [(0, .ref (ad 0)), (1, .int (iI (z_1)))] := hl
  obtain ⟨z1, hz1, ez1⟩ := iI_of (ar 6 0)
  obtain ⟨z2, hz2, ez2⟩ := YI_h2 hI 2 (by decide)
  obtain ⟨z3, hz3, ez3⟩ := YI_h5 hI 5 (by decide)
  obtain ⟨z4, hz4, ez4⟩ := YI_h0 hI 0 (by decide)
  have ht0 := YI_t0 hI ez1 (by omega) ez2 (by omega) ez3 (by omega) ez4 (by omega)
  refine lv_aload_n hE.1 hE.2.1 dX9_count_0 rfl (lv_at hl 0 rfl) ?_
  refine lv_iconst (v := iI (0)) hE.1 hE.2.1 dX9_count_1 (by decide) ?_
  refine x_put (x := iI (0)) hE hK hN hP hS 0 (by decide) (yG_9 rfl) rfl hin9 tyX9 tyX9_ok nmX9 0 (by decide) mw_1334 rfl rfl rfl (Nat.le_of_ble_eq_true rfl) (yG_9 rfl) dX9_count_2 (fun v5 H locs hv5 hP hS => ?_)
  have hI := YI_putN hI hv5 (by decide)
  refine lv_iconst (v := iI (0)) hE.1 hE.2.1 dX9_count_5 (by decide) ?_
  refine lv_istore_n (lv' := [(2, .int (iI (0))), (0, .ref (ad 0)), (1, .int (iI (z_1)))]) hE.1 hE.2.1 dX9_count_6 rfl hl (by decide) rfl (fun ls hl => ?_)
  refine lv_iload_n hE.1 hE.2.1 dX9_count_7 rfl (lv_at hl 2 rfl) ?_
  by_cases ho6 : z_1 < 0 ∨ 9 < z_1
  · skip
    refine s_tabOut (a := z_1) (tgt := 212) hE.1 hE.2.1 (by omega) dX9_count_8 ho6 (by decide) ?_
    refine lv_iconst (v := iI (-1)) hE.1 hE.2.1 dX9_count_212 (by decide) ?_
    exact kr _ v5 ar al _ _ _ _ rfl ⟨⟨-1, by omega, rfl⟩, hI, fun i j h => (up_oth hv5 (fun q => h (by rcases q with ⟨rfl, rfl⟩; decide))), fun i h => rfl, fun i h => rfl⟩ hP hS dX9_count_213
  · skip
    rcases (show z_1 = 0 ∨ z_1 = 1 ∨ z_1 = 2 ∨ z_1 = 3 ∨ z_1 = 4 ∨ z_1 = 5 ∨ z_1 = 6 ∨ z_1 = 7 ∨ z_1 = 8 ∨ z_1 = 9 by omega) with rfl | rfl | rfl | rfl | rfl | rfl | rfl | rfl | rfl | rfl
    · skip
      refine lv_tableIn (off := 56) (tgt := 64) hE.1 hE.2.1 dX9_count_8 (by decide) (by decide) (by decide) (by decide) ?_
      refine lv_aload_n hE.1 hE.2.1 dX9_count_64 rfl (lv_at hl 1 rfl) ?_
      refine x_get (x := .ref (ad 7)) hE hK hP 0 (by decide) (yG_9 rfl) rfl hin9 17 (by decide) mw_1351 rfl dX9_count_65 ?_
      refine lv_iconst (v := iI (2)) hE.1 hE.2.1 dX9_count_68 (by decide) ?_
      refine x_iald (j := iI (2)) hE hK hP 7 (by decide) (yG_10 rfl) (iI_in (n := 30) (by omega)) dX9_count_69 ?_
      refine x_top (y := iI (z2)) (by rw [show (iI (2)).toNatClampNeg = 2 from by decide]; exact ez2) ?_
      exact kr _ v5 ar al _ _ _ _ rfl ⟨⟨z2, by omega, rfl⟩, hI, fun i j h => (up_oth hv5 (fun q => h (by rcases q with ⟨rfl, rfl⟩; decide))), fun i h => rfl, fun i h => rfl⟩ hP hS dX9_count_70
    · skip
      refine lv_tableIn (off := 63) (tgt := 71) hE.1 hE.2.1 dX9_count_8 (by decide) (by decide) (by decide) (by decide) ?_
      refine lv_aload_n hE.1 hE.2.1 dX9_count_71 rfl (lv_at hl 1 rfl) ?_
      refine x_get (x := .ref (ad 7)) hE hK hP 0 (by decide) (yG_9 rfl) rfl hin9 17 (by decide) mw_1351 rfl dX9_count_72 ?_
      refine lv_iconst (v := iI (0)) hE.1 hE.2.1 dX9_count_75 (by decide) ?_
      refine x_iald (j := iI (0)) hE hK hP 7 (by decide) (yG_10 rfl) (iI_in (n := 30) (by omega)) dX9_count_76 ?_
      refine x_top (y := iI (z4)) (by rw [show (iI (0)).toNatClampNeg = 0 from by decide]; exact ez4) ?_
      exact kr _ v5 ar al _ _ _ _ rfl ⟨⟨z4, by omega, rfl⟩, hI, fun i j h => (up_oth hv5 (fun q => h (by rcases q with ⟨rfl, rfl⟩; decide))), fun i h => rfl, fun i h => rfl⟩ hP hS dX9_count_77
    · skip
      refine lv_tableIn (off := 70) (tgt := 78) hE.1 hE.2.1 dX9_count_8 (by decide) (by decide) (by decide) (by decide) ?_
      refine lv_aload_n hE.1 hE.2.1 dX9_count_78 rfl (lv_at hl 1 rfl) ?_
      refine x_get (x := .ref (ad 7)) hE hK hP 0 (by decide) (yG_9 rfl) rfl hin9 17 (by decide) mw_1351 rfl dX9_count_79 ?_
      refine lv_iconst (v := iI (1)) hE.1 hE.2.1 dX9_count_82 (by decide) ?_
      refine x_iald (j := iI (1)) hE hK hP 7 (by decide) (yG_10 rfl) (iI_in (n := 30) (by omega)) dX9_count_83 ?_
      obtain ⟨z10, hz10, ez10⟩ := YI_h1 hI 1 (by decide)
      refine x_top (y := iI (z10)) (by rw [show (iI (1)).toNatClampNeg = 1 from by decide]; exact ez10) ?_
      exact kr _ v5 ar al _ _ _ _ rfl ⟨⟨z10, by omega, rfl⟩, hI, fun i j h => (up_oth hv5 (fun q => h (by rcases q with ⟨rfl, rfl⟩; decide))), fun i h => rfl, fun i h => rfl⟩ hP hS dX9_count_84
    · skip
      refine lv_tableIn (off := 77) (tgt := 85) hE.1 hE.2.1 dX9_count_8 (by decide) (by decide) (by decide) (by decide) ?_
      refine lv_iconst (v := iI (0)) hE.1 hE.2.1 dX9_count_85 (by decide) ?_
      refine lv_istore_n (lv' := [(3, .int (iI (0))), (2, .int (iI (0))), (0, .ref (ad 0)), (1, .int (iI (3)))]) hE.1 hE.2.1 dX9_count_86 rfl hl (by decide) rfl (fun ls hl => ?_)
      have loop11 : ∀ (k11 : Nat) (y11_3 : Int) (y11_2 : Int) (vl11 : sI) (all11 : sL) (H : Heap) (locs : List Loc) (ls : Array Slot), (9 - y11_3).toNat = k11 → (0 ≤ y11_3 ∧ y11_3 ≤ 9) → (-2147483648 ≤ y11_2 ∧ y11_2 ≤ 2147483647) → YI vl11 ar → (∀ i j : Nat, (i, j) ∉ ([] : List (Nat × Nat)) → vl11 i j = v5 i j) → (∀ i : Nat, i ∉ ([] : List Nat) → all11 i = al i) → va_P D xcl (wW ad (yG ad K) 21 vl11 ar all11) H → va_S (inW ad 21) s.heap H locs → lv_has ls 4 [(3, .int (iI (y11_3))), (2, .int (iI (y11_2))), (0, .ref (ad 0)), (1, .int (iI (3)))] → W p l e (rmD 1) s m args below meth c H locs 0 0 Q (F0 m 87 ls []) := by
        intro k11
        induction k11 using Nat.strongRecOn with
        | _ k11 ih11 =>
          intro y11_3 y11_2  vl11 all11 H locs ls hk11 hb_y11_3 hb_y11_2 hI hfr11 hfl11 hP hS hl
          refine lv_iload_n hE.1 hE.2.1 dX9_count_87 rfl (lv_at hl 0 rfl) ?_
          refine lv_aload_n hE.1 hE.2.1 dX9_count_88 rfl (lv_at hl 2 rfl) ?_
          refine x_get (x := .ref (ad 7)) hE hK hP 0 (by decide) (yG_9 rfl) rfl hin9 17 (by decide) mw_1351 rfl dX9_count_89 ?_
          refine lv_iconst (v := iI (2)) hE.1 hE.2.1 dX9_count_92 (by decide) ?_
          refine x_iald (j := iI (2)) hE hK hP 7 (by decide) (yG_10 rfl) (iI_in (n := 30) (by omega)) dX9_count_93 ?_
          refine x_top (y := iI (z2)) (by rw [show (iI (2)).toNatClampNeg = 2 from by decide]; exact ez2) ?_
          refine s_icmp_ge (a := y11_3) (b := z2) (tgt := 116) hE.1 hE.2.1 (by omega) (by omega) dX9_count_94 (by decide) (fun c13 => ?_) (fun c13 => ?_)
          · skip
            refine lv_iload_n hE.1 hE.2.1 dX9_count_116 rfl (lv_at hl 1 rfl) ?_
            exact kr _ vl11 ar all11 _ _ _ _ rfl ⟨⟨y11_2, by omega, rfl⟩, hI, fun i j h => ((hfr11 i j (fun q => h (mem_sub (by decide) q))).trans (up_oth hv5 (fun q => h (by rcases q with ⟨rfl, rfl⟩; decide)))), fun i h => rfl, fun i h => (hfl11 i (fun q => h (mem_subn (by decide) q)))⟩ hP hS dX9_count_117
          · skip
            refine lv_iload_n hE.1 hE.2.1 dX9_count_97 rfl (lv_at hl 1 rfl) ?_
            refine lv_aload_n hE.1 hE.2.1 dX9_count_98 rfl (lv_at hl 2 rfl) ?_
            refine lv_iload_n hE.1 hE.2.1 dX9_count_99 rfl (lv_at hl 0 rfl) ?_
            refine lv_bipush (v := iI (7)) hE.1 hE.2.1 dX9_count_100 (by decide) ?_
            refine x_vp (nn := 2) (As := [.int (iI (y11_3)), .int (iI (7))]) (rest := [.int (iI (y11_2))]) hE (s_X9_of l D K ad vl11 ar all11 hI  (y11_3) (by omega) (7) (by omega)) wPre_blind (wPre_now hK hN hP) (x_recv hK hP 0 (by decide) (yG_9 rfl) rfl) rfl mw_1654 mw_1656 mw_73 mw_123 mw_1657 (by decide +kernel) ⟨by decide, by decide⟩ hl.1 rfl (Nat.le_of_ble_eq_true rfl) ⟨Nat.zero_le _, Nat.zero_le _⟩ dX9_count_102 (fun r14 hr14 => ?_)
            obtain ⟨z14, hz14, rfl⟩ := hr14
            refine x_sp (nn := 1) (As := [.int (iI (z14))]) (rest := [.int (iI (y11_2))]) hE (s_X9_sizeOf l (z14) (by omega)) tt_blind (fun _ _ _ => trivial) rfl mw_2014 mw_2015 mw_123 mw_2016 (by decide +kernel) ⟨by decide, by decide⟩ hl.1 rfl (Nat.le_of_ble_eq_true rfl) ⟨Nat.zero_le _, Nat.zero_le _⟩ dX9_count_105 (fun r15 hr15 => ?_)
            obtain ⟨z15, hz15, rfl⟩ := hr15
            refine lv_iadd hE.1 hE.2.1 dX9_count_108 ?_
            obtain ⟨z16, hz16, ez16⟩ := iI_of (iI (y11_2) + iI (z15))
            refine x_top ez16 ?_
            refine lv_istore_n (lv' := [(2, .int (iI (z16))), (3, .int (iI (y11_3))), (0, .ref (ad 0)), (1, .int (iI (3)))]) hE.1 hE.2.1 dX9_count_109 rfl hl (by decide) rfl (fun ls hl => ?_)
            refine lv_iinc (v := iI (y11_3 + 1)) (lv' := [(3, .int (iI (y11_3 + 1))), (2, .int (iI (z16))), (0, .ref (ad 0)), (1, .int (iI (3)))]) hE.1 hE.2.1 dX9_count_110 hl (k := 1) rfl ((iI_add (y11_3) (1)).trans (congrArg iI (by omega))) (by decide) rfl (fun ls hl => ?_)
            refine lv_goto (tgt := 87) hE.1 hE.2.1 dX9_count_113 (by decide) ?_
            exact ih11 _ (by omega) (y11_3 + 1) (z16)  vl11  all11 _ _ _ rfl (by omega) (by omega)  hI (fun i j h => (hfr11 i j h)) (fun i h => (hfl11 i h)) hP hS (lv_sub hl [0, 1, 2, 3] rfl)
      exact loop11 _ (0) (0)  v5  al _ _ _ rfl (by omega) (by omega)  hI (fun _ _ _ => rfl) (fun _ _ => rfl) hP hS hl
    · skip
      refine lv_tableIn (off := 110) (tgt := 118) hE.1 hE.2.1 dX9_count_8 (by decide) (by decide) (by decide) (by decide) ?_
      refine lv_iconst (v := iI (0)) hE.1 hE.2.1 dX9_count_118 (by decide) ?_
      refine lv_istore_n (lv' := [(3, .int (iI (0))), (2, .int (iI (0))), (0, .ref (ad 0)), (1, .int (iI (4)))]) hE.1 hE.2.1 dX9_count_119 rfl hl (by decide) rfl (fun ls hl => ?_)
      have loop17 : ∀ (k17 : Nat) (y17_3 : Int) (y17_2 : Int) (vl17 : sI) (all17 : sL) (H : Heap) (locs : List Loc) (ls : Array Slot), (9 - y17_3).toNat = k17 → (0 ≤ y17_3 ∧ y17_3 ≤ 9) → (-2147483648 ≤ y17_2 ∧ y17_2 ≤ 2147483647) → YI vl17 ar → (∀ i j : Nat, (i, j) ∉ ([] : List (Nat × Nat)) → vl17 i j = v5 i j) → (∀ i : Nat, i ∉ ([] : List Nat) → all17 i = al i) → va_P D xcl (wW ad (yG ad K) 21 vl17 ar all17) H → va_S (inW ad 21) s.heap H locs → lv_has ls 4 [(3, .int (iI (y17_3))), (2, .int (iI (y17_2))), (0, .ref (ad 0)), (1, .int (iI (4)))] → W p l e (rmD 1) s m args below meth c H locs 0 0 Q (F0 m 120 ls []) := by
        intro k17
        induction k17 using Nat.strongRecOn with
        | _ k17 ih17 =>
          intro y17_3 y17_2  vl17 all17 H locs ls hk17 hb_y17_3 hb_y17_2 hI hfr17 hfl17 hP hS hl
          refine lv_iload_n hE.1 hE.2.1 dX9_count_120 rfl (lv_at hl 0 rfl) ?_
          refine lv_aload_n hE.1 hE.2.1 dX9_count_121 rfl (lv_at hl 2 rfl) ?_
          refine x_get (x := .ref (ad 7)) hE hK hP 0 (by decide) (yG_9 rfl) rfl hin9 17 (by decide) mw_1351 rfl dX9_count_122 ?_
          refine lv_iconst (v := iI (2)) hE.1 hE.2.1 dX9_count_125 (by decide) ?_
          refine x_iald (j := iI (2)) hE hK hP 7 (by decide) (yG_10 rfl) (iI_in (n := 30) (by omega)) dX9_count_126 ?_
          refine x_top (y := iI (z2)) (by rw [show (iI (2)).toNatClampNeg = 2 from by decide]; exact ez2) ?_
          refine s_icmp_ge (a := y17_3) (b := z2) (tgt := 149) hE.1 hE.2.1 (by omega) (by omega) dX9_count_127 (by decide) (fun c19 => ?_) (fun c19 => ?_)
          · skip
            refine lv_iload_n hE.1 hE.2.1 dX9_count_149 rfl (lv_at hl 1 rfl) ?_
            refine lv_iconst (v := iI (2)) hE.1 hE.2.1 dX9_count_150 (by decide) ?_
            refine lv_idiv hE.1 hE.2.1 dX9_count_151 (iI_ne0 (by omega) (by omega)) ?_
            obtain ⟨z20, hz20, ez20⟩ := iI_of (iI (y17_2) / iI (2))
            refine x_top ez20 ?_
            exact kr _ vl17 ar all17 _ _ _ _ rfl ⟨⟨z20, by omega, rfl⟩, hI, fun i j h => ((hfr17 i j (fun q => h (mem_sub (by decide) q))).trans (up_oth hv5 (fun q => h (by rcases q with ⟨rfl, rfl⟩; decide)))), fun i h => rfl, fun i h => (hfl17 i (fun q => h (mem_subn (by decide) q)))⟩ hP hS dX9_count_152
          · skip
            refine lv_iload_n hE.1 hE.2.1 dX9_count_130 rfl (lv_at hl 1 rfl) ?_
            refine lv_aload_n hE.1 hE.2.1 dX9_count_131 rfl (lv_at hl 2 rfl) ?_
            refine lv_iload_n hE.1 hE.2.1 dX9_count_132 rfl (lv_at hl 0 rfl) ?_
            refine lv_bipush (v := iI (8)) hE.1 hE.2.1 dX9_count_133 (by decide) ?_
            refine x_vp (nn := 2) (As := [.int (iI (y17_3)), .int (iI (8))]) (rest := [.int (iI (y17_2))]) hE (s_X9_of l D K ad vl17 ar all17 hI  (y17_3) (by omega) (8) (by omega)) wPre_blind (wPre_now hK hN hP) (x_recv hK hP 0 (by decide) (yG_9 rfl) rfl) rfl mw_1654 mw_1656 mw_73 mw_123 mw_1657 (by decide +kernel) ⟨by decide, by decide⟩ hl.1 rfl (Nat.le_of_ble_eq_true rfl) ⟨Nat.zero_le _, Nat.zero_le _⟩ dX9_count_135 (fun r21 hr21 => ?_)
            obtain ⟨z21, hz21, rfl⟩ := hr21
            refine x_sp (nn := 1) (As := [.int (iI (z21))]) (rest := [.int (iI (y17_2))]) hE (s_X9_sizeOf l (z21) (by omega)) tt_blind (fun _ _ _ => trivial) rfl mw_2014 mw_2015 mw_123 mw_2016 (by decide +kernel) ⟨by decide, by decide⟩ hl.1 rfl (Nat.le_of_ble_eq_true rfl) ⟨Nat.zero_le _, Nat.zero_le _⟩ dX9_count_138 (fun r22 hr22 => ?_)
            obtain ⟨z22, hz22, rfl⟩ := hr22
            refine lv_iadd hE.1 hE.2.1 dX9_count_141 ?_
            obtain ⟨z23, hz23, ez23⟩ := iI_of (iI (y17_2) + iI (z22))
            refine x_top ez23 ?_
            refine lv_istore_n (lv' := [(2, .int (iI (z23))), (3, .int (iI (y17_3))), (0, .ref (ad 0)), (1, .int (iI (4)))]) hE.1 hE.2.1 dX9_count_142 rfl hl (by decide) rfl (fun ls hl => ?_)
            refine lv_iinc (v := iI (y17_3 + 1)) (lv' := [(3, .int (iI (y17_3 + 1))), (2, .int (iI (z23))), (0, .ref (ad 0)), (1, .int (iI (4)))]) hE.1 hE.2.1 dX9_count_143 hl (k := 1) rfl ((iI_add (y17_3) (1)).trans (congrArg iI (by omega))) (by decide) rfl (fun ls hl => ?_)
            refine lv_goto (tgt := 120) hE.1 hE.2.1 dX9_count_146 (by decide) ?_
            exact ih17 _ (by omega) (y17_3 + 1) (z23)  vl17  all17 _ _ _ rfl (by omega) (by omega)  hI (fun i j h => (hfr17 i j h)) (fun i h => (hfl17 i h)) hP hS (lv_sub hl [0, 1, 2, 3] rfl)
      exact loop17 _ (0) (0)  v5  al _ _ _ rfl (by omega) (by omega)  hI (fun _ _ _ => rfl) (fun _ _ => rfl) hP hS hl
    · skip
      refine lv_tableIn (off := 145) (tgt := 153) hE.1 hE.2.1 dX9_count_8 (by decide) (by decide) (by decide) (by decide) ?_
      refine lv_aload_n hE.1 hE.2.1 dX9_count_153 rfl (lv_at hl 1 rfl) ?_
      refine x_get (x := .ref (ad 7)) hE hK hP 0 (by decide) (yG_9 rfl) rfl hin9 17 (by decide) mw_1351 rfl dX9_count_154 ?_
      refine lv_iconst (v := iI (3)) hE.1 hE.2.1 dX9_count_157 (by decide) ?_
      refine x_iald (j := iI (3)) hE hK hP 7 (by decide) (yG_10 rfl) (iI_in (n := 30) (by omega)) dX9_count_158 ?_
      obtain ⟨z25, hz25, ez25⟩ := YI_h3 hI 3 (by decide)
      refine x_top (y := iI (z25)) (by rw [show (iI (3)).toNatClampNeg = 3 from by decide]; exact ez25) ?_
      exact kr _ v5 ar al _ _ _ _ rfl ⟨⟨z25, by omega, rfl⟩, hI, fun i j h => (up_oth hv5 (fun q => h (by rcases q with ⟨rfl, rfl⟩; decide))), fun i h => rfl, fun i h => rfl⟩ hP hS dX9_count_159
    · skip
      refine lv_tableIn (off := 152) (tgt := 160) hE.1 hE.2.1 dX9_count_8 (by decide) (by decide) (by decide) (by decide) ?_
      refine lv_aload_n hE.1 hE.2.1 dX9_count_160 rfl (lv_at hl 1 rfl) ?_
      refine x_get (x := .ref (ad 6)) hE hK hP 0 (by decide) (yG_9 rfl) rfl hin9 16 (by decide) mw_1350 rfl dX9_count_161 ?_
      refine lv_iconst (v := iI (0)) hE.1 hE.2.1 dX9_count_164 (by decide) ?_
      refine x_iald (j := iI (0)) hE hK hP 6 (by decide) (yG_10 rfl) (iI_in (n := 5) (by omega)) dX9_count_165 ?_
      refine x_top (y := iI (z1)) (by rw [show (iI (0)).toNatClampNeg = 0 from by decide]; exact ez1) ?_
      exact kr _ v5 ar al _ _ _ _ rfl ⟨⟨z1, by omega, rfl⟩, hI, fun i j h => (up_oth hv5 (fun q => h (by rcases q with ⟨rfl, rfl⟩; decide))), fun i h => rfl, fun i h => rfl⟩ hP hS dX9_count_166
    · skip
      refine lv_tableIn (off := 159) (tgt := 167) hE.1 hE.2.1 dX9_count_8 (by decide) (by decide) (by decide) (by decide) ?_
      refine lv_aload_n hE.1 hE.2.1 dX9_count_167 rfl (lv_at hl 1 rfl) ?_
      obtain ⟨z27, hz27, ez27⟩ := YI_get hI 0 6 0 1600 (by decide)
      refine x_get (x := .int (v5 0 6)) hE hK hP 0 (by decide) (yG_9 rfl) rfl hin9 6 (by decide) mw_1340 rfl dX9_count_168 ?_
      refine x_top (y := iI (z27)) ez27 ?_
      exact kr _ v5 ar al _ _ _ _ rfl ⟨⟨z27, by omega, rfl⟩, hI, fun i j h => (up_oth hv5 (fun q => h (by rcases q with ⟨rfl, rfl⟩; decide))), fun i h => rfl, fun i h => rfl⟩ hP hS dX9_count_171
    · skip
      refine lv_tableIn (off := 164) (tgt := 172) hE.1 hE.2.1 dX9_count_8 (by decide) (by decide) (by decide) (by decide) ?_
      refine lv_aload_n hE.1 hE.2.1 dX9_count_172 rfl (lv_at hl 1 rfl) ?_
      refine x_get (x := .ref (ad 7)) hE hK hP 0 (by decide) (yG_9 rfl) rfl hin9 17 (by decide) mw_1351 rfl dX9_count_173 ?_
      refine lv_iconst (v := iI (5)) hE.1 hE.2.1 dX9_count_176 (by decide) ?_
      refine x_iald (j := iI (5)) hE hK hP 7 (by decide) (yG_10 rfl) (iI_in (n := 30) (by omega)) dX9_count_177 ?_
      refine x_top (y := iI (z3)) (by rw [show (iI (5)).toNatClampNeg = 5 from by decide]; exact ez3) ?_
      exact kr _ v5 ar al _ _ _ _ rfl ⟨⟨z3, by omega, rfl⟩, hI, fun i j h => (up_oth hv5 (fun q => h (by rcases q with ⟨rfl, rfl⟩; decide))), fun i h => rfl, fun i h => rfl⟩ hP hS dX9_count_178
    · skip
      refine lv_tableIn (off := 171) (tgt := 179) hE.1 hE.2.1 dX9_count_8 (by decide) (by decide) (by decide) (by decide) ?_
      refine lv_iconst (v := iI (0)) hE.1 hE.2.1 dX9_count_179 (by decide) ?_
      refine lv_istore_n (lv' := [(3, .int (iI (0))), (2, .int (iI (0))), (0, .ref (ad 0)), (1, .int (iI (9)))]) hE.1 hE.2.1 dX9_count_180 rfl hl (by decide) rfl (fun ls hl => ?_)
      have loop29 : ∀ (k29 : Nat) (y29_3 : Int) (y29_2 : Int) (vl29 : sI) (all29 : sL) (H : Heap) (locs : List Loc) (ls : Array Slot), (4 - y29_3).toNat = k29 → (0 ≤ y29_3 ∧ y29_3 ≤ 4) → (-2147483648 ≤ y29_2 ∧ y29_2 ≤ 2147483647) → YI vl29 ar → (∀ i j : Nat, (i, j) ∉ ([] : List (Nat × Nat)) → vl29 i j = v5 i j) → (∀ i : Nat, i ∉ ([] : List Nat) → all29 i = al i) → va_P D xcl (wW ad (yG ad K) 21 vl29 ar all29) H → va_S (inW ad 21) s.heap H locs → lv_has ls 4 [(3, .int (iI (y29_3))), (2, .int (iI (y29_2))), (0, .ref (ad 0)), (1, .int (iI (9)))] → W p l e (rmD 1) s m args below meth c H locs 0 0 Q (F0 m 181 ls []) := by
        intro k29
        induction k29 using Nat.strongRecOn with
        | _ k29 ih29 =>
          intro y29_3 y29_2  vl29 all29 H locs ls hk29 hb_y29_3 hb_y29_2 hI hfr29 hfl29 hP hS hl
          refine lv_iload_n hE.1 hE.2.1 dX9_count_181 rfl (lv_at hl 0 rfl) ?_
          refine lv_iconst (v := iI (4)) hE.1 hE.2.1 dX9_count_182 (by decide) ?_
          refine s_icmp_ge (a := y29_3) (b := 4) (tgt := 210) hE.1 hE.2.1 (by omega) (by omega) dX9_count_183 (by decide) (fun c30 => ?_) (fun c30 => ?_)
          · skip
            refine lv_iload_n hE.1 hE.2.1 dX9_count_210 rfl (lv_at hl 1 rfl) ?_
            exact kr _ vl29 ar all29 _ _ _ _ rfl ⟨⟨y29_2, by omega, rfl⟩, hI, fun i j h => ((hfr29 i j (fun q => h (mem_sub (by decide) q))).trans (up_oth hv5 (fun q => h (by rcases q with ⟨rfl, rfl⟩; decide)))), fun i h => rfl, fun i h => (hfl29 i (fun q => h (mem_subn (by decide) q)))⟩ hP hS dX9_count_211
          · skip
            refine lv_iload_n hE.1 hE.2.1 dX9_count_186 rfl (lv_at hl 1 rfl) ?_
            refine lv_aload_n hE.1 hE.2.1 dX9_count_187 rfl (lv_at hl 2 rfl) ?_
            refine x_get (x := .ref (ad 1)) hE hK hP 0 (by decide) (yG_9 rfl) rfl hin9 1 (by decide) mw_1335 rfl dX9_count_188 ?_
            refine lv_iload_n hE.1 hE.2.1 dX9_count_191 rfl (lv_at hl 0 rfl) ?_
            refine x_iald (j := iI (y29_3)) hE hK hP 1 (by decide) (yG_10 rfl) (iI_in (n := 4) (by omega)) dX9_count_192 ?_
            obtain ⟨z32, hz32, ez32⟩ := YI_a1 hI ((iI (y29_3)).toNatClampNeg)
            refine x_top ez32 ?_
            refine lv_iconst (v := iI (-1)) hE.1 hE.2.1 dX9_count_193 (by decide) ?_
            refine s_icmp_ne (a := z32) (b := -1) (tgt := 201) hE.1 hE.2.1 (by omega) (by omega) dX9_count_194 (by decide) (fun c33 => ?_) (fun c33 => ?_)
            · skip
              refine lv_iconst (v := iI (1)) hE.1 hE.2.1 dX9_count_201 (by decide) ?_
              refine lv_iadd hE.1 hE.2.1 dX9_count_202 ?_
              obtain ⟨z34, hz34, ez34⟩ := iI_of (iI (y29_2) + iI (1))
              refine x_top ez34 ?_
              refine lv_istore_n (lv' := [(2, .int (iI (z34))), (3, .int (iI (y29_3))), (0, .ref (ad 0)), (1, .int (iI (9)))]) hE.1 hE.2.1 dX9_count_203 rfl hl (by decide) rfl (fun ls hl => ?_)
              refine lv_iinc (v := iI (y29_3 + 1)) (lv' := [(3, .int (iI (y29_3 + 1))), (2, .int (iI (z34))), (0, .ref (ad 0)), (1, .int (iI (9)))]) hE.1 hE.2.1 dX9_count_204 hl (k := 1) rfl ((iI_add (y29_3) (1)).trans (congrArg iI (by omega))) (by decide) rfl (fun ls hl => ?_)
              refine lv_goto (tgt := 181) hE.1 hE.2.1 dX9_count_207 (by decide) ?_
              exact ih29 _ (by omega) (y29_3 + 1) (z34)  vl29  all29 _ _ _ rfl (by omega) (by omega)  hI (fun i j h => (hfr29 i j h)) (fun i h => (hfl29 i h)) hP hS (lv_sub hl [0, 1, 2, 3] rfl)
            · skip
              refine lv_iconst (v := iI (0)) hE.1 hE.2.1 dX9_count_197 (by decide) ?_
              refine lv_goto (tgt := 202) hE.1 hE.2.1 dX9_count_198 (by decide) ?_
              refine lv_iadd hE.1 hE.2.1 dX9_count_202 ?_
              refine x_top (y := iI (y29_2)) ((iI_add (y29_2) (0)).trans (congrArg iI (by omega))) ?_
              refine lv_istore_n (lv' := [(2, .int (iI (y29_2))), (3, .int (iI (y29_3))), (0, .ref (ad 0)), (1, .int (iI (9)))]) hE.1 hE.2.1 dX9_count_203 rfl hl (by decide) rfl (fun ls hl => ?_)
              refine lv_iinc (v := iI (y29_3 + 1)) (lv' := [(3, .int (iI (y29_3 + 1))), (2, .int (iI (y29_2))), (0, .ref (ad 0)), (1, .int (iI (9)))]) hE.1 hE.2.1 dX9_count_204 hl (k := 1) rfl ((iI_add (y29_3) (1)).trans (congrArg iI (by omega))) (by decide) rfl (fun ls hl => ?_)
              refine lv_goto (tgt := 181) hE.1 hE.2.1 dX9_count_207 (by decide) ?_
              exact ih29 _ (by omega) (y29_3 + 1) (y29_2)  vl29  all29 _ _ _ rfl (by omega) (by omega)  hI (fun i j h => (hfr29 i j h)) (fun i h => (hfl29 i h)) hP hS (lv_sub hl [0, 1, 2, 3] rfl)
      exact loop29 _ (0) (0)  v5  al _ _ _ rfl (by omega) (by omega)  hI (fun _ _ _ => rfl) (fun _ _ => rfl) hP hS hl

theorem dX9_whyNoRow_0 : decode cX9_whyNoRow 0 = .ok (.iload_n 1, 1) := by decide +kernel
theorem dX9_whyNoRow_1 : decode cX9_whyNoRow 1 = .ok (.invokestatic 90, 3) := by decide +kernel
theorem dX9_whyNoRow_4 : decode cX9_whyNoRow 4 = .ok (.ifCond .eq 10, 3) := by decide +kernel
theorem dX9_whyNoRow_7 : decode cX9_whyNoRow 7 = .ok (.aload_n 0, 1) := by decide +kernel
theorem dX9_whyNoRow_8 : decode cX9_whyNoRow 8 = .ok (.invokevirtual 301, 3) := by decide +kernel
theorem dX9_whyNoRow_11 : decode cX9_whyNoRow 11 = .ok (.ifCond .ne 8, 3) := by decide +kernel
theorem dX9_whyNoRow_14 : decode cX9_whyNoRow 14 = .ok (.bipush (-2), 2) := by decide +kernel
theorem dX9_whyNoRow_16 : decode cX9_whyNoRow 16 = .ok (.goto 19, 3) := by decide +kernel
theorem dX9_whyNoRow_19 : decode cX9_whyNoRow 19 = .ok (.aload_n 0, 1) := by decide +kernel
theorem dX9_whyNoRow_20 : decode cX9_whyNoRow 20 = .ok (.getfield 7, 3) := by decide +kernel
theorem dX9_whyNoRow_23 : decode cX9_whyNoRow 23 = .ok (.iload_n 1, 1) := by decide +kernel
theorem dX9_whyNoRow_24 : decode cX9_whyNoRow 24 = .ok (.iaload, 1) := by decide +kernel
theorem dX9_whyNoRow_25 : decode cX9_whyNoRow 25 = .ok (.iconst (-1), 1) := by decide +kernel
theorem dX9_whyNoRow_26 : decode cX9_whyNoRow 26 = .ok (.if_icmp .ne 8, 3) := by decide +kernel
theorem dX9_whyNoRow_29 : decode cX9_whyNoRow 29 = .ok (.bipush (-6), 2) := by decide +kernel
theorem dX9_whyNoRow_31 : decode cX9_whyNoRow 31 = .ok (.goto 4, 3) := by decide +kernel
theorem dX9_whyNoRow_34 : decode cX9_whyNoRow 34 = .ok (.iconst 0, 1) := by decide +kernel
theorem dX9_whyNoRow_35 : decode cX9_whyNoRow 35 = .ok (.ireturn, 1) := by decide +kernel
set_option maxHeartbeats 4000000 in
set_option maxRecDepth 100000 in
theorem s_X9_whyNoRow (l : Launch) (D : va_G) (K : Nat → ClassId) (ad : Nat → Nat) (v ar : sI) (al : sL) (hI : YI v ar) (w_1 : Int) (hw_1 : -2147483648 ≤ w_1 ∧ w_1 ≤ 2147483647) (ew_1 : ar 6 0 = iI w_1) (z_1 : Int) (hz_1 : -2147483648 ≤ z_1 ∧ z_1 ≤ 2147483647) : Met l yX9_whyNoRow (wM yX9_whyNoRow cX9_whyNoRow 2 (some .int)) (rmD 2) (va_Pc [.ref (ad 0), .int (iI (z_1))] (wPre D K ad (yG ad K) 21 v ar al)) (vp_Si (fun r => ∃ z : Int, ((z = 0 ∧ 0 ≤ z_1 ∧ z_1 ≤ 3 ∧ 0 < w_1) ∨ z = -2 ∨ z = -6) ∧ r = iI z)) 0 0 (fun _ => False) := by
  refine s_metP (by decide) (Nat.le_of_ble_eq_true rfl) ?_
  intro p e s m below meth c ls args Q hE hB hl kr
  have hE : CallFix p m c cX9_whyNoRow 2 s args tbG "TaleCourtModel" := hE
  obtain ⟨hP, hK, hN⟩ := hB
  have hl : lv_has ls 2 [(0, .ref (ad 0)), (1, .int (iI (z_1)))] := hl
  refine lv_iload_n hE.1 hE.2.1 dX9_whyNoRow_0 rfl (lv_at hl 1 rfl) ?_
  refine x_sp (nn := 1) (As := [.int (iI (z_1))]) (rest := []) hE (s_X9_isSlot l (z_1) (by omega)) tt_blind (fun _ _ _ => trivial) rfl mw_1490 mw_1491 mw_123 mw_1492 (by decide +kernel) ⟨by decide, by decide⟩ hl.1 rfl (Nat.le_of_ble_eq_true rfl) ⟨Nat.zero_le _, Nat.zero_le _⟩ dX9_whyNoRow_1 (fun r1 hr1 => ?_)
  obtain ⟨z1, hz1, rfl⟩ := hr1
  refine s_if_eq (a := z1) (tgt := 14) hE.1 hE.2.1 (by omega) dX9_whyNoRow_4 (by decide) (fun c2 => ?_) (fun c2 => ?_)
  · skip
    refine lv_bipush (v := iI (-2)) hE.1 hE.2.1 dX9_whyNoRow_14 (by decide) ?_
    refine lv_goto (tgt := 35) hE.1 hE.2.1 dX9_whyNoRow_16 (by decide) ?_
    exact kr _ _ _ rfl ⟨-2, by omega, rfl⟩ dX9_whyNoRow_35
  · skip
    refine lv_aload_n hE.1 hE.2.1 dX9_whyNoRow_7 rfl (lv_at hl 0 rfl) ?_
    refine x_vp (nn := 0) (As := []) (rest := []) hE (s_X9_isCourt l D K ad v ar al hI (w_1) (by omega) ew_1 ) wPre_blind (wPre_now hK hN hP) (x_recv hK hP 0 (by decide) (yG_9 rfl) rfl) rfl mw_1718 mw_1720 mw_79 mw_123 mw_1721 (by decide +kernel) ⟨by decide, by decide⟩ hl.1 rfl (Nat.le_of_ble_eq_true rfl) ⟨Nat.zero_le _, Nat.zero_le _⟩ dX9_whyNoRow_8 (fun r3 hr3 => ?_)
    obtain ⟨z3, hz3, rfl⟩ := hr3
    refine s_if_ne (a := z3) (tgt := 19) hE.1 hE.2.1 (by omega) dX9_whyNoRow_11 (by decide) (fun c4 => ?_) (fun c4 => ?_)
    · skip
      refine lv_aload_n hE.1 hE.2.1 dX9_whyNoRow_19 rfl (lv_at hl 0 rfl) ?_
      refine x_get (x := .ref (ad 1)) hE hK hP 0 (by decide) (yG_9 rfl) rfl hin9 1 (by decide) mw_1335 rfl dX9_whyNoRow_20 ?_
      refine lv_iload_n hE.1 hE.2.1 dX9_whyNoRow_23 rfl (lv_at hl 1 rfl) ?_
      refine x_iald (j := iI (z_1)) hE hK hP 1 (by decide) (yG_10 rfl) (iI_in (n := 4) (by omega)) dX9_whyNoRow_24 ?_
      obtain ⟨z6, hz6, ez6⟩ := YI_a1 hI ((iI (z_1)).toNatClampNeg)
      refine x_top ez6 ?_
      refine lv_iconst (v := iI (-1)) hE.1 hE.2.1 dX9_whyNoRow_25 (by decide) ?_
      refine s_icmp_ne (a := z6) (b := -1) (tgt := 34) hE.1 hE.2.1 (by omega) (by omega) dX9_whyNoRow_26 (by decide) (fun c7 => ?_) (fun c7 => ?_)
      · skip
        refine lv_iconst (v := iI (0)) hE.1 hE.2.1 dX9_whyNoRow_34 (by decide) ?_
        exact kr _ _ _ rfl ⟨0, by omega, rfl⟩ dX9_whyNoRow_35
      · skip
        refine lv_bipush (v := iI (-6)) hE.1 hE.2.1 dX9_whyNoRow_29 (by decide) ?_
        refine lv_goto (tgt := 35) hE.1 hE.2.1 dX9_whyNoRow_31 (by decide) ?_
        exact kr _ _ _ rfl ⟨-6, by omega, rfl⟩ dX9_whyNoRow_35
    · skip
      refine lv_bipush (v := iI (-2)) hE.1 hE.2.1 dX9_whyNoRow_14 (by decide) ?_
      refine lv_goto (tgt := 35) hE.1 hE.2.1 dX9_whyNoRow_16 (by decide) ?_
      exact kr _ _ _ rfl ⟨-2, by omega, rfl⟩ dX9_whyNoRow_35

theorem dX9_maySilence_0 : decode cX9_maySilence 0 = .ok (.aload_n 0, 1) := by decide +kernel
theorem dX9_maySilence_1 : decode cX9_maySilence 1 = .ok (.getfield 56, 3) := by decide +kernel
theorem dX9_maySilence_4 : decode cX9_maySilence 4 = .ok (.aload_n 0, 1) := by decide +kernel
theorem dX9_maySilence_5 : decode cX9_maySilence 5 = .ok (.getfield 265, 3) := by decide +kernel
theorem dX9_maySilence_8 : decode cX9_maySilence 8 = .ok (.aload_n 0, 1) := by decide +kernel
theorem dX9_maySilence_9 : decode cX9_maySilence 9 = .ok (.getfield 34, 3) := by decide +kernel
theorem dX9_maySilence_12 : decode cX9_maySilence 12 = .ok (.iconst 0, 1) := by decide +kernel
theorem dX9_maySilence_13 : decode cX9_maySilence 13 = .ok (.iaload, 1) := by decide +kernel
theorem dX9_maySilence_14 : decode cX9_maySilence 14 = .ok (.irem, 1) := by decide +kernel
theorem dX9_maySilence_15 : decode cX9_maySilence 15 = .ok (.iaload, 1) := by decide +kernel
theorem dX9_maySilence_16 : decode cX9_maySilence 16 = .ok (.aload_n 0, 1) := by decide +kernel
theorem dX9_maySilence_17 : decode cX9_maySilence 17 = .ok (.getfield 34, 3) := by decide +kernel
theorem dX9_maySilence_20 : decode cX9_maySilence 20 = .ok (.iconst 1, 1) := by decide +kernel
theorem dX9_maySilence_21 : decode cX9_maySilence 21 = .ok (.iaload, 1) := by decide +kernel
theorem dX9_maySilence_22 : decode cX9_maySilence 22 = .ok (.if_icmp .ge 16, 3) := by decide +kernel
theorem dX9_maySilence_25 : decode cX9_maySilence 25 = .ok (.aload_n 0, 1) := by decide +kernel
theorem dX9_maySilence_26 : decode cX9_maySilence 26 = .ok (.bipush 9, 2) := by decide +kernel
theorem dX9_maySilence_28 : decode cX9_maySilence 28 = .ok (.invokevirtual 289, 3) := by decide +kernel
theorem dX9_maySilence_31 : decode cX9_maySilence 31 = .ok (.ifCond .ne 7, 3) := by decide +kernel
theorem dX9_maySilence_34 : decode cX9_maySilence 34 = .ok (.iconst 1, 1) := by decide +kernel
theorem dX9_maySilence_35 : decode cX9_maySilence 35 = .ok (.goto 4, 3) := by decide +kernel
theorem dX9_maySilence_38 : decode cX9_maySilence 38 = .ok (.iconst 0, 1) := by decide +kernel
theorem dX9_maySilence_39 : decode cX9_maySilence 39 = .ok (.ireturn, 1) := by decide +kernel
set_option maxHeartbeats 4000000 in
set_option maxRecDepth 100000 in
theorem s_X9_maySilence (l : Launch) (D : va_G) (K : Nat → ClassId) (ad : Nat → Nat) (v ar : sI) (al : sL) (hI : YI v ar) (w_1 : Int) (hw_1 : 1 ≤ w_1 ∧ w_1 ≤ 3) (ew_1 : ar 7 0 = iI w_1) : Met l yX9_maySilence (wM yX9_maySilence cX9_maySilence 1 (some .boolean)) (rmD 2) (va_Pc [.ref (ad 0)] (wPre D K ad (yG ad K) 21 v ar al)) (vp_Si (fun r => ∃ z : Int, (0 ≤ z ∧ z ≤ 1) ∧ r = iI z)) 0 0 (fun _ => False) := by
  refine s_metP (by decide) (Nat.le_of_ble_eq_true rfl) ?_
  intro p e s m below meth c ls args Q hE hB hl kr
  have hE : CallFix p m c cX9_maySilence 1 s args tbG "TaleCourtModel" := hE
  obtain ⟨hP, hK, hN⟩ := hB
  have hl : lv_has ls 1 [(0, .ref (ad 0))] := hl
  refine lv_aload_n hE.1 hE.2.1 dX9_maySilence_0 rfl (lv_at hl 0 rfl) ?_
  refine x_get (x := .ref (ad 14)) hE hK hP 0 (by decide) (yG_9 rfl) rfl hin9 28 (by decide) mw_1362 rfl dX9_maySilence_1 ?_
  refine lv_aload_n hE.1 hE.2.1 dX9_maySilence_4 rfl (lv_at hl 0 rfl) ?_
  obtain ⟨z1, hz1, ez1⟩ := YI_get hI 0 24 0 60 (by decide)
  refine x_get (x := .int (v 0 24)) hE hK hP 0 (by decide) (yG_9 rfl) rfl hin9 24 (by decide) mw_1358 rfl dX9_maySilence_5 ?_
  refine x_top (y := iI (z1)) ez1 ?_
  refine lv_aload_n hE.1 hE.2.1 dX9_maySilence_8 rfl (lv_at hl 0 rfl) ?_
  refine x_get (x := .ref (ad 7)) hE hK hP 0 (by decide) (yG_9 rfl) rfl hin9 17 (by decide) mw_1351 rfl dX9_maySilence_9 ?_
  refine lv_iconst (v := iI (0)) hE.1 hE.2.1 dX9_maySilence_12 (by decide) ?_
  refine x_iald (j := iI (0)) hE hK hP 7 (by decide) (yG_10 rfl) (iI_in (n := 30) (by omega)) dX9_maySilence_13 ?_
  refine x_top (y := iI (w_1)) (by rw [show (iI (0)).toNatClampNeg = 0 from by decide]; exact ew_1) ?_
  refine lv_irem hE.1 hE.2.1 dX9_maySilence_14 (iI_ne0 (by omega) (by omega)) ?_
  obtain ⟨z3, hz3⟩ : ∃ z : Int, z = (z1) % (w_1) ∧ 0 ≤ z ∧ z < w_1 := ⟨_, rfl, Int.emod_nonneg _ (by omega), Int.emod_lt_of_pos _ (by omega)⟩
  refine x_top (y := iI (z3)) ((iI_rem (by omega) (by omega)).trans (congrArg iI hz3.1.symm)) ?_
  replace hz3 := hz3.2
  refine x_iald (j := iI (z3)) hE hK hP 14 (by decide) (yG_10 rfl) (iI_in (n := 3) (by omega)) dX9_maySilence_15 ?_
  obtain ⟨z5, hz5, ez5⟩ := iI_of (ar 14 (iI (z3)).toNatClampNeg)
  refine x_top ez5 ?_
  refine lv_aload_n hE.1 hE.2.1 dX9_maySilence_16 rfl (lv_at hl 0 rfl) ?_
  refine x_get (x := .ref (ad 7)) hE hK hP 0 (by decide) (yG_9 rfl) rfl hin9 17 (by decide) mw_1351 rfl dX9_maySilence_17 ?_
  refine lv_iconst (v := iI (1)) hE.1 hE.2.1 dX9_maySilence_20 (by decide) ?_
  refine x_iald (j := iI (1)) hE hK hP 7 (by decide) (yG_10 rfl) (iI_in (n := 30) (by omega)) dX9_maySilence_21 ?_
  obtain ⟨z7, hz7, ez7⟩ := YI_h1 hI 1 (by decide)
  refine x_top (y := iI (z7)) (by rw [show (iI (1)).toNatClampNeg = 1 from by decide]; exact ez7) ?_
  refine s_icmp_ge (a := z5) (b := z7) (tgt := 38) hE.1 hE.2.1 (by omega) (by omega) dX9_maySilence_22 (by decide) (fun c8 => ?_) (fun c8 => ?_)
  · skip
    refine lv_iconst (v := iI (0)) hE.1 hE.2.1 dX9_maySilence_38 (by decide) ?_
    exact kr _ _ _ (nar01 (by omega)) ⟨0, by omega, rfl⟩ dX9_maySilence_39
  · skip
    refine lv_aload_n hE.1 hE.2.1 dX9_maySilence_25 rfl (lv_at hl 0 rfl) ?_
    refine lv_bipush (v := iI (9)) hE.1 hE.2.1 dX9_maySilence_26 (by decide) ?_
    refine x_vp (nn := 1) (As := [.int (iI (9))]) (rest := []) hE (s_X9_isLate l D K ad v ar al hI  (9) (by omega)) wPre_blind (wPre_now hK hN hP) (x_recv hK hP 0 (by decide) (yG_9 rfl) rfl) rfl mw_1706 mw_1708 mw_77 mw_123 mw_1709 (by decide +kernel) ⟨by decide, by decide⟩ hl.1 rfl (Nat.le_of_ble_eq_true rfl) ⟨Nat.zero_le _, Nat.zero_le _⟩ dX9_maySilence_28 (fun r9 hr9 => ?_)
    obtain ⟨z9, hz9, rfl⟩ := hr9
    refine s_if_ne (a := z9) (tgt := 38) hE.1 hE.2.1 (by omega) dX9_maySilence_31 (by decide) (fun c10 => ?_) (fun c10 => ?_)
    · skip
      refine lv_iconst (v := iI (0)) hE.1 hE.2.1 dX9_maySilence_38 (by decide) ?_
      exact kr _ _ _ (nar01 (by omega)) ⟨0, by omega, rfl⟩ dX9_maySilence_39
    · skip
      refine lv_iconst (v := iI (1)) hE.1 hE.2.1 dX9_maySilence_34 (by decide) ?_
      refine lv_goto (tgt := 39) hE.1 hE.2.1 dX9_maySilence_35 (by decide) ?_
      exact kr _ _ _ (nar01 (by omega)) ⟨1, by omega, rfl⟩ dX9_maySilence_39

theorem dX9_judges_0 : decode cX9_judges 0 = .ok (.aload_n 0, 1) := by decide +kernel
theorem dX9_judges_1 : decode cX9_judges 1 = .ok (.invokevirtual 280, 3) := by decide +kernel
theorem dX9_judges_4 : decode cX9_judges 4 = .ok (.aload_n 0, 1) := by decide +kernel
theorem dX9_judges_5 : decode cX9_judges 5 = .ok (.iconst 0, 1) := by decide +kernel
theorem dX9_judges_6 : decode cX9_judges 6 = .ok (.putfield 415, 3) := by decide +kernel
theorem dX9_judges_9 : decode cX9_judges 9 = .ok (.iconst 0, 1) := by decide +kernel
theorem dX9_judges_10 : decode cX9_judges 10 = .ok (.istore_n 2, 1) := by decide +kernel
theorem dX9_judges_11 : decode cX9_judges 11 = .ok (.iload_n 2, 1) := by decide +kernel
theorem dX9_judges_12 : decode cX9_judges 12 = .ok (.aload_n 0, 1) := by decide +kernel
theorem dX9_judges_13 : decode cX9_judges 13 = .ok (.getfield 13, 3) := by decide +kernel
theorem dX9_judges_16 : decode cX9_judges 16 = .ok (.iload_n 1, 1) := by decide +kernel
theorem dX9_judges_17 : decode cX9_judges 17 = .ok (.iaload, 1) := by decide +kernel
theorem dX9_judges_18 : decode cX9_judges 18 = .ok (.if_icmp .ge 83, 3) := by decide +kernel
theorem dX9_judges_21 : decode cX9_judges 21 = .ok (.aload_n 0, 1) := by decide +kernel
theorem dX9_judges_22 : decode cX9_judges 22 = .ok (.getfield 16, 3) := by decide +kernel
theorem dX9_judges_25 : decode cX9_judges 25 = .ok (.bipush 60, 2) := by decide +kernel
theorem dX9_judges_27 : decode cX9_judges 27 = .ok (.iload_n 1, 1) := by decide +kernel
theorem dX9_judges_28 : decode cX9_judges 28 = .ok (.imul, 1) := by decide +kernel
theorem dX9_judges_29 : decode cX9_judges 29 = .ok (.iload_n 2, 1) := by decide +kernel
theorem dX9_judges_30 : decode cX9_judges 30 = .ok (.iadd, 1) := by decide +kernel
theorem dX9_judges_31 : decode cX9_judges 31 = .ok (.laload, 1) := by decide +kernel
theorem dX9_judges_32 : decode cX9_judges 32 = .ok (.lstore_n 3, 1) := by decide +kernel
theorem dX9_judges_33 : decode cX9_judges 33 = .ok (.aload_n 0, 1) := by decide +kernel
theorem dX9_judges_34 : decode cX9_judges 34 = .ok (.lload_n 3, 1) := by decide +kernel
theorem dX9_judges_35 : decode cX9_judges 35 = .ok (.ldc2_w 368, 3) := by decide +kernel
theorem dX9_judges_38 : decode cX9_judges 38 = .ok (.lcmp, 1) := by decide +kernel
theorem dX9_judges_39 : decode cX9_judges 39 = .ok (.ifCond .ne 19, 3) := by decide +kernel
theorem dX9_judges_42 : decode cX9_judges 42 = .ok (.aload_n 0, 1) := by decide +kernel
theorem dX9_judges_43 : decode cX9_judges 43 = .ok (.invokevirtual 304, 3) := by decide +kernel
theorem dX9_judges_46 : decode cX9_judges 46 = .ok (.ifCond .eq 7, 3) := by decide +kernel
theorem dX9_judges_49 : decode cX9_judges 49 = .ok (.iconst 0, 1) := by decide +kernel
theorem dX9_judges_50 : decode cX9_judges 50 = .ok (.goto 27, 3) := by decide +kernel
theorem dX9_judges_53 : decode cX9_judges 53 = .ok (.bipush 9, 2) := by decide +kernel
theorem dX9_judges_55 : decode cX9_judges 55 = .ok (.goto 22, 3) := by decide +kernel
theorem dX9_judges_58 : decode cX9_judges 58 = .ok (.aload_n 0, 1) := by decide +kernel
theorem dX9_judges_59 : decode cX9_judges 59 = .ok (.lload_n 3, 1) := by decide +kernel
theorem dX9_judges_60 : decode cX9_judges 60 = .ok (.invokevirtual 253, 3) := by decide +kernel
theorem dX9_judges_63 : decode cX9_judges 63 = .ok (.ifCond .eq 12, 3) := by decide +kernel
theorem dX9_judges_66 : decode cX9_judges 66 = .ok (.aload_n 0, 1) := by decide +kernel
theorem dX9_judges_67 : decode cX9_judges 67 = .ok (.lload_n 3, 1) := by decide +kernel
theorem dX9_judges_68 : decode cX9_judges 68 = .ok (.l2i, 1) := by decide +kernel
theorem dX9_judges_69 : decode cX9_judges 69 = .ok (.invokevirtual 295, 3) := by decide +kernel
theorem dX9_judges_72 : decode cX9_judges 72 = .ok (.goto 5, 3) := by decide +kernel
theorem dX9_judges_75 : decode cX9_judges 75 = .ok (.bipush 9, 2) := by decide +kernel
theorem dX9_judges_77 : decode cX9_judges 77 = .ok (.putfield 415, 3) := by decide +kernel
theorem dX9_judges_80 : decode cX9_judges 80 = .ok (.aload_n 0, 1) := by decide +kernel
theorem dX9_judges_81 : decode cX9_judges 81 = .ok (.getfield 415, 3) := by decide +kernel
theorem dX9_judges_84 : decode cX9_judges 84 = .ok (.ifCond .eq 5, 3) := by decide +kernel
theorem dX9_judges_87 : decode cX9_judges 87 = .ok (.iload_n 2, 1) := by decide +kernel
theorem dX9_judges_88 : decode cX9_judges 88 = .ok (.ireturn, 1) := by decide +kernel
theorem dX9_judges_89 : decode cX9_judges 89 = .ok (.aload_n 0, 1) := by decide +kernel
theorem dX9_judges_90 : decode cX9_judges 90 = .ok (.lload_n 3, 1) := by decide +kernel
theorem dX9_judges_91 : decode cX9_judges 91 = .ok (.l2i, 1) := by decide +kernel
theorem dX9_judges_92 : decode cX9_judges 92 = .ok (.invokevirtual 283, 3) := by decide +kernel
theorem dX9_judges_95 : decode cX9_judges 95 = .ok (.iinc 2 1, 3) := by decide +kernel
theorem dX9_judges_98 : decode cX9_judges 98 = .ok (.goto (-87), 3) := by decide +kernel
theorem dX9_judges_101 : decode cX9_judges 101 = .ok (.aload_n 0, 1) := by decide +kernel
theorem dX9_judges_102 : decode cX9_judges 102 = .ok (.getfield 13, 3) := by decide +kernel
theorem dX9_judges_105 : decode cX9_judges 105 = .ok (.iload_n 1, 1) := by decide +kernel
theorem dX9_judges_106 : decode cX9_judges 106 = .ok (.iaload, 1) := by decide +kernel
theorem dX9_judges_107 : decode cX9_judges 107 = .ok (.ireturn, 1) := by decide +kernel
set_option maxHeartbeats 4000000 in
set_option maxRecDepth 100000 in
theorem s_X9_judges (l : Launch) (D : va_G) (K : Nat → ClassId) (ad : Nat → Nat) (v ar : sI) (al : sL) (hI : YI v ar) (w_1 : Int) (hw_1 : 1 ≤ w_1 ∧ w_1 ≤ 3) (ew_1 : ar 7 0 = iI w_1) (z_1 : Int) (hz_1 : 0 ≤ z_1 ∧ z_1 ≤ 3) : Met l yX9_judges (wM yX9_judges cX9_judges 5 (some .int)) (rmD 3) (va_Pc [.ref (ad 0), .int (iI (z_1))] (wPre D K ad (yG ad K) 21 v ar al)) (va_Qi (fun (r : Int32) (u : sT) => (∃ z : Int, (-2147483648 ≤ z ∧ z ≤ 2147483647) ∧ r = iI z) ∧ YI u.1 u.2.1 ∧ (∀ i j : Nat, (i, j) ∉ ([(0, 24), (0, 25), (0, 26), (0, 27), (0, 46)] : List (Nat × Nat)) → u.1 i j = v i j) ∧ (∀ i : Nat, i ∉ ([12, 13, 14] : List Nat) → u.2.1 i = ar i) ∧ (∀ i : Nat, i ∉ ([] : List Nat) → u.2.2 i = al i)) (wB D ad (yG ad K) 21) (inW ad 21)) 0 0 (inW ad 21) := by
  refine s_metI (by decide) (Nat.le_of_ble_eq_true rfl) ?_
  intro p e s m below meth c ls args Q hE hB hl kr
  have hE : CallFix p m c cX9_judges 5 s args tbG "TaleCourtModel" := hE
  obtain ⟨hP, hK, hN⟩ := hB
  have hS : va_S (inW ad 21) s.heap s.heap [] := va_S.rf
  have hl : lv_has ls 5 [(0, .ref (ad 0)), (1, .int (iI (z_1)))] := hl
  refine lv_aload_n hE.1 hE.2.1 dX9_judges_0 rfl (lv_at hl 0 rfl) ?_
  refine x_vv (nn := 0) (As := []) (rest := []) hE hK hN hP hS (s_X9_empties l D K ad v ar al hI  ) (x_recv hK hP 0 (by decide) (yG_9 rfl) rfl) rfl mw_1642 mw_1644 mw_70 mw_123 mw_1645 (by decide +kernel) ⟨by decide, by decide⟩ hl.1 rfl (Nat.le_of_ble_eq_true rfl) ⟨Nat.zero_le _, Nat.zero_le _⟩ dX9_judges_1 (fun v1 ar1 al1 H locs hq1 hP hS => ?_)
  obtain ⟨hI, hq1, hqa1, hql1, x1_1, x1_2, x1_3, hx1, ex1_1, ex1_2, ex1_3⟩ := hq1
  have hI : YI v1 ar1 := hI
  refine lv_aload_n hE.1 hE.2.1 dX9_judges_4 rfl (lv_at hl 0 rfl) ?_
  refine lv_iconst (v := iI (0)) hE.1 hE.2.1 dX9_judges_5 (by decide) ?_
  refine x_put (x := iI (0)) hE hK hN hP hS 0 (by decide) (yG_9 rfl) rfl hin9 tyX9 tyX9_ok nmX9 46 (by decide) mw_1380 rfl rfl rfl (Nat.le_of_ble_eq_true rfl) (yG_9 rfl) dX9_judges_6 (fun v2 H locs hv2 hP hS => ?_)
  have hI := YI_putN hI hv2 (by decide)
  refine lv_iconst (v := iI (0)) hE.1 hE.2.1 dX9_judges_9 (by decide) ?_
  refine lv_istore_n (lv' := [(2, .int (iI (0))), (0, .ref (ad 0)), (1, .int (iI (z_1)))]) hE.1 hE.2.1 dX9_judges_10 rfl hl (by decide) rfl (fun ls hl => ?_)
  have loop3 : ∀ (k3 : Nat) (y3_2 : Int) (yf3_0 : Int) (yf3_1 : Int) (yf3_2 : Int) (vl3 arl3 : sI) (all3 : sL) (H : Heap) (locs : List Loc) (ls : Array Slot), (60 - y3_2).toNat = k3 → (0 ≤ y3_2 ∧ y3_2 ≤ 60) → (0 ≤ yf3_0 ∧ yf3_0 ≤ 60 ∧ 0 ≤ yf3_1 ∧ yf3_1 ≤ 511 ∧ -1 ≤ yf3_2 ∧ yf3_2 ≤ 8 ∧ (yf3_0 = y3_2)) → (vl3 0 24 = iI yf3_0) → (vl3 0 25 = iI yf3_1) → (vl3 0 26 = iI yf3_2) → YI vl3 arl3 → (∀ i j : Nat, (i, j) ∉ ([(0, 24), (0, 25), (0, 26), (0, 27), (0, 46)] : List (Nat × Nat)) → vl3 i j = v2 i j) → (∀ i : Nat, i ∉ ([12, 13, 14] : List Nat) → arl3 i = ar1 i) → (∀ i : Nat, i ∉ ([] : List Nat) → all3 i = al1 i) → va_P D xcl (wW ad (yG ad K) 21 vl3 arl3 all3) H → va_S (inW ad 21) s.heap H locs → lv_has ls 5 [(2, .int (iI (y3_2))), (0, .ref (ad 0)), (1, .int (iI (z_1)))] → W p l e (rmD 3) s m args below meth c H locs 0 0 Q (F0 m 11 ls []) := by
    intro k3
    induction k3 using Nat.strongRecOn with
    | _ k3 ih3 =>
      intro y3_2 yf3_0 yf3_1 yf3_2 vl3 arl3 all3 H locs ls hk3 hb_y3_2 hyf3 eyf3_0 eyf3_1 eyf3_2 hI hfr3 hfa3 hfl3 hP hS hl
      refine lv_iload_n hE.1 hE.2.1 dX9_judges_11 rfl (lv_at hl 0 rfl) ?_
      refine lv_aload_n hE.1 hE.2.1 dX9_judges_12 rfl (lv_at hl 1 rfl) ?_
      refine x_get (x := .ref (ad 2)) hE hK hP 0 (by decide) (yG_9 rfl) rfl hin9 2 (by decide) mw_1336 rfl dX9_judges_13 ?_
      refine lv_iload_n hE.1 hE.2.1 dX9_judges_16 rfl (lv_at hl 2 rfl) ?_
      refine x_iald (j := iI (z_1)) hE hK hP 2 (by decide) (yG_10 rfl) (iI_in (n := 4) (by omega)) dX9_judges_17 ?_
      obtain ⟨z5, hz5, ez5⟩ := YI_a2 hI ((iI (z_1)).toNatClampNeg)
      refine x_top ez5 ?_
      refine s_icmp_ge (a := y3_2) (b := z5) (tgt := 101) hE.1 hE.2.1 (by omega) (by omega) dX9_judges_18 (by decide) (fun c6 => ?_) (fun c6 => ?_)
      · skip
        refine lv_aload_n hE.1 hE.2.1 dX9_judges_101 rfl (lv_at hl 1 rfl) ?_
        refine x_get (x := .ref (ad 2)) hE hK hP 0 (by decide) (yG_9 rfl) rfl hin9 2 (by decide) mw_1336 rfl dX9_judges_102 ?_
        refine lv_iload_n hE.1 hE.2.1 dX9_judges_105 rfl (lv_at hl 2 rfl) ?_
        refine x_iald (j := iI (z_1)) hE hK hP 2 (by decide) (yG_10 rfl) (iI_in (n := 4) (by omega)) dX9_judges_106 ?_
        refine x_top ez5 ?_
        exact kr _ vl3 arl3 all3 _ _ _ _ rfl ⟨⟨z5, by omega, rfl⟩, hI, fun i j h => ((hfr3 i j (fun q => h (mem_sub (by decide) q))).trans ((up_oth hv2 (fun q => h (by rcases q with ⟨rfl, rfl⟩; decide))).trans (hq1 i j (fun q => h (mem_sub (by decide) q))))), fun i h => ((hfa3 i (fun q => h (mem_subn (by decide) q))).trans (hqa1 i (fun q => h (mem_subn (by decide) q)))), fun i h => ((hfl3 i (fun q => h (mem_subn (by decide) q))).trans (hql1 i (fun q => h (mem_subn (by decide) q))))⟩ hP hS dX9_judges_107
      · skip
        refine lv_aload_n hE.1 hE.2.1 dX9_judges_21 rfl (lv_at hl 1 rfl) ?_
        refine x_get (x := .ref (ad 3)) hE hK hP 0 (by decide) (yG_9 rfl) rfl hin9 3 (by decide) mw_1337 rfl dX9_judges_22 ?_
        refine lv_bipush (v := iI (60)) hE.1 hE.2.1 dX9_judges_25 (by decide) ?_
        refine lv_iload_n hE.1 hE.2.1 dX9_judges_27 rfl (lv_at hl 2 rfl) ?_
        refine lv_imul hE.1 hE.2.1 dX9_judges_28 ?_
        refine x_top (y := iI (60 * z_1)) ((iI_mul (60) (z_1)).trans (congrArg iI (by omega))) ?_
        refine lv_iload_n hE.1 hE.2.1 dX9_judges_29 rfl (lv_at hl 0 rfl) ?_
        refine lv_iadd hE.1 hE.2.1 dX9_judges_30 ?_
        refine x_top (y := iI (y3_2 + 60 * z_1)) ((iI_add (60 * z_1) (y3_2)).trans (congrArg iI (by omega))) ?_
        refine x_lald (j := iI (y3_2 + 60 * z_1)) hE hK hP 3 (by decide) (yG_11 rfl) (iI_in (n := 240) (by omega)) dX9_judges_31 ?_
        obtain ⟨z9, hz9, ez9⟩ := lI_of (all3 3 (iI (y3_2 + 60 * z_1)).toNatClampNeg)
        refine x_topl ez9 ?_
        refine lv_lstore_n (lv' := [(3, .long (lI (z9))), (2, .int (iI (y3_2))), (0, .ref (ad 0)), (1, .int (iI (z_1)))]) hE.1 hE.2.1 dX9_judges_32 rfl hl (by decide) rfl (fun ls hl => ?_)
        refine lv_aload_n hE.1 hE.2.1 dX9_judges_33 rfl (lv_at hl 2 rfl) ?_
        refine lv_lload_n hE.1 hE.2.1 dX9_judges_34 rfl (lv_at hl 0 rfl) ?_
        refine lv_ldc2 (v := 9) hE.1 hE.2.1 hE.2.2.2.1 (hE.2.2.2.2 _ mw_1858) dX9_judges_35 ?_
        refine x_topl (y := lI (9)) (by decide) ?_
        refine W.lcmp hE.1 hE.2.1 dX9_judges_38 ?_
        obtain ⟨z10, hz10, ez10⟩ := lcmp_of (a := z9) (b := 9) (by omega) (by omega)
        refine x_top ez10 ?_
        refine s_if_ne (a := z10) (tgt := 58) hE.1 hE.2.1 (by omega) dX9_judges_39 (by decide) (fun c11 => ?_) (fun c11 => ?_)
        · skip
          refine lv_aload_n hE.1 hE.2.1 dX9_judges_58 rfl (lv_at hl 2 rfl) ?_
          refine lv_lload_n hE.1 hE.2.1 dX9_judges_59 rfl (lv_at hl 0 rfl) ?_
          obtain ⟨z12, hz12, ez12⟩ := YI_h2 hI 2 (by decide)
          refine x_vp (nn := 1) (As := [.long (lI (z9))]) (rest := [.ref (ad 0)]) hE (s_X9_isMotif l D K ad vl3 arl3 all3 hI (z12) (by omega) ez12 (z9) (by omega)) wPre_blind (wPre_now hK hN hP) (x_recv hK hP 0 (by decide) (yG_9 rfl) rfl) rfl mw_1662 mw_1664 mw_74 mw_123 mw_1665 (by decide +kernel) ⟨by decide, by decide⟩ hl.1 rfl (Nat.le_of_ble_eq_true rfl) ⟨Nat.zero_le _, Nat.zero_le _⟩ dX9_judges_60 (fun r13 hr13 => ?_)
          obtain ⟨z13, hz13, rfl⟩ := hr13
          refine s_if_eq (a := z13) (tgt := 75) hE.1 hE.2.1 (by omega) dX9_judges_63 (by decide) (fun c14 => ?_) (fun c14 => ?_)
          · skip
            refine lv_bipush (v := iI (9)) hE.1 hE.2.1 dX9_judges_75 (by decide) ?_
            refine x_put (x := iI (9)) hE hK hN hP hS 0 (by decide) (yG_9 rfl) rfl hin9 tyX9 tyX9_ok nmX9 46 (by decide) mw_1380 rfl rfl rfl (Nat.le_of_ble_eq_true rfl) (yG_9 rfl) dX9_judges_77 (fun v15 H locs hv15 hP hS => ?_)
            have hI := YI_putN hI hv15 (by decide)
            refine lv_aload_n hE.1 hE.2.1 dX9_judges_80 rfl (lv_at hl 2 rfl) ?_
            refine x_get (x := .int (v15 0 46)) hE hK hP 0 (by decide) (yG_9 rfl) rfl hin9 46 (by decide) mw_1380 rfl dX9_judges_81 ?_
            refine x_top (y := iI (9)) (up_eq hv15) ?_
            refine s_if_eq (a := 9) (tgt := 89) hE.1 hE.2.1 (by omega) dX9_judges_84 (by decide) (fun c16 => False.elim (by omega)) (fun _ => ?_)
            refine lv_iload_n hE.1 hE.2.1 dX9_judges_87 rfl (lv_at hl 1 rfl) ?_
            exact kr _ v15 arl3 all3 _ _ _ _ rfl ⟨⟨y3_2, by omega, rfl⟩, hI, fun i j h => ((up_oth hv15 (fun q => h (by rcases q with ⟨rfl, rfl⟩; decide))).trans ((hfr3 i j (fun q => h (mem_sub (by decide) q))).trans ((up_oth hv2 (fun q => h (by rcases q with ⟨rfl, rfl⟩; decide))).trans (hq1 i j (fun q => h (mem_sub (by decide) q)))))), fun i h => ((hfa3 i (fun q => h (mem_subn (by decide) q))).trans (hqa1 i (fun q => h (mem_subn (by decide) q)))), fun i h => ((hfl3 i (fun q => h (mem_subn (by decide) q))).trans (hql1 i (fun q => h (mem_subn (by decide) q))))⟩ hP hS dX9_judges_88
          · skip
            refine lv_aload_n hE.1 hE.2.1 dX9_judges_66 rfl (lv_at hl 2 rfl) ?_
            refine lv_lload_n hE.1 hE.2.1 dX9_judges_67 rfl (lv_at hl 0 rfl) ?_
            refine lv_l2i (v := iI (z9)) hE.1 hE.2.1 dX9_judges_68 (lI_l2i _) ?_
            refine x_vp (nn := 1) (As := [.int (iI (z9))]) (rest := [.ref (ad 0)]) hE (s_X9_whyNot l D K ad vl3 arl3 all3 hI (w_1) (by omega) ((congrFun (hfa3 7 (by decide)) 0).trans ((congrFun (hqa1 7 (by decide)) 0).trans ew_1)) (z9) (by omega)) wPre_blind (wPre_now hK hN hP) (x_recv hK hP 0 (by decide) (yG_9 rfl) rfl) rfl mw_1698 mw_1700 mw_75 mw_123 mw_1701 (by decide +kernel) ⟨by decide, by decide⟩ hl.1 rfl (Nat.le_of_ble_eq_true rfl) ⟨Nat.zero_le _, Nat.zero_le _⟩ dX9_judges_69 (fun r17 hr17 => ?_)
            obtain ⟨z17, hz17, rfl⟩ := hr17
            refine lv_goto (tgt := 77) hE.1 hE.2.1 dX9_judges_72 (by decide) ?_
            refine x_put (x := iI (z17)) hE hK hN hP hS 0 (by decide) (yG_9 rfl) rfl hin9 tyX9 tyX9_ok nmX9 46 (by decide) mw_1380 rfl rfl rfl (Nat.le_of_ble_eq_true rfl) (yG_9 rfl) dX9_judges_77 (fun v18 H locs hv18 hP hS => ?_)
            have hI := YI_putN hI hv18 (by decide)
            refine lv_aload_n hE.1 hE.2.1 dX9_judges_80 rfl (lv_at hl 2 rfl) ?_
            refine x_get (x := .int (v18 0 46)) hE hK hP 0 (by decide) (yG_9 rfl) rfl hin9 46 (by decide) mw_1380 rfl dX9_judges_81 ?_
            refine x_top (y := iI (z17)) (up_eq hv18) ?_
            refine s_if_eq (a := z17) (tgt := 89) hE.1 hE.2.1 (by omega) dX9_judges_84 (by decide) (fun c19 => ?_) (fun c19 => ?_)
            · skip
              refine lv_aload_n hE.1 hE.2.1 dX9_judges_89 rfl (lv_at hl 2 rfl) ?_
              refine lv_lload_n hE.1 hE.2.1 dX9_judges_90 rfl (lv_at hl 0 rfl) ?_
              refine lv_l2i (v := iI (z9)) hE.1 hE.2.1 dX9_judges_91 (lI_l2i _) ?_
              refine x_vv (nn := 1) (As := [.int (iI (z9))]) (rest := []) hE hK hN hP hS (s_X9_puts l D K ad v18 arl3 all3 hI (yf3_0) (by omega) ((up_oth hv18 (by decide)).trans eyf3_0) (yf3_1) (by omega) ((up_oth hv18 (by decide)).trans eyf3_1) (yf3_2) (by omega) ((up_oth hv18 (by decide)).trans eyf3_2) (w_1) (by omega) ((congrFun (hfa3 7 (by decide)) 0).trans ((congrFun (hqa1 7 (by decide)) 0).trans ew_1)) (z9) (by omega)) (x_recv hK hP 0 (by decide) (yG_9 rfl) rfl) rfl mw_1646 mw_1648 mw_71 mw_123 mw_1649 (by decide +kernel) ⟨by decide, by decide⟩ hl.1 rfl (Nat.le_of_ble_eq_true rfl) ⟨Nat.zero_le _, Nat.zero_le _⟩ dX9_judges_92 (fun v20 ar20 al20 H locs hq20 hP hS => ?_)
              obtain ⟨hI, hq20, hqa20, hql20, x20_1, x20_2, x20_3, hx20, ex20_1, ex20_2, ex20_3⟩ := hq20
              have hI : YI v20 ar20 := hI
              refine lv_iinc (v := iI (y3_2 + 1)) (lv' := [(2, .int (iI (y3_2 + 1))), (3, .long (lI (z9))), (0, .ref (ad 0)), (1, .int (iI (z_1)))]) hE.1 hE.2.1 dX9_judges_95 hl (k := 1) rfl ((iI_add (y3_2) (1)).trans (congrArg iI (by omega))) (by decide) rfl (fun ls hl => ?_)
              refine lv_goto (tgt := 11) hE.1 hE.2.1 dX9_judges_98 (by decide) ?_
              exact ih3 _ (by omega) (y3_2 + 1) (x20_1) (x20_2) (x20_3) v20 ar20 al20 _ _ _ rfl (by omega) (by omega) ex20_1 ex20_2 ex20_3 hI (fun i j h => (((hq20 i j (fun q => h (mem_sub (by decide) q))).trans (up_oth hv18 (fun q => h (by rcases q with ⟨rfl, rfl⟩; decide)))).trans (hfr3 i j h))) (fun i h => ((hqa20 i (fun q => h (mem_subn (by decide) q))).trans (hfa3 i h))) (fun i h => ((hql20 i (fun q => h (mem_subn (by decide) q))).trans (hfl3 i h))) hP hS (lv_sub hl [0, 2, 3] rfl)
            · skip
              refine lv_iload_n hE.1 hE.2.1 dX9_judges_87 rfl (lv_at hl 1 rfl) ?_
              exact kr _ v18 arl3 all3 _ _ _ _ rfl ⟨⟨y3_2, by omega, rfl⟩, hI, fun i j h => ((up_oth hv18 (fun q => h (by rcases q with ⟨rfl, rfl⟩; decide))).trans ((hfr3 i j (fun q => h (mem_sub (by decide) q))).trans ((up_oth hv2 (fun q => h (by rcases q with ⟨rfl, rfl⟩; decide))).trans (hq1 i j (fun q => h (mem_sub (by decide) q)))))), fun i h => ((hfa3 i (fun q => h (mem_subn (by decide) q))).trans (hqa1 i (fun q => h (mem_subn (by decide) q)))), fun i h => ((hfl3 i (fun q => h (mem_subn (by decide) q))).trans (hql1 i (fun q => h (mem_subn (by decide) q))))⟩ hP hS dX9_judges_88
        · skip
          refine lv_aload_n hE.1 hE.2.1 dX9_judges_42 rfl (lv_at hl 2 rfl) ?_
          refine x_vp (nn := 0) (As := []) (rest := [.ref (ad 0)]) hE (s_X9_maySilence l D K ad vl3 arl3 all3 hI (w_1) (by omega) ((congrFun (hfa3 7 (by decide)) 0).trans ((congrFun (hqa1 7 (by decide)) 0).trans ew_1)) ) wPre_blind (wPre_now hK hN hP) (x_recv hK hP 0 (by decide) (yG_9 rfl) rfl) rfl mw_1722 mw_1724 mw_80 mw_123 mw_1725 (by decide +kernel) ⟨by decide, by decide⟩ hl.1 rfl (Nat.le_of_ble_eq_true rfl) ⟨Nat.zero_le _, Nat.zero_le _⟩ dX9_judges_43 (fun r21 hr21 => ?_)
          obtain ⟨z21, hz21, rfl⟩ := hr21
          refine s_if_eq (a := z21) (tgt := 53) hE.1 hE.2.1 (by omega) dX9_judges_46 (by decide) (fun c22 => ?_) (fun c22 => ?_)
          · skip
            refine lv_bipush (v := iI (9)) hE.1 hE.2.1 dX9_judges_53 (by decide) ?_
            refine lv_goto (tgt := 77) hE.1 hE.2.1 dX9_judges_55 (by decide) ?_
            refine x_put (x := iI (9)) hE hK hN hP hS 0 (by decide) (yG_9 rfl) rfl hin9 tyX9 tyX9_ok nmX9 46 (by decide) mw_1380 rfl rfl rfl (Nat.le_of_ble_eq_true rfl) (yG_9 rfl) dX9_judges_77 (fun v23 H locs hv23 hP hS => ?_)
            have hI := YI_putN hI hv23 (by decide)
            refine lv_aload_n hE.1 hE.2.1 dX9_judges_80 rfl (lv_at hl 2 rfl) ?_
            refine x_get (x := .int (v23 0 46)) hE hK hP 0 (by decide) (yG_9 rfl) rfl hin9 46 (by decide) mw_1380 rfl dX9_judges_81 ?_
            refine x_top (y := iI (9)) (up_eq hv23) ?_
            refine s_if_eq (a := 9) (tgt := 89) hE.1 hE.2.1 (by omega) dX9_judges_84 (by decide) (fun c24 => False.elim (by omega)) (fun _ => ?_)
            refine lv_iload_n hE.1 hE.2.1 dX9_judges_87 rfl (lv_at hl 1 rfl) ?_
            exact kr _ v23 arl3 all3 _ _ _ _ rfl ⟨⟨y3_2, by omega, rfl⟩, hI, fun i j h => ((up_oth hv23 (fun q => h (by rcases q with ⟨rfl, rfl⟩; decide))).trans ((hfr3 i j (fun q => h (mem_sub (by decide) q))).trans ((up_oth hv2 (fun q => h (by rcases q with ⟨rfl, rfl⟩; decide))).trans (hq1 i j (fun q => h (mem_sub (by decide) q)))))), fun i h => ((hfa3 i (fun q => h (mem_subn (by decide) q))).trans (hqa1 i (fun q => h (mem_subn (by decide) q)))), fun i h => ((hfl3 i (fun q => h (mem_subn (by decide) q))).trans (hql1 i (fun q => h (mem_subn (by decide) q))))⟩ hP hS dX9_judges_88
          · skip
            refine lv_iconst (v := iI (0)) hE.1 hE.2.1 dX9_judges_49 (by decide) ?_
            refine lv_goto (tgt := 77) hE.1 hE.2.1 dX9_judges_50 (by decide) ?_
            refine x_put (x := iI (0)) hE hK hN hP hS 0 (by decide) (yG_9 rfl) rfl hin9 tyX9 tyX9_ok nmX9 46 (by decide) mw_1380 rfl rfl rfl (Nat.le_of_ble_eq_true rfl) (yG_9 rfl) dX9_judges_77 (fun v25 H locs hv25 hP hS => ?_)
            have hI := YI_putN hI hv25 (by decide)
            refine lv_aload_n hE.1 hE.2.1 dX9_judges_80 rfl (lv_at hl 2 rfl) ?_
            refine x_get (x := .int (v25 0 46)) hE hK hP 0 (by decide) (yG_9 rfl) rfl hin9 46 (by decide) mw_1380 rfl dX9_judges_81 ?_
            refine x_top (y := iI (0)) (up_eq hv25) ?_
            refine s_if_eq (a := 0) (tgt := 89) hE.1 hE.2.1 (by omega) dX9_judges_84 (by decide) (fun _ => ?_) (fun c26 => False.elim (by omega))
            refine lv_aload_n hE.1 hE.2.1 dX9_judges_89 rfl (lv_at hl 2 rfl) ?_
            refine lv_lload_n hE.1 hE.2.1 dX9_judges_90 rfl (lv_at hl 0 rfl) ?_
            refine lv_l2i (v := iI (z9)) hE.1 hE.2.1 dX9_judges_91 (lI_l2i _) ?_
            refine x_vv (nn := 1) (As := [.int (iI (z9))]) (rest := []) hE hK hN hP hS (s_X9_puts l D K ad v25 arl3 all3 hI (yf3_0) (by omega) ((up_oth hv25 (by decide)).trans eyf3_0) (yf3_1) (by omega) ((up_oth hv25 (by decide)).trans eyf3_1) (yf3_2) (by omega) ((up_oth hv25 (by decide)).trans eyf3_2) (w_1) (by omega) ((congrFun (hfa3 7 (by decide)) 0).trans ((congrFun (hqa1 7 (by decide)) 0).trans ew_1)) (z9) (by omega)) (x_recv hK hP 0 (by decide) (yG_9 rfl) rfl) rfl mw_1646 mw_1648 mw_71 mw_123 mw_1649 (by decide +kernel) ⟨by decide, by decide⟩ hl.1 rfl (Nat.le_of_ble_eq_true rfl) ⟨Nat.zero_le _, Nat.zero_le _⟩ dX9_judges_92 (fun v27 ar27 al27 H locs hq27 hP hS => ?_)
            obtain ⟨hI, hq27, hqa27, hql27, x27_1, x27_2, x27_3, hx27, ex27_1, ex27_2, ex27_3⟩ := hq27
            have hI : YI v27 ar27 := hI
            refine lv_iinc (v := iI (y3_2 + 1)) (lv' := [(2, .int (iI (y3_2 + 1))), (3, .long (lI (z9))), (0, .ref (ad 0)), (1, .int (iI (z_1)))]) hE.1 hE.2.1 dX9_judges_95 hl (k := 1) rfl ((iI_add (y3_2) (1)).trans (congrArg iI (by omega))) (by decide) rfl (fun ls hl => ?_)
            refine lv_goto (tgt := 11) hE.1 hE.2.1 dX9_judges_98 (by decide) ?_
            exact ih3 _ (by omega) (y3_2 + 1) (x27_1) (x27_2) (x27_3) v27 ar27 al27 _ _ _ rfl (by omega) (by omega) ex27_1 ex27_2 ex27_3 hI (fun i j h => (((hq27 i j (fun q => h (mem_sub (by decide) q))).trans (up_oth hv25 (fun q => h (by rcases q with ⟨rfl, rfl⟩; decide)))).trans (hfr3 i j h))) (fun i h => ((hqa27 i (fun q => h (mem_subn (by decide) q))).trans (hfa3 i h))) (fun i h => ((hql27 i (fun q => h (mem_subn (by decide) q))).trans (hfl3 i h))) hP hS (lv_sub hl [0, 2, 3] rfl)
  exact loop3 _ (0) (x1_1) (x1_2) (x1_3) v2 ar1 al1 _ _ _ rfl (by omega) (by omega) ((up_oth hv2 (by decide)).trans ex1_1) ((up_oth hv2 (by decide)).trans ex1_2) ((up_oth hv2 (by decide)).trans ex1_3) hI (fun _ _ _ => rfl) (fun _ _ => rfl) (fun _ _ => rfl) hP hS hl

theorem dX9_judge_0 : decode cX9_judge 0 = .ok (.aload_n 0, 1) := by decide +kernel
theorem dX9_judge_1 : decode cX9_judge 1 = .ok (.iconst 0, 1) := by decide +kernel
theorem dX9_judge_2 : decode cX9_judge 2 = .ok (.putfield 81, 3) := by decide +kernel
theorem dX9_judge_5 : decode cX9_judge 5 = .ok (.aload_n 0, 1) := by decide +kernel
theorem dX9_judge_6 : decode cX9_judge 6 = .ok (.iload_n 1, 1) := by decide +kernel
theorem dX9_judge_7 : decode cX9_judge 7 = .ok (.invokevirtual 418, 3) := by decide +kernel
theorem dX9_judge_10 : decode cX9_judge 10 = .ok (.istore_n 2, 1) := by decide +kernel
theorem dX9_judge_11 : decode cX9_judge 11 = .ok (.iload_n 2, 1) := by decide +kernel
theorem dX9_judge_12 : decode cX9_judge 12 = .ok (.ifCond .eq 7, 3) := by decide +kernel
theorem dX9_judge_15 : decode cX9_judge 15 = .ok (.iload_n 2, 1) := by decide +kernel
theorem dX9_judge_16 : decode cX9_judge 16 = .ok (.goto 8, 3) := by decide +kernel
theorem dX9_judge_19 : decode cX9_judge 19 = .ok (.aload_n 0, 1) := by decide +kernel
theorem dX9_judge_20 : decode cX9_judge 20 = .ok (.iload_n 1, 1) := by decide +kernel
theorem dX9_judge_21 : decode cX9_judge 21 = .ok (.invokevirtual 421, 3) := by decide +kernel
theorem dX9_judge_24 : decode cX9_judge 24 = .ok (.ireturn, 1) := by decide +kernel
set_option maxHeartbeats 4000000 in
set_option maxRecDepth 100000 in
theorem s_X9_judge (l : Launch) (D : va_G) (K : Nat → ClassId) (ad : Nat → Nat) (v ar : sI) (al : sL) (hI : YI v ar) (z_1 : Int) (hz_1 : -2147483648 ≤ z_1 ∧ z_1 ≤ 2147483647) : Met l yX9_judge (wM yX9_judge cX9_judge 3 (some .int)) (rmD 4) (va_Pc [.ref (ad 0), .int (iI (z_1))] (wPre D K ad (yG ad K) 21 v ar al)) (va_Qi (fun (r : Int32) (u : sT) => (∃ z : Int, (-2147483648 ≤ z ∧ z ≤ 2147483647) ∧ r = iI z) ∧ YI u.1 u.2.1 ∧ (∀ i j : Nat, (i, j) ∉ ([(0, 0), (0, 24), (0, 25), (0, 26), (0, 27), (0, 46)] : List (Nat × Nat)) → u.1 i j = v i j) ∧ (∀ i : Nat, i ∉ ([12, 13, 14] : List Nat) → u.2.1 i = ar i) ∧ (∀ i : Nat, i ∉ ([] : List Nat) → u.2.2 i = al i)) (wB D ad (yG ad K) 21) (inW ad 21)) 0 0 (inW ad 21) := by
  refine s_metI (by decide) (Nat.le_of_ble_eq_true rfl) ?_
  intro p e s m below meth c ls args Q hE hB hl kr
  have hE : CallFix p m c cX9_judge 3 s args tbG "TaleCourtModel" := hE
  obtain ⟨hP, hK, hN⟩ := hB
  have hS : va_S (inW ad 21) s.heap s.heap [] := va_S.rf
  have hl : lv_has ls 3 [(0, .ref (ad 0)), (1, .int (iI (z_1)))] := hl
  obtain ⟨z1, hz1, ez1⟩ := iI_of (ar 6 0)
  obtain ⟨z2, hz2, ez2⟩ := YI_h2 hI 2 (by decide)
  obtain ⟨z3, hz3, ez3⟩ := YI_h5 hI 5 (by decide)
  obtain ⟨z4, hz4, ez4⟩ := YI_h0 hI 0 (by decide)
  have ht0 := YI_t0 hI ez1 (by omega) ez2 (by omega) ez3 (by omega) ez4 (by omega)
  refine lv_aload_n hE.1 hE.2.1 dX9_judge_0 rfl (lv_at hl 0 rfl) ?_
  refine lv_iconst (v := iI (0)) hE.1 hE.2.1 dX9_judge_1 (by decide) ?_
  refine x_put (x := iI (0)) hE hK hN hP hS 0 (by decide) (yG_9 rfl) rfl hin9 tyX9 tyX9_ok nmX9 0 (by decide) mw_1334 rfl rfl rfl (Nat.le_of_ble_eq_true rfl) (yG_9 rfl) dX9_judge_2 (fun v5 H locs hv5 hP hS => ?_)
  have hI := YI_putN hI hv5 (by decide)
  refine lv_aload_n hE.1 hE.2.1 dX9_judge_5 rfl (lv_at hl 0 rfl) ?_
  refine lv_iload_n hE.1 hE.2.1 dX9_judge_6 rfl (lv_at hl 1 rfl) ?_
  refine x_vp (nn := 1) (As := [.int (iI (z_1))]) (rest := []) hE (s_X9_whyNoRow l D K ad v5 ar al hI (z1) (by omega) ez1 (z_1) (by omega)) wPre_blind (wPre_now hK hN hP) (x_recv hK hP 0 (by decide) (yG_9 rfl) rfl) rfl mw_1974 mw_1976 mw_104 mw_123 mw_1977 (by decide +kernel) ⟨by decide, by decide⟩ hl.1 rfl (Nat.le_of_ble_eq_true rfl) ⟨Nat.zero_le _, Nat.zero_le _⟩ dX9_judge_7 (fun r6 hr6 => ?_)
  obtain ⟨z6, hz6, rfl⟩ := hr6
  refine lv_istore_n (lv' := [(2, .int (iI (z6))), (0, .ref (ad 0)), (1, .int (iI (z_1)))]) hE.1 hE.2.1 dX9_judge_10 rfl hl (by decide) rfl (fun ls hl => ?_)
  refine lv_iload_n hE.1 hE.2.1 dX9_judge_11 rfl (lv_at hl 0 rfl) ?_
  refine s_if_eq (a := z6) (tgt := 19) hE.1 hE.2.1 (by omega) dX9_judge_12 (by decide) (fun c7 => ?_) (fun c7 => ?_)
  · skip
    refine lv_aload_n hE.1 hE.2.1 dX9_judge_19 rfl (lv_at hl 1 rfl) ?_
    refine lv_iload_n hE.1 hE.2.1 dX9_judge_20 rfl (lv_at hl 2 rfl) ?_
    refine x_vi (nn := 1) (As := [.int (iI (z_1))]) (rest := []) hE hK hN hP hS (s_X9_judges l D K ad v5 ar al hI (z4) (by omega) ez4 (z_1) (by omega)) (x_recv hK hP 0 (by decide) (yG_9 rfl) rfl) rfl mw_1978 mw_1980 mw_105 mw_123 mw_1981 (by decide +kernel) ⟨by decide, by decide⟩ hl.1 rfl (Nat.le_of_ble_eq_true rfl) ⟨Nat.zero_le _, Nat.zero_le _⟩ dX9_judge_21 (fun r8 v8 ar8 al8 H locs hq8 hP hS => ?_)
    obtain ⟨⟨z8, hz8, rfl⟩, hI, hq8, hqa8, hql8⟩ := hq8
    have hI : YI v8 ar8 := hI
    exact kr _ v8 ar8 al8 _ _ _ _ rfl ⟨⟨z8, by omega, rfl⟩, hI, fun i j h => ((hq8 i j (fun q => h (mem_sub (by decide) q))).trans (up_oth hv5 (fun q => h (by rcases q with ⟨rfl, rfl⟩; decide)))), fun i h => (hqa8 i (fun q => h (mem_subn (by decide) q))), fun i h => (hql8 i (fun q => h (mem_subn (by decide) q)))⟩ hP hS dX9_judge_24
  · skip
    refine lv_iload_n hE.1 hE.2.1 dX9_judge_15 rfl (lv_at hl 0 rfl) ?_
    refine lv_goto (tgt := 24) hE.1 hE.2.1 dX9_judge_16 (by decide) ?_
    exact kr _ v5 ar al _ _ _ _ rfl ⟨⟨z6, by omega, rfl⟩, hI, fun i j h => (up_oth hv5 (fun q => h (by rcases q with ⟨rfl, rfl⟩; decide))), fun i h => rfl, fun i h => rfl⟩ hP hS dX9_judge_24

theorem dX9_verdict_0 : decode cX9_verdict 0 = .ok (.aload_n 0, 1) := by decide +kernel
theorem dX9_verdict_1 : decode cX9_verdict 1 = .ok (.iconst 0, 1) := by decide +kernel
theorem dX9_verdict_2 : decode cX9_verdict 2 = .ok (.putfield 81, 3) := by decide +kernel
theorem dX9_verdict_5 : decode cX9_verdict 5 = .ok (.aload_n 0, 1) := by decide +kernel
theorem dX9_verdict_6 : decode cX9_verdict 6 = .ok (.iload_n 1, 1) := by decide +kernel
theorem dX9_verdict_7 : decode cX9_verdict 7 = .ok (.invokevirtual 418, 3) := by decide +kernel
theorem dX9_verdict_10 : decode cX9_verdict 10 = .ok (.istore_n 2, 1) := by decide +kernel
theorem dX9_verdict_11 : decode cX9_verdict 11 = .ok (.iload_n 2, 1) := by decide +kernel
theorem dX9_verdict_12 : decode cX9_verdict 12 = .ok (.ifCond .eq 5, 3) := by decide +kernel
theorem dX9_verdict_15 : decode cX9_verdict 15 = .ok (.iload_n 2, 1) := by decide +kernel
theorem dX9_verdict_16 : decode cX9_verdict 16 = .ok (.ireturn, 1) := by decide +kernel
theorem dX9_verdict_17 : decode cX9_verdict 17 = .ok (.aload_n 0, 1) := by decide +kernel
theorem dX9_verdict_18 : decode cX9_verdict 18 = .ok (.iload_n 1, 1) := by decide +kernel
theorem dX9_verdict_19 : decode cX9_verdict 19 = .ok (.invokevirtual 421, 3) := by decide +kernel
theorem dX9_verdict_22 : decode cX9_verdict 22 = .ok (.pop, 1) := by decide +kernel
theorem dX9_verdict_23 : decode cX9_verdict 23 = .ok (.aload_n 0, 1) := by decide +kernel
theorem dX9_verdict_24 : decode cX9_verdict 24 = .ok (.getfield 415, 3) := by decide +kernel
theorem dX9_verdict_27 : decode cX9_verdict 27 = .ok (.ireturn, 1) := by decide +kernel
set_option maxHeartbeats 4000000 in
set_option maxRecDepth 100000 in
theorem s_X9_verdict (l : Launch) (D : va_G) (K : Nat → ClassId) (ad : Nat → Nat) (v ar : sI) (al : sL) (hI : YI v ar) (z_1 : Int) (hz_1 : -2147483648 ≤ z_1 ∧ z_1 ≤ 2147483647) : Met l yX9_verdict (wM yX9_verdict cX9_verdict 3 (some .int)) (rmD 4) (va_Pc [.ref (ad 0), .int (iI (z_1))] (wPre D K ad (yG ad K) 21 v ar al)) (va_Qi (fun (r : Int32) (u : sT) => (∃ z : Int, (-2147483648 ≤ z ∧ z ≤ 2147483647) ∧ r = iI z) ∧ YI u.1 u.2.1 ∧ (∀ i j : Nat, (i, j) ∉ ([(0, 0), (0, 24), (0, 25), (0, 26), (0, 27), (0, 46)] : List (Nat × Nat)) → u.1 i j = v i j) ∧ (∀ i : Nat, i ∉ ([12, 13, 14] : List Nat) → u.2.1 i = ar i) ∧ (∀ i : Nat, i ∉ ([] : List Nat) → u.2.2 i = al i)) (wB D ad (yG ad K) 21) (inW ad 21)) 0 0 (inW ad 21) := by
  refine s_metI (by decide) (Nat.le_of_ble_eq_true rfl) ?_
  intro p e s m below meth c ls args Q hE hB hl kr
  have hE : CallFix p m c cX9_verdict 3 s args tbG "TaleCourtModel" := hE
  obtain ⟨hP, hK, hN⟩ := hB
  have hS : va_S (inW ad 21) s.heap s.heap [] := va_S.rf
  have hl : lv_has ls 3 [(0, .ref (ad 0)), (1, .int (iI (z_1)))] := hl
  obtain ⟨z1, hz1, ez1⟩ := iI_of (ar 6 0)
  obtain ⟨z2, hz2, ez2⟩ := YI_h2 hI 2 (by decide)
  obtain ⟨z3, hz3, ez3⟩ := YI_h5 hI 5 (by decide)
  obtain ⟨z4, hz4, ez4⟩ := YI_h0 hI 0 (by decide)
  have ht0 := YI_t0 hI ez1 (by omega) ez2 (by omega) ez3 (by omega) ez4 (by omega)
  refine lv_aload_n hE.1 hE.2.1 dX9_verdict_0 rfl (lv_at hl 0 rfl) ?_
  refine lv_iconst (v := iI (0)) hE.1 hE.2.1 dX9_verdict_1 (by decide) ?_
  refine x_put (x := iI (0)) hE hK hN hP hS 0 (by decide) (yG_9 rfl) rfl hin9 tyX9 tyX9_ok nmX9 0 (by decide) mw_1334 rfl rfl rfl (Nat.le_of_ble_eq_true rfl) (yG_9 rfl) dX9_verdict_2 (fun v5 H locs hv5 hP hS => ?_)
  have hI := YI_putN hI hv5 (by decide)
  refine lv_aload_n hE.1 hE.2.1 dX9_verdict_5 rfl (lv_at hl 0 rfl) ?_
  refine lv_iload_n hE.1 hE.2.1 dX9_verdict_6 rfl (lv_at hl 1 rfl) ?_
  refine x_vp (nn := 1) (As := [.int (iI (z_1))]) (rest := []) hE (s_X9_whyNoRow l D K ad v5 ar al hI (z1) (by omega) ez1 (z_1) (by omega)) wPre_blind (wPre_now hK hN hP) (x_recv hK hP 0 (by decide) (yG_9 rfl) rfl) rfl mw_1974 mw_1976 mw_104 mw_123 mw_1977 (by decide +kernel) ⟨by decide, by decide⟩ hl.1 rfl (Nat.le_of_ble_eq_true rfl) ⟨Nat.zero_le _, Nat.zero_le _⟩ dX9_verdict_7 (fun r6 hr6 => ?_)
  obtain ⟨z6, hz6, rfl⟩ := hr6
  refine lv_istore_n (lv' := [(2, .int (iI (z6))), (0, .ref (ad 0)), (1, .int (iI (z_1)))]) hE.1 hE.2.1 dX9_verdict_10 rfl hl (by decide) rfl (fun ls hl => ?_)
  refine lv_iload_n hE.1 hE.2.1 dX9_verdict_11 rfl (lv_at hl 0 rfl) ?_
  refine s_if_eq (a := z6) (tgt := 17) hE.1 hE.2.1 (by omega) dX9_verdict_12 (by decide) (fun c7 => ?_) (fun c7 => ?_)
  · skip
    refine lv_aload_n hE.1 hE.2.1 dX9_verdict_17 rfl (lv_at hl 1 rfl) ?_
    refine lv_iload_n hE.1 hE.2.1 dX9_verdict_18 rfl (lv_at hl 2 rfl) ?_
    refine x_vi (nn := 1) (As := [.int (iI (z_1))]) (rest := []) hE hK hN hP hS (s_X9_judges l D K ad v5 ar al hI (z4) (by omega) ez4 (z_1) (by omega)) (x_recv hK hP 0 (by decide) (yG_9 rfl) rfl) rfl mw_1978 mw_1980 mw_105 mw_123 mw_1981 (by decide +kernel) ⟨by decide, by decide⟩ hl.1 rfl (Nat.le_of_ble_eq_true rfl) ⟨Nat.zero_le _, Nat.zero_le _⟩ dX9_verdict_19 (fun r8 v8 ar8 al8 H locs hq8 hP hS => ?_)
    obtain ⟨⟨z8, hz8, rfl⟩, hI, hq8, hqa8, hql8⟩ := hq8
    have hI : YI v8 ar8 := hI
    refine lv_pop hE.1 hE.2.1 dX9_verdict_22 rfl ?_
    refine lv_aload_n hE.1 hE.2.1 dX9_verdict_23 rfl (lv_at hl 1 rfl) ?_
    obtain ⟨z9, hz9, ez9⟩ := iI_of (v8 0 46)
    refine x_get (x := .int (v8 0 46)) hE hK hP 0 (by decide) (yG_9 rfl) rfl hin9 46 (by decide) mw_1380 rfl dX9_verdict_24 ?_
    refine x_top (y := iI (z9)) ez9 ?_
    exact kr _ v8 ar8 al8 _ _ _ _ rfl ⟨⟨z9, by omega, rfl⟩, hI, fun i j h => ((hq8 i j (fun q => h (mem_sub (by decide) q))).trans (up_oth hv5 (fun q => h (by rcases q with ⟨rfl, rfl⟩; decide)))), fun i h => (hqa8 i (fun q => h (mem_subn (by decide) q))), fun i h => (hql8 i (fun q => h (mem_subn (by decide) q)))⟩ hP hS dX9_verdict_27
  · skip
    refine lv_iload_n hE.1 hE.2.1 dX9_verdict_15 rfl (lv_at hl 0 rfl) ?_
    exact kr _ v5 ar al _ _ _ _ rfl ⟨⟨z6, by omega, rfl⟩, hI, fun i j h => (up_oth hv5 (fun q => h (by rcases q with ⟨rfl, rfl⟩; decide))), fun i h => rfl, fun i h => rfl⟩ hP hS dX9_verdict_16

theorem dX9_unsay_0 : decode cX9_unsay 0 = .ok (.aload_n 0, 1) := by decide +kernel
theorem dX9_unsay_1 : decode cX9_unsay 1 = .ok (.iconst 0, 1) := by decide +kernel
theorem dX9_unsay_2 : decode cX9_unsay 2 = .ok (.putfield 81, 3) := by decide +kernel
theorem dX9_unsay_5 : decode cX9_unsay 5 = .ok (.aload_n 0, 1) := by decide +kernel
theorem dX9_unsay_6 : decode cX9_unsay 6 = .ok (.invokevirtual 301, 3) := by decide +kernel
theorem dX9_unsay_9 : decode cX9_unsay 9 = .ok (.ifCond .ne 6, 3) := by decide +kernel
theorem dX9_unsay_12 : decode cX9_unsay 12 = .ok (.bipush (-2), 2) := by decide +kernel
theorem dX9_unsay_14 : decode cX9_unsay 14 = .ok (.ireturn, 1) := by decide +kernel
theorem dX9_unsay_15 : decode cX9_unsay 15 = .ok (.aload_n 0, 1) := by decide +kernel
theorem dX9_unsay_16 : decode cX9_unsay 16 = .ok (.getfield 34, 3) := by decide +kernel
theorem dX9_unsay_19 : decode cX9_unsay 19 = .ok (.iconst 5, 1) := by decide +kernel
theorem dX9_unsay_20 : decode cX9_unsay 20 = .ok (.iaload, 1) := by decide +kernel
theorem dX9_unsay_21 : decode cX9_unsay 21 = .ok (.ifCond .ne 6, 3) := by decide +kernel
theorem dX9_unsay_24 : decode cX9_unsay 24 = .ok (.bipush (-5), 2) := by decide +kernel
theorem dX9_unsay_26 : decode cX9_unsay 26 = .ok (.ireturn, 1) := by decide +kernel
theorem dX9_unsay_27 : decode cX9_unsay 27 = .ok (.aload_n 0, 1) := by decide +kernel
theorem dX9_unsay_28 : decode cX9_unsay 28 = .ok (.getfield 34, 3) := by decide +kernel
theorem dX9_unsay_31 : decode cX9_unsay 31 = .ok (.iconst 5, 1) := by decide +kernel
theorem dX9_unsay_32 : decode cX9_unsay 32 = .ok (.dup2, 1) := by decide +kernel
theorem dX9_unsay_33 : decode cX9_unsay 33 = .ok (.iaload, 1) := by decide +kernel
theorem dX9_unsay_34 : decode cX9_unsay 34 = .ok (.iconst 1, 1) := by decide +kernel
theorem dX9_unsay_35 : decode cX9_unsay 35 = .ok (.isub, 1) := by decide +kernel
theorem dX9_unsay_36 : decode cX9_unsay 36 = .ok (.iastore, 1) := by decide +kernel
theorem dX9_unsay_37 : decode cX9_unsay 37 = .ok (.aload_n 0, 1) := by decide +kernel
theorem dX9_unsay_38 : decode cX9_unsay 38 = .ok (.getfield 34, 3) := by decide +kernel
theorem dX9_unsay_41 : decode cX9_unsay 41 = .ok (.iconst 5, 1) := by decide +kernel
theorem dX9_unsay_42 : decode cX9_unsay 42 = .ok (.iaload, 1) := by decide +kernel
theorem dX9_unsay_43 : decode cX9_unsay 43 = .ok (.ireturn, 1) := by decide +kernel
set_option maxHeartbeats 4000000 in
set_option maxRecDepth 100000 in
theorem s_X9_unsay (l : Launch) (D : va_G) (K : Nat → ClassId) (ad : Nat → Nat) (v ar : sI) (al : sL) (hI : YI v ar) : Met l yX9_unsay (wM yX9_unsay cX9_unsay 1 (some .int)) (rmD 1) (va_Pc [.ref (ad 0)] (wPre D K ad (yG ad K) 21 v ar al)) (va_Qi (fun (r : Int32) (u : sT) => (∃ z : Int, (-2147483648 ≤ z ∧ z ≤ 2147483647) ∧ r = iI z) ∧ YI u.1 u.2.1 ∧ (∀ i j : Nat, (i, j) ∉ ([(0, 0)] : List (Nat × Nat)) → u.1 i j = v i j) ∧ (∀ i : Nat, i ∉ ([7] : List Nat) → u.2.1 i = ar i) ∧ (∀ i : Nat, i ∉ ([] : List Nat) → u.2.2 i = al i)) (wB D ad (yG ad K) 21) (inW ad 21)) 0 0 (inW ad 21) := by
  refine s_metI (by decide) (Nat.le_of_ble_eq_true rfl) ?_
  intro p e s m below meth c ls args Q hE hB hl kr
  have hE : CallFix p m c cX9_unsay 1 s args tbG "TaleCourtModel" := hE
  obtain ⟨hP, hK, hN⟩ := hB
  have hS : va_S (inW ad 21) s.heap s.heap [] := va_S.rf
  have hl : lv_has ls 1 [(0, .ref (ad 0))] := hl
  obtain ⟨z1, hz1, ez1⟩ := iI_of (ar 6 0)
  obtain ⟨z2, hz2, ez2⟩ := YI_h2 hI 2 (by decide)
  obtain ⟨z3, hz3, ez3⟩ := YI_h5 hI 5 (by decide)
  obtain ⟨z4, hz4, ez4⟩ := YI_h0 hI 0 (by decide)
  have ht0 := YI_t0 hI ez1 (by omega) ez2 (by omega) ez3 (by omega) ez4 (by omega)
  refine lv_aload_n hE.1 hE.2.1 dX9_unsay_0 rfl (lv_at hl 0 rfl) ?_
  refine lv_iconst (v := iI (0)) hE.1 hE.2.1 dX9_unsay_1 (by decide) ?_
  refine x_put (x := iI (0)) hE hK hN hP hS 0 (by decide) (yG_9 rfl) rfl hin9 tyX9 tyX9_ok nmX9 0 (by decide) mw_1334 rfl rfl rfl (Nat.le_of_ble_eq_true rfl) (yG_9 rfl) dX9_unsay_2 (fun v5 H locs hv5 hP hS => ?_)
  have hI := YI_putN hI hv5 (by decide)
  refine lv_aload_n hE.1 hE.2.1 dX9_unsay_5 rfl (lv_at hl 0 rfl) ?_
  refine x_vp (nn := 0) (As := []) (rest := []) hE (s_X9_isCourt l D K ad v5 ar al hI (z1) (by omega) ez1 ) wPre_blind (wPre_now hK hN hP) (x_recv hK hP 0 (by decide) (yG_9 rfl) rfl) rfl mw_1718 mw_1720 mw_79 mw_123 mw_1721 (by decide +kernel) ⟨by decide, by decide⟩ hl.1 rfl (Nat.le_of_ble_eq_true rfl) ⟨Nat.zero_le _, Nat.zero_le _⟩ dX9_unsay_6 (fun r6 hr6 => ?_)
  obtain ⟨z6, hz6, rfl⟩ := hr6
  refine s_if_ne (a := z6) (tgt := 15) hE.1 hE.2.1 (by omega) dX9_unsay_9 (by decide) (fun c7 => ?_) (fun c7 => ?_)
  · skip
    refine lv_aload_n hE.1 hE.2.1 dX9_unsay_15 rfl (lv_at hl 0 rfl) ?_
    refine x_get (x := .ref (ad 7)) hE hK hP 0 (by decide) (yG_9 rfl) rfl hin9 17 (by decide) mw_1351 rfl dX9_unsay_16 ?_
    refine lv_iconst (v := iI (5)) hE.1 hE.2.1 dX9_unsay_19 (by decide) ?_
    refine x_iald (j := iI (5)) hE hK hP 7 (by decide) (yG_10 rfl) (iI_in (n := 30) (by omega)) dX9_unsay_20 ?_
    refine x_top (y := iI (z3)) (by rw [show (iI (5)).toNatClampNeg = 5 from by decide]; exact ez3) ?_
    refine s_if_ne (a := z3) (tgt := 27) hE.1 hE.2.1 (by omega) dX9_unsay_21 (by decide) (fun c9 => ?_) (fun c9 => ?_)
    · skip
      refine lv_aload_n hE.1 hE.2.1 dX9_unsay_27 rfl (lv_at hl 0 rfl) ?_
      refine x_get (x := .ref (ad 7)) hE hK hP 0 (by decide) (yG_9 rfl) rfl hin9 17 (by decide) mw_1351 rfl dX9_unsay_28 ?_
      refine lv_iconst (v := iI (5)) hE.1 hE.2.1 dX9_unsay_31 (by decide) ?_
      refine lv_dup2_11 hE.1 hE.2.1 dX9_unsay_32 rfl rfl ?_
      refine x_iald (j := iI (5)) hE hK hP 7 (by decide) (yG_10 rfl) (iI_in (n := 30) (by omega)) dX9_unsay_33 ?_
      refine x_top (y := iI (z3)) (by rw [show (iI (5)).toNatClampNeg = 5 from by decide]; exact ez3) ?_
      refine lv_iconst (v := iI (1)) hE.1 hE.2.1 dX9_unsay_34 (by decide) ?_
      refine lv_isub hE.1 hE.2.1 dX9_unsay_35 ?_
      refine x_top (y := iI (z3 - 1)) ((iI_sub (z3) (1)).trans (congrArg iI (by omega))) ?_
      refine x_iast (j := iI (5)) hE hK hN hP hS 7 (by decide) (fun _ => yG_10 rfl) (iI_in (n := 30) (by omega)) dX9_unsay_36 (fun ar11 H locs ha11 hP hS => ?_)
      have hI := YI_cut (z := z3 - 1) (n := z3) hI ha11 ez3 (by omega) (by omega)
      refine lv_aload_n hE.1 hE.2.1 dX9_unsay_37 rfl (lv_at hl 0 rfl) ?_
      refine x_get (x := .ref (ad 7)) hE hK hP 0 (by decide) (yG_9 rfl) rfl hin9 17 (by decide) mw_1351 rfl dX9_unsay_38 ?_
      refine lv_iconst (v := iI (5)) hE.1 hE.2.1 dX9_unsay_41 (by decide) ?_
      refine x_iald (j := iI (5)) hE hK hP 7 (by decide) (yG_10 rfl) (iI_in (n := 30) (by omega)) dX9_unsay_42 ?_
      refine x_top (y := iI (z3 - 1)) (by rw [show (iI (5)).toNatClampNeg = 5 from by decide]; exact (upa_at ha11 (by decide))) ?_
      exact kr _ v5 ar11 al _ _ _ _ rfl ⟨⟨z3 - 1, by omega, rfl⟩, hI, fun i j h => (up_oth hv5 (fun q => h (by rcases q with ⟨rfl, rfl⟩; decide))), fun i h => (upx_ne ha11 i (fun q => h (by rw [q]; decide))), fun i h => rfl⟩ hP hS dX9_unsay_43
    · skip
      refine lv_bipush (v := iI (-5)) hE.1 hE.2.1 dX9_unsay_24 (by decide) ?_
      exact kr _ v5 ar al _ _ _ _ rfl ⟨⟨-5, by omega, rfl⟩, hI, fun i j h => (up_oth hv5 (fun q => h (by rcases q with ⟨rfl, rfl⟩; decide))), fun i h => rfl, fun i h => rfl⟩ hP hS dX9_unsay_26
  · skip
    refine lv_bipush (v := iI (-2)) hE.1 hE.2.1 dX9_unsay_12 (by decide) ?_
    exact kr _ v5 ar al _ _ _ _ rfl ⟨⟨-2, by omega, rfl⟩, hI, fun i j h => (up_oth hv5 (fun q => h (by rcases q with ⟨rfl, rfl⟩; decide))), fun i h => rfl, fun i h => rfl⟩ hP hS dX9_unsay_14

theorem dX9_anew_0 : decode cX9_anew 0 = .ok (.aload_n 0, 1) := by decide +kernel
theorem dX9_anew_1 : decode cX9_anew 1 = .ok (.iconst 0, 1) := by decide +kernel
theorem dX9_anew_2 : decode cX9_anew 2 = .ok (.putfield 81, 3) := by decide +kernel
theorem dX9_anew_5 : decode cX9_anew 5 = .ok (.aload_n 0, 1) := by decide +kernel
theorem dX9_anew_6 : decode cX9_anew 6 = .ok (.invokevirtual 301, 3) := by decide +kernel
theorem dX9_anew_9 : decode cX9_anew 9 = .ok (.ifCond .ne 6, 3) := by decide +kernel
theorem dX9_anew_12 : decode cX9_anew 12 = .ok (.bipush (-2), 2) := by decide +kernel
theorem dX9_anew_14 : decode cX9_anew 14 = .ok (.ireturn, 1) := by decide +kernel
theorem dX9_anew_15 : decode cX9_anew 15 = .ok (.aload_n 0, 1) := by decide +kernel
theorem dX9_anew_16 : decode cX9_anew 16 = .ok (.getfield 34, 3) := by decide +kernel
theorem dX9_anew_19 : decode cX9_anew 19 = .ok (.iconst 5, 1) := by decide +kernel
theorem dX9_anew_20 : decode cX9_anew 20 = .ok (.iaload, 1) := by decide +kernel
theorem dX9_anew_21 : decode cX9_anew 21 = .ok (.istore_n 1, 1) := by decide +kernel
theorem dX9_anew_22 : decode cX9_anew 22 = .ok (.aload_n 0, 1) := by decide +kernel
theorem dX9_anew_23 : decode cX9_anew 23 = .ok (.getfield 34, 3) := by decide +kernel
theorem dX9_anew_26 : decode cX9_anew 26 = .ok (.iconst 5, 1) := by decide +kernel
theorem dX9_anew_27 : decode cX9_anew 27 = .ok (.iconst 0, 1) := by decide +kernel
theorem dX9_anew_28 : decode cX9_anew 28 = .ok (.iastore, 1) := by decide +kernel
theorem dX9_anew_29 : decode cX9_anew 29 = .ok (.iload_n 1, 1) := by decide +kernel
theorem dX9_anew_30 : decode cX9_anew 30 = .ok (.ireturn, 1) := by decide +kernel
set_option maxHeartbeats 4000000 in
set_option maxRecDepth 100000 in
theorem s_X9_anew (l : Launch) (D : va_G) (K : Nat → ClassId) (ad : Nat → Nat) (v ar : sI) (al : sL) (hI : YI v ar) : Met l yX9_anew (wM yX9_anew cX9_anew 2 (some .int)) (rmD 1) (va_Pc [.ref (ad 0)] (wPre D K ad (yG ad K) 21 v ar al)) (va_Qi (fun (r : Int32) (u : sT) => (∃ z : Int, (-2147483648 ≤ z ∧ z ≤ 2147483647) ∧ r = iI z) ∧ YI u.1 u.2.1 ∧ (∀ i j : Nat, (i, j) ∉ ([(0, 0)] : List (Nat × Nat)) → u.1 i j = v i j) ∧ (∀ i : Nat, i ∉ ([7] : List Nat) → u.2.1 i = ar i) ∧ (∀ i : Nat, i ∉ ([] : List Nat) → u.2.2 i = al i)) (wB D ad (yG ad K) 21) (inW ad 21)) 0 0 (inW ad 21) := by
  refine s_metI (by decide) (Nat.le_of_ble_eq_true rfl) ?_
  intro p e s m below meth c ls args Q hE hB hl kr
  have hE : CallFix p m c cX9_anew 2 s args tbG "TaleCourtModel" := hE
  obtain ⟨hP, hK, hN⟩ := hB
  have hS : va_S (inW ad 21) s.heap s.heap [] := va_S.rf
  have hl : lv_has ls 2 [(0, .ref (ad 0))] := hl
  obtain ⟨z1, hz1, ez1⟩ := iI_of (ar 6 0)
  obtain ⟨z2, hz2, ez2⟩ := YI_h2 hI 2 (by decide)
  obtain ⟨z3, hz3, ez3⟩ := YI_h5 hI 5 (by decide)
  obtain ⟨z4, hz4, ez4⟩ := YI_h0 hI 0 (by decide)
  have ht0 := YI_t0 hI ez1 (by omega) ez2 (by omega) ez3 (by omega) ez4 (by omega)
  refine lv_aload_n hE.1 hE.2.1 dX9_anew_0 rfl (lv_at hl 0 rfl) ?_
  refine lv_iconst (v := iI (0)) hE.1 hE.2.1 dX9_anew_1 (by decide) ?_
  refine x_put (x := iI (0)) hE hK hN hP hS 0 (by decide) (yG_9 rfl) rfl hin9 tyX9 tyX9_ok nmX9 0 (by decide) mw_1334 rfl rfl rfl (Nat.le_of_ble_eq_true rfl) (yG_9 rfl) dX9_anew_2 (fun v5 H locs hv5 hP hS => ?_)
  have hI := YI_putN hI hv5 (by decide)
  refine lv_aload_n hE.1 hE.2.1 dX9_anew_5 rfl (lv_at hl 0 rfl) ?_
  refine x_vp (nn := 0) (As := []) (rest := []) hE (s_X9_isCourt l D K ad v5 ar al hI (z1) (by omega) ez1 ) wPre_blind (wPre_now hK hN hP) (x_recv hK hP 0 (by decide) (yG_9 rfl) rfl) rfl mw_1718 mw_1720 mw_79 mw_123 mw_1721 (by decide +kernel) ⟨by decide, by decide⟩ hl.1 rfl (Nat.le_of_ble_eq_true rfl) ⟨Nat.zero_le _, Nat.zero_le _⟩ dX9_anew_6 (fun r6 hr6 => ?_)
  obtain ⟨z6, hz6, rfl⟩ := hr6
  refine s_if_ne (a := z6) (tgt := 15) hE.1 hE.2.1 (by omega) dX9_anew_9 (by decide) (fun c7 => ?_) (fun c7 => ?_)
  · skip
    refine lv_aload_n hE.1 hE.2.1 dX9_anew_15 rfl (lv_at hl 0 rfl) ?_
    refine x_get (x := .ref (ad 7)) hE hK hP 0 (by decide) (yG_9 rfl) rfl hin9 17 (by decide) mw_1351 rfl dX9_anew_16 ?_
    refine lv_iconst (v := iI (5)) hE.1 hE.2.1 dX9_anew_19 (by decide) ?_
    refine x_iald (j := iI (5)) hE hK hP 7 (by decide) (yG_10 rfl) (iI_in (n := 30) (by omega)) dX9_anew_20 ?_
    refine x_top (y := iI (z3)) (by rw [show (iI (5)).toNatClampNeg = 5 from by decide]; exact ez3) ?_
    refine lv_istore_n (lv' := [(1, .int (iI (z3))), (0, .ref (ad 0))]) hE.1 hE.2.1 dX9_anew_21 rfl hl (by decide) rfl (fun ls hl => ?_)
    refine lv_aload_n hE.1 hE.2.1 dX9_anew_22 rfl (lv_at hl 1 rfl) ?_
    refine x_get (x := .ref (ad 7)) hE hK hP 0 (by decide) (yG_9 rfl) rfl hin9 17 (by decide) mw_1351 rfl dX9_anew_23 ?_
    refine lv_iconst (v := iI (5)) hE.1 hE.2.1 dX9_anew_26 (by decide) ?_
    refine lv_iconst (v := iI (0)) hE.1 hE.2.1 dX9_anew_27 (by decide) ?_
    refine x_iast (j := iI (5)) hE hK hN hP hS 7 (by decide) (fun _ => yG_10 rfl) (iI_in (n := 30) (by omega)) dX9_anew_28 (fun ar9 H locs ha9 hP hS => ?_)
    have hI := YI_cut (z := 0) (n := z3) hI ha9 ez3 (by omega) (by omega)
    refine lv_iload_n hE.1 hE.2.1 dX9_anew_29 rfl (lv_at hl 0 rfl) ?_
    exact kr _ v5 ar9 al _ _ _ _ rfl ⟨⟨z3, by omega, rfl⟩, hI, fun i j h => (up_oth hv5 (fun q => h (by rcases q with ⟨rfl, rfl⟩; decide))), fun i h => (upx_ne ha9 i (fun q => h (by rw [q]; decide))), fun i h => rfl⟩ hP hS dX9_anew_30
  · skip
    refine lv_bipush (v := iI (-2)) hE.1 hE.2.1 dX9_anew_12 (by decide) ?_
    exact kr _ v5 ar al _ _ _ _ rfl ⟨⟨-2, by omega, rfl⟩, hI, fun i j h => (up_oth hv5 (fun q => h (by rcases q with ⟨rfl, rfl⟩; decide))), fun i h => rfl, fun i h => rfl⟩ hP hS dX9_anew_14

theorem dX9_forbid_0 : decode cX9_forbid 0 = .ok (.aload_n 0, 1) := by decide +kernel
theorem dX9_forbid_1 : decode cX9_forbid 1 = .ok (.iconst 0, 1) := by decide +kernel
theorem dX9_forbid_2 : decode cX9_forbid 2 = .ok (.putfield 81, 3) := by decide +kernel
theorem dX9_forbid_5 : decode cX9_forbid 5 = .ok (.aload_n 0, 1) := by decide +kernel
theorem dX9_forbid_6 : decode cX9_forbid 6 = .ok (.iload_n 1, 1) := by decide +kernel
theorem dX9_forbid_7 : decode cX9_forbid 7 = .ok (.i2l, 1) := by decide +kernel
theorem dX9_forbid_8 : decode cX9_forbid 8 = .ok (.invokevirtual 253, 3) := by decide +kernel
theorem dX9_forbid_11 : decode cX9_forbid 11 = .ok (.ifCond .eq 13, 3) := by decide +kernel
theorem dX9_forbid_14 : decode cX9_forbid 14 = .ok (.iload_n 2, 1) := by decide +kernel
theorem dX9_forbid_15 : decode cX9_forbid 15 = .ok (.i2l, 1) := by decide +kernel
theorem dX9_forbid_16 : decode cX9_forbid 16 = .ok (.lconst 0, 1) := by decide +kernel
theorem dX9_forbid_17 : decode cX9_forbid 17 = .ok (.lconst 1, 1) := by decide +kernel
theorem dX9_forbid_18 : decode cX9_forbid 18 = .ok (.invokestatic 86, 3) := by decide +kernel
theorem dX9_forbid_21 : decode cX9_forbid 21 = .ok (.ifCond .ne 6, 3) := by decide +kernel
theorem dX9_forbid_24 : decode cX9_forbid 24 = .ok (.bipush (-2), 2) := by decide +kernel
theorem dX9_forbid_26 : decode cX9_forbid 26 = .ok (.ireturn, 1) := by decide +kernel
theorem dX9_forbid_27 : decode cX9_forbid 27 = .ok (.aload_n 0, 1) := by decide +kernel
theorem dX9_forbid_28 : decode cX9_forbid 28 = .ok (.getfield 34, 3) := by decide +kernel
theorem dX9_forbid_31 : decode cX9_forbid 31 = .ok (.iconst 4, 1) := by decide +kernel
theorem dX9_forbid_32 : decode cX9_forbid 32 = .ok (.iaload, 1) := by decide +kernel
theorem dX9_forbid_33 : decode cX9_forbid 33 = .ok (.iload_n 1, 1) := by decide +kernel
theorem dX9_forbid_34 : decode cX9_forbid 34 = .ok (.ishr, 1) := by decide +kernel
theorem dX9_forbid_35 : decode cX9_forbid 35 = .ok (.iconst 1, 1) := by decide +kernel
theorem dX9_forbid_36 : decode cX9_forbid 36 = .ok (.iand, 1) := by decide +kernel
theorem dX9_forbid_37 : decode cX9_forbid 37 = .ok (.istore_n 3, 1) := by decide +kernel
theorem dX9_forbid_38 : decode cX9_forbid 38 = .ok (.aload_n 0, 1) := by decide +kernel
theorem dX9_forbid_39 : decode cX9_forbid 39 = .ok (.getfield 34, 3) := by decide +kernel
theorem dX9_forbid_42 : decode cX9_forbid 42 = .ok (.iconst 4, 1) := by decide +kernel
theorem dX9_forbid_43 : decode cX9_forbid 43 = .ok (.iload_n 2, 1) := by decide +kernel
theorem dX9_forbid_44 : decode cX9_forbid 44 = .ok (.iconst 1, 1) := by decide +kernel
theorem dX9_forbid_45 : decode cX9_forbid 45 = .ok (.if_icmp .ne 16, 3) := by decide +kernel
theorem dX9_forbid_48 : decode cX9_forbid 48 = .ok (.aload_n 0, 1) := by decide +kernel
theorem dX9_forbid_49 : decode cX9_forbid 49 = .ok (.getfield 34, 3) := by decide +kernel
theorem dX9_forbid_52 : decode cX9_forbid 52 = .ok (.iconst 4, 1) := by decide +kernel
theorem dX9_forbid_53 : decode cX9_forbid 53 = .ok (.iaload, 1) := by decide +kernel
theorem dX9_forbid_54 : decode cX9_forbid 54 = .ok (.iconst 1, 1) := by decide +kernel
theorem dX9_forbid_55 : decode cX9_forbid 55 = .ok (.iload_n 1, 1) := by decide +kernel
theorem dX9_forbid_56 : decode cX9_forbid 56 = .ok (.ishl, 1) := by decide +kernel
theorem dX9_forbid_57 : decode cX9_forbid 57 = .ok (.ior, 1) := by decide +kernel
theorem dX9_forbid_58 : decode cX9_forbid 58 = .ok (.goto 15, 3) := by decide +kernel
theorem dX9_forbid_61 : decode cX9_forbid 61 = .ok (.aload_n 0, 1) := by decide +kernel
theorem dX9_forbid_62 : decode cX9_forbid 62 = .ok (.getfield 34, 3) := by decide +kernel
theorem dX9_forbid_65 : decode cX9_forbid 65 = .ok (.iconst 4, 1) := by decide +kernel
theorem dX9_forbid_66 : decode cX9_forbid 66 = .ok (.iaload, 1) := by decide +kernel
theorem dX9_forbid_67 : decode cX9_forbid 67 = .ok (.iconst 1, 1) := by decide +kernel
theorem dX9_forbid_68 : decode cX9_forbid 68 = .ok (.iload_n 1, 1) := by decide +kernel
theorem dX9_forbid_69 : decode cX9_forbid 69 = .ok (.ishl, 1) := by decide +kernel
theorem dX9_forbid_70 : decode cX9_forbid 70 = .ok (.iconst (-1), 1) := by decide +kernel
theorem dX9_forbid_71 : decode cX9_forbid 71 = .ok (.ixor, 1) := by decide +kernel
theorem dX9_forbid_72 : decode cX9_forbid 72 = .ok (.iand, 1) := by decide +kernel
theorem dX9_forbid_73 : decode cX9_forbid 73 = .ok (.iastore, 1) := by decide +kernel
theorem dX9_forbid_74 : decode cX9_forbid 74 = .ok (.iload_n 3, 1) := by decide +kernel
theorem dX9_forbid_75 : decode cX9_forbid 75 = .ok (.ireturn, 1) := by decide +kernel
set_option maxHeartbeats 4000000 in
set_option maxRecDepth 100000 in
theorem s_X9_forbid (l : Launch) (D : va_G) (K : Nat → ClassId) (ad : Nat → Nat) (v ar : sI) (al : sL) (hI : YI v ar) (z_1 : Int) (hz_1 : -2147483648 ≤ z_1 ∧ z_1 ≤ 2147483647) (z_2 : Int) (hz_2 : -2147483648 ≤ z_2 ∧ z_2 ≤ 2147483647) : Met l yX9_forbid (wM yX9_forbid cX9_forbid 4 (some .int)) (rmD 2) (va_Pc [.ref (ad 0), .int (iI (z_1)), .int (iI (z_2))] (wPre D K ad (yG ad K) 21 v ar al)) (va_Qi (fun (r : Int32) (u : sT) => (∃ z : Int, (-2147483648 ≤ z ∧ z ≤ 2147483647) ∧ r = iI z) ∧ YI u.1 u.2.1 ∧ (∀ i j : Nat, (i, j) ∉ ([(0, 0)] : List (Nat × Nat)) → u.1 i j = v i j) ∧ (∀ i : Nat, i ∉ ([7] : List Nat) → u.2.1 i = ar i) ∧ (∀ i : Nat, i ∉ ([] : List Nat) → u.2.2 i = al i)) (wB D ad (yG ad K) 21) (inW ad 21)) 0 0 (inW ad 21) := by
  refine s_metI (by decide) (Nat.le_of_ble_eq_true rfl) ?_
  intro p e s m below meth c ls args Q hE hB hl kr
  have hE : CallFix p m c cX9_forbid 4 s args tbG "TaleCourtModel" := hE
  obtain ⟨hP, hK, hN⟩ := hB
  have hS : va_S (inW ad 21) s.heap s.heap [] := va_S.rf
  have hl : lv_has ls 4 [(0, .ref (ad 0)), (1, .int (iI (z_1))), (2, .int (iI (z_2)))] := hl
  obtain ⟨z1, hz1, ez1⟩ := iI_of (ar 6 0)
  obtain ⟨z2, hz2, ez2⟩ := YI_h2 hI 2 (by decide)
  obtain ⟨z3, hz3, ez3⟩ := YI_h5 hI 5 (by decide)
  obtain ⟨z4, hz4, ez4⟩ := YI_h0 hI 0 (by decide)
  have ht0 := YI_t0 hI ez1 (by omega) ez2 (by omega) ez3 (by omega) ez4 (by omega)
  refine lv_aload_n hE.1 hE.2.1 dX9_forbid_0 rfl (lv_at hl 0 rfl) ?_
  refine lv_iconst (v := iI (0)) hE.1 hE.2.1 dX9_forbid_1 (by decide) ?_
  refine x_put (x := iI (0)) hE hK hN hP hS 0 (by decide) (yG_9 rfl) rfl hin9 tyX9 tyX9_ok nmX9 0 (by decide) mw_1334 rfl rfl rfl (Nat.le_of_ble_eq_true rfl) (yG_9 rfl) dX9_forbid_2 (fun v5 H locs hv5 hP hS => ?_)
  have hI := YI_putN hI hv5 (by decide)
  refine lv_aload_n hE.1 hE.2.1 dX9_forbid_5 rfl (lv_at hl 0 rfl) ?_
  refine lv_iload_n hE.1 hE.2.1 dX9_forbid_6 rfl (lv_at hl 1 rfl) ?_
  refine lv_i2l (v := lI (z_1)) hE.1 hE.2.1 dX9_forbid_7 (iI_i2l (by omega)) ?_
  refine x_vp (nn := 1) (As := [.long (lI (z_1))]) (rest := []) hE (s_X9_isMotif l D K ad v5 ar al hI (z2) (by omega) ez2 (z_1) (by omega)) wPre_blind (wPre_now hK hN hP) (x_recv hK hP 0 (by decide) (yG_9 rfl) rfl) rfl mw_1662 mw_1664 mw_74 mw_123 mw_1665 (by decide +kernel) ⟨by decide, by decide⟩ hl.1 rfl (Nat.le_of_ble_eq_true rfl) ⟨Nat.zero_le _, Nat.zero_le _⟩ dX9_forbid_8 (fun r6 hr6 => ?_)
  obtain ⟨z6, hz6, rfl⟩ := hr6
  refine s_if_eq (a := z6) (tgt := 24) hE.1 hE.2.1 (by omega) dX9_forbid_11 (by decide) (fun c7 => ?_) (fun c7 => ?_)
  · skip
    refine lv_bipush (v := iI (-2)) hE.1 hE.2.1 dX9_forbid_24 (by decide) ?_
    exact kr _ v5 ar al _ _ _ _ rfl ⟨⟨-2, by omega, rfl⟩, hI, fun i j h => (up_oth hv5 (fun q => h (by rcases q with ⟨rfl, rfl⟩; decide))), fun i h => rfl, fun i h => rfl⟩ hP hS dX9_forbid_26
  · skip
    refine lv_iload_n hE.1 hE.2.1 dX9_forbid_14 rfl (lv_at hl 2 rfl) ?_
    refine lv_i2l (v := lI (z_2)) hE.1 hE.2.1 dX9_forbid_15 (iI_i2l (by omega)) ?_
    refine lv_lconst (v := lI (0)) hE.1 hE.2.1 dX9_forbid_16 (by decide) ?_
    refine lv_lconst (v := lI (1)) hE.1 hE.2.1 dX9_forbid_17 (by decide) ?_
    refine x_sp (nn := 3) (As := [.long (lI (z_2)), .long (lI (0)), .long (lI (1))]) (rest := []) hE (s_X9_in l (z_2) (by omega) (0) (by omega) (1) (by omega)) tt_blind (fun _ _ _ => trivial) rfl mw_1494 mw_1495 mw_123 mw_1496 (by decide +kernel) ⟨by decide, by decide⟩ hl.1 rfl (Nat.le_of_ble_eq_true rfl) ⟨Nat.zero_le _, Nat.zero_le _⟩ dX9_forbid_18 (fun r8 hr8 => ?_)
    obtain ⟨z8, hz8, rfl⟩ := hr8
    refine s_if_ne (a := z8) (tgt := 27) hE.1 hE.2.1 (by omega) dX9_forbid_21 (by decide) (fun c9 => ?_) (fun c9 => ?_)
    · skip
      refine lv_aload_n hE.1 hE.2.1 dX9_forbid_27 rfl (lv_at hl 0 rfl) ?_
      refine x_get (x := .ref (ad 7)) hE hK hP 0 (by decide) (yG_9 rfl) rfl hin9 17 (by decide) mw_1351 rfl dX9_forbid_28 ?_
      refine lv_iconst (v := iI (4)) hE.1 hE.2.1 dX9_forbid_31 (by decide) ?_
      refine x_iald (j := iI (4)) hE hK hP 7 (by decide) (yG_10 rfl) (iI_in (n := 30) (by omega)) dX9_forbid_32 ?_
      obtain ⟨z11, hz11, ez11⟩ := iI_of (ar 7 4)
      refine x_top (y := iI (z11)) (by rw [show (iI (4)).toNatClampNeg = 4 from by decide]; exact ez11) ?_
      refine lv_iload_n hE.1 hE.2.1 dX9_forbid_33 rfl (lv_at hl 1 rfl) ?_
      refine lv_ishr hE.1 hE.2.1 dX9_forbid_34 ?_
      obtain ⟨z12, hz12, ez12⟩ := iI_of (iI (z11) >>> (iI (z_1) &&& 31))
      refine x_top ez12 ?_
      refine lv_iconst (v := iI (1)) hE.1 hE.2.1 dX9_forbid_35 (by decide) ?_
      refine lv_iand hE.1 hE.2.1 dX9_forbid_36 ?_
      obtain ⟨z13, hz13, ez13⟩ := iI_and (iI (z12)) (iI (1)) 1 (by decide)
      refine x_top ez13 ?_
      refine lv_istore_n (lv' := [(3, .int (iI (z13))), (0, .ref (ad 0)), (1, .int (iI (z_1))), (2, .int (iI (z_2)))]) hE.1 hE.2.1 dX9_forbid_37 rfl hl (by decide) rfl (fun ls hl => ?_)
      refine lv_aload_n hE.1 hE.2.1 dX9_forbid_38 rfl (lv_at hl 1 rfl) ?_
      refine x_get (x := .ref (ad 7)) hE hK hP 0 (by decide) (yG_9 rfl) rfl hin9 17 (by decide) mw_1351 rfl dX9_forbid_39 ?_
      refine lv_iconst (v := iI (4)) hE.1 hE.2.1 dX9_forbid_42 (by decide) ?_
      refine lv_iload_n hE.1 hE.2.1 dX9_forbid_43 rfl (lv_at hl 3 rfl) ?_
      refine lv_iconst (v := iI (1)) hE.1 hE.2.1 dX9_forbid_44 (by decide) ?_
      refine s_icmp_ne (a := z_2) (b := 1) (tgt := 61) hE.1 hE.2.1 (by omega) (by omega) dX9_forbid_45 (by decide) (fun c14 => ?_) (fun c14 => ?_)
      · skip
        refine lv_aload_n hE.1 hE.2.1 dX9_forbid_61 rfl (lv_at hl 1 rfl) ?_
        refine x_get (x := .ref (ad 7)) hE hK hP 0 (by decide) (yG_9 rfl) rfl hin9 17 (by decide) mw_1351 rfl dX9_forbid_62 ?_
        refine lv_iconst (v := iI (4)) hE.1 hE.2.1 dX9_forbid_65 (by decide) ?_
        refine x_iald (j := iI (4)) hE hK hP 7 (by decide) (yG_10 rfl) (iI_in (n := 30) (by omega)) dX9_forbid_66 ?_
        refine x_top (y := iI (z11)) (by rw [show (iI (4)).toNatClampNeg = 4 from by decide]; exact ez11) ?_
        refine lv_iconst (v := iI (1)) hE.1 hE.2.1 dX9_forbid_67 (by decide) ?_
        refine lv_iload_n hE.1 hE.2.1 dX9_forbid_68 rfl (lv_at hl 2 rfl) ?_
        refine lv_ishl hE.1 hE.2.1 dX9_forbid_69 ?_
        obtain ⟨z16, hz16, ez16⟩ := iI_shl8 (a := z_1) (by omega)
        refine x_top ez16 ?_
        refine lv_iconst (v := iI (-1)) hE.1 hE.2.1 dX9_forbid_70 (by decide) ?_
        refine lv_ixor hE.1 hE.2.1 dX9_forbid_71 ?_
        obtain ⟨z17, hz17, ez17⟩ := iI_of (iI (z16) ^^^ iI (-1))
        refine x_top ez17 ?_
        refine lv_iand hE.1 hE.2.1 dX9_forbid_72 ?_
        obtain ⟨z18, hz18, ez18⟩ := iI_of (iI (z11) &&& iI (z17))
        refine x_top ez18 ?_
        refine x_iast (j := iI (4)) hE hK hN hP hS 7 (by decide) (fun _ => yG_10 rfl) (iI_in (n := 30) (by omega)) dX9_forbid_73 (fun ar19 H locs ha19 hP hS => ?_)
        have hI := YI_forbid hI ha19
        refine lv_iload_n hE.1 hE.2.1 dX9_forbid_74 rfl (lv_at hl 0 rfl) ?_
        exact kr _ v5 ar19 al _ _ _ _ rfl ⟨⟨z13, by omega, rfl⟩, hI, fun i j h => (up_oth hv5 (fun q => h (by rcases q with ⟨rfl, rfl⟩; decide))), fun i h => (upx_ne ha19 i (fun q => h (by rw [q]; decide))), fun i h => rfl⟩ hP hS dX9_forbid_75
      · skip
        refine lv_aload_n hE.1 hE.2.1 dX9_forbid_48 rfl (lv_at hl 1 rfl) ?_
        refine x_get (x := .ref (ad 7)) hE hK hP 0 (by decide) (yG_9 rfl) rfl hin9 17 (by decide) mw_1351 rfl dX9_forbid_49 ?_
        refine lv_iconst (v := iI (4)) hE.1 hE.2.1 dX9_forbid_52 (by decide) ?_
        refine x_iald (j := iI (4)) hE hK hP 7 (by decide) (yG_10 rfl) (iI_in (n := 30) (by omega)) dX9_forbid_53 ?_
        refine x_top (y := iI (z11)) (by rw [show (iI (4)).toNatClampNeg = 4 from by decide]; exact ez11) ?_
        refine lv_iconst (v := iI (1)) hE.1 hE.2.1 dX9_forbid_54 (by decide) ?_
        refine lv_iload_n hE.1 hE.2.1 dX9_forbid_55 rfl (lv_at hl 2 rfl) ?_
        refine lv_ishl hE.1 hE.2.1 dX9_forbid_56 ?_
        obtain ⟨z21, hz21, ez21⟩ := iI_shl8 (a := z_1) (by omega)
        refine x_top ez21 ?_
        refine lv_ior hE.1 hE.2.1 dX9_forbid_57 ?_
        obtain ⟨z22, hz22, ez22⟩ := iI_of (iI (z11) ||| iI (z21))
        refine x_top ez22 ?_
        refine lv_goto (tgt := 73) hE.1 hE.2.1 dX9_forbid_58 (by decide) ?_
        refine x_iast (j := iI (4)) hE hK hN hP hS 7 (by decide) (fun _ => yG_10 rfl) (iI_in (n := 30) (by omega)) dX9_forbid_73 (fun ar23 H locs ha23 hP hS => ?_)
        have hI := YI_forbid hI ha23
        refine lv_iload_n hE.1 hE.2.1 dX9_forbid_74 rfl (lv_at hl 0 rfl) ?_
        exact kr _ v5 ar23 al _ _ _ _ rfl ⟨⟨z13, by omega, rfl⟩, hI, fun i j h => (up_oth hv5 (fun q => h (by rcases q with ⟨rfl, rfl⟩; decide))), fun i h => (upx_ne ha23 i (fun q => h (by rw [q]; decide))), fun i h => rfl⟩ hP hS dX9_forbid_75
    · skip
      refine lv_bipush (v := iI (-2)) hE.1 hE.2.1 dX9_forbid_24 (by decide) ?_
      exact kr _ v5 ar al _ _ _ _ rfl ⟨⟨-2, by omega, rfl⟩, hI, fun i j h => (up_oth hv5 (fun q => h (by rcases q with ⟨rfl, rfl⟩; decide))), fun i h => rfl, fun i h => rfl⟩ hP hS dX9_forbid_26

theorem dX9_whyNotTold_0 : decode cX9_whyNotTold 0 = .ok (.aload_n 0, 1) := by decide +kernel
theorem dX9_whyNotTold_1 : decode cX9_whyNotTold 1 = .ok (.iload_n 1, 1) := by decide +kernel
theorem dX9_whyNotTold_2 : decode cX9_whyNotTold 2 = .ok (.invokevirtual 418, 3) := by decide +kernel
theorem dX9_whyNotTold_5 : decode cX9_whyNotTold 5 = .ok (.istore_n 3, 1) := by decide +kernel
theorem dX9_whyNotTold_6 : decode cX9_whyNotTold 6 = .ok (.iload_n 3, 1) := by decide +kernel
theorem dX9_whyNotTold_7 : decode cX9_whyNotTold 7 = .ok (.ifCond .eq 5, 3) := by decide +kernel
theorem dX9_whyNotTold_10 : decode cX9_whyNotTold 10 = .ok (.iload_n 3, 1) := by decide +kernel
theorem dX9_whyNotTold_11 : decode cX9_whyNotTold 11 = .ok (.ireturn, 1) := by decide +kernel
theorem dX9_whyNotTold_12 : decode cX9_whyNotTold 12 = .ok (.aload_n 0, 1) := by decide +kernel
theorem dX9_whyNotTold_13 : decode cX9_whyNotTold 13 = .ok (.getfield 13, 3) := by decide +kernel
theorem dX9_whyNotTold_16 : decode cX9_whyNotTold 16 = .ok (.iload_n 1, 1) := by decide +kernel
theorem dX9_whyNotTold_17 : decode cX9_whyNotTold 17 = .ok (.iaload, 1) := by decide +kernel
theorem dX9_whyNotTold_18 : decode cX9_whyNotTold 18 = .ok (.iload_n 2, 1) := by decide +kernel
theorem dX9_whyNotTold_19 : decode cX9_whyNotTold 19 = .ok (.irem, 1) := by decide +kernel
theorem dX9_whyNotTold_20 : decode cX9_whyNotTold 20 = .ok (.ifCond .eq 6, 3) := by decide +kernel
theorem dX9_whyNotTold_23 : decode cX9_whyNotTold 23 = .ok (.bipush (-2), 2) := by decide +kernel
theorem dX9_whyNotTold_25 : decode cX9_whyNotTold 25 = .ok (.ireturn, 1) := by decide +kernel
theorem dX9_whyNotTold_26 : decode cX9_whyNotTold 26 = .ok (.iconst 0, 1) := by decide +kernel
theorem dX9_whyNotTold_27 : decode cX9_whyNotTold 27 = .ok (.istore 4, 2) := by decide +kernel
theorem dX9_whyNotTold_29 : decode cX9_whyNotTold 29 = .ok (.iload 4, 2) := by decide +kernel
theorem dX9_whyNotTold_31 : decode cX9_whyNotTold 31 = .ok (.aload_n 0, 1) := by decide +kernel
theorem dX9_whyNotTold_32 : decode cX9_whyNotTold 32 = .ok (.getfield 13, 3) := by decide +kernel
theorem dX9_whyNotTold_35 : decode cX9_whyNotTold 35 = .ok (.iload_n 1, 1) := by decide +kernel
theorem dX9_whyNotTold_36 : decode cX9_whyNotTold 36 = .ok (.iaload, 1) := by decide +kernel
theorem dX9_whyNotTold_37 : decode cX9_whyNotTold 37 = .ok (.if_icmp .ge 113, 3) := by decide +kernel
theorem dX9_whyNotTold_40 : decode cX9_whyNotTold 40 = .ok (.aload_n 0, 1) := by decide +kernel
theorem dX9_whyNotTold_41 : decode cX9_whyNotTold 41 = .ok (.getfield 16, 3) := by decide +kernel
theorem dX9_whyNotTold_44 : decode cX9_whyNotTold 44 = .ok (.bipush 60, 2) := by decide +kernel
theorem dX9_whyNotTold_46 : decode cX9_whyNotTold 46 = .ok (.iload_n 1, 1) := by decide +kernel
theorem dX9_whyNotTold_47 : decode cX9_whyNotTold 47 = .ok (.imul, 1) := by decide +kernel
theorem dX9_whyNotTold_48 : decode cX9_whyNotTold 48 = .ok (.iload 4, 2) := by decide +kernel
theorem dX9_whyNotTold_50 : decode cX9_whyNotTold 50 = .ok (.iadd, 1) := by decide +kernel
theorem dX9_whyNotTold_51 : decode cX9_whyNotTold 51 = .ok (.iload_n 2, 1) := by decide +kernel
theorem dX9_whyNotTold_52 : decode cX9_whyNotTold 52 = .ok (.iadd, 1) := by decide +kernel
theorem dX9_whyNotTold_53 : decode cX9_whyNotTold 53 = .ok (.iconst 2, 1) := by decide +kernel
theorem dX9_whyNotTold_54 : decode cX9_whyNotTold 54 = .ok (.isub, 1) := by decide +kernel
theorem dX9_whyNotTold_55 : decode cX9_whyNotTold 55 = .ok (.laload, 1) := by decide +kernel
theorem dX9_whyNotTold_56 : decode cX9_whyNotTold 56 = .ok (.lstore 5, 2) := by decide +kernel
theorem dX9_whyNotTold_58 : decode cX9_whyNotTold 58 = .ok (.aload_n 0, 1) := by decide +kernel
theorem dX9_whyNotTold_59 : decode cX9_whyNotTold 59 = .ok (.getfield 16, 3) := by decide +kernel
theorem dX9_whyNotTold_62 : decode cX9_whyNotTold 62 = .ok (.bipush 60, 2) := by decide +kernel
theorem dX9_whyNotTold_64 : decode cX9_whyNotTold 64 = .ok (.iload_n 1, 1) := by decide +kernel
theorem dX9_whyNotTold_65 : decode cX9_whyNotTold 65 = .ok (.imul, 1) := by decide +kernel
theorem dX9_whyNotTold_66 : decode cX9_whyNotTold 66 = .ok (.iload 4, 2) := by decide +kernel
theorem dX9_whyNotTold_68 : decode cX9_whyNotTold 68 = .ok (.iadd, 1) := by decide +kernel
theorem dX9_whyNotTold_69 : decode cX9_whyNotTold 69 = .ok (.iload_n 2, 1) := by decide +kernel
theorem dX9_whyNotTold_70 : decode cX9_whyNotTold 70 = .ok (.iadd, 1) := by decide +kernel
theorem dX9_whyNotTold_71 : decode cX9_whyNotTold 71 = .ok (.iconst 1, 1) := by decide +kernel
theorem dX9_whyNotTold_72 : decode cX9_whyNotTold 72 = .ok (.isub, 1) := by decide +kernel
theorem dX9_whyNotTold_73 : decode cX9_whyNotTold 73 = .ok (.laload, 1) := by decide +kernel
theorem dX9_whyNotTold_74 : decode cX9_whyNotTold 74 = .ok (.lstore 7, 2) := by decide +kernel
theorem dX9_whyNotTold_76 : decode cX9_whyNotTold 76 = .ok (.aload_n 0, 1) := by decide +kernel
theorem dX9_whyNotTold_77 : decode cX9_whyNotTold 77 = .ok (.lload 5, 2) := by decide +kernel
theorem dX9_whyNotTold_79 : decode cX9_whyNotTold 79 = .ok (.invokevirtual 253, 3) := by decide +kernel
theorem dX9_whyNotTold_82 : decode cX9_whyNotTold 82 = .ok (.ifCond .eq 20, 3) := by decide +kernel
theorem dX9_whyNotTold_85 : decode cX9_whyNotTold 85 = .ok (.aload_n 0, 1) := by decide +kernel
theorem dX9_whyNotTold_86 : decode cX9_whyNotTold 86 = .ok (.lload 7, 2) := by decide +kernel
theorem dX9_whyNotTold_88 : decode cX9_whyNotTold 88 = .ok (.invokevirtual 253, 3) := by decide +kernel
theorem dX9_whyNotTold_91 : decode cX9_whyNotTold 91 = .ok (.ifCond .eq 11, 3) := by decide +kernel
theorem dX9_whyNotTold_94 : decode cX9_whyNotTold 94 = .ok (.lload 5, 2) := by decide +kernel
theorem dX9_whyNotTold_96 : decode cX9_whyNotTold 96 = .ok (.lload 7, 2) := by decide +kernel
theorem dX9_whyNotTold_98 : decode cX9_whyNotTold 98 = .ok (.lcmp, 1) := by decide +kernel
theorem dX9_whyNotTold_99 : decode cX9_whyNotTold 99 = .ok (.ifCond .ne 6, 3) := by decide +kernel
theorem dX9_whyNotTold_102 : decode cX9_whyNotTold 102 = .ok (.bipush (-2), 2) := by decide +kernel
theorem dX9_whyNotTold_104 : decode cX9_whyNotTold 104 = .ok (.ireturn, 1) := by decide +kernel
theorem dX9_whyNotTold_105 : decode cX9_whyNotTold 105 = .ok (.iload_n 2, 1) := by decide +kernel
theorem dX9_whyNotTold_106 : decode cX9_whyNotTold 106 = .ok (.iconst 3, 1) := by decide +kernel
theorem dX9_whyNotTold_107 : decode cX9_whyNotTold 107 = .ok (.if_icmp .ne 34, 3) := by decide +kernel
theorem dX9_whyNotTold_141 : decode cX9_whyNotTold 141 = .ok (.iload 4, 2) := by decide +kernel
theorem dX9_whyNotTold_143 : decode cX9_whyNotTold 143 = .ok (.iload_n 2, 1) := by decide +kernel
theorem dX9_whyNotTold_144 : decode cX9_whyNotTold 144 = .ok (.iadd, 1) := by decide +kernel
theorem dX9_whyNotTold_145 : decode cX9_whyNotTold 145 = .ok (.istore 4, 2) := by decide +kernel
theorem dX9_whyNotTold_147 : decode cX9_whyNotTold 147 = .ok (.goto (-118), 3) := by decide +kernel
theorem dX9_whyNotTold_150 : decode cX9_whyNotTold 150 = .ok (.iconst 0, 1) := by decide +kernel
theorem dX9_whyNotTold_151 : decode cX9_whyNotTold 151 = .ok (.ireturn, 1) := by decide +kernel
set_option maxHeartbeats 4000000 in
set_option maxRecDepth 100000 in
theorem s_X9_whyNotTold_c1_2 (l : Launch) (D : va_G) (K : Nat → ClassId) (ad : Nat → Nat) (v ar : sI) (al : sL) (hI : YI v ar) (z_1 : Int) (hz_1 : -2147483648 ≤ z_1 ∧ z_1 ≤ 2147483647) : Met l yX9_whyNotTold (wM yX9_whyNotTold cX9_whyNotTold 9 (some .int)) (rmD 3) (va_Pc [.ref (ad 0), .int (iI (z_1)), .int (iI (2))] (wPre D K ad (yG ad K) 21 v ar al)) (vp_Si (fun r => ∃ z : Int, ((z = 0 ∧ 0 ≤ z_1 ∧ z_1 ≤ 3) ∨ z ≠ 0 ∧ -2147483648 ≤ z ∧ z ≤ 2147483647) ∧ r = iI z)) 0 0 (fun _ => False) := by
  refine s_metP (by decide) (Nat.le_of_ble_eq_true rfl) ?_
  intro p e s m below meth c ls args Q hE hB hl kr
  have hE : CallFix p m c cX9_whyNotTold 9 s args tbG "TaleCourtModel" := hE
  obtain ⟨hP, hK, hN⟩ := hB
  have hl : lv_has ls 9 [(0, .ref (ad 0)), (1, .int (iI (z_1))), (2, .int (iI (2)))] := hl
  obtain ⟨z1, hz1, ez1⟩ := iI_of (ar 6 0)
  obtain ⟨z2, hz2, ez2⟩ := YI_h2 hI 2 (by decide)
  obtain ⟨z3, hz3, ez3⟩ := YI_h5 hI 5 (by decide)
  obtain ⟨z4, hz4, ez4⟩ := YI_h0 hI 0 (by decide)
  have ht0 := YI_t0 hI ez1 (by omega) ez2 (by omega) ez3 (by omega) ez4 (by omega)
  refine lv_aload_n hE.1 hE.2.1 dX9_whyNotTold_0 rfl (lv_at hl 0 rfl) ?_
  refine lv_iload_n hE.1 hE.2.1 dX9_whyNotTold_1 rfl (lv_at hl 1 rfl) ?_
  refine x_vp (nn := 1) (As := [.int (iI (z_1))]) (rest := []) hE (s_X9_whyNoRow l D K ad v ar al hI (z1) (by omega) ez1 (z_1) (by omega)) wPre_blind (wPre_now hK hN hP) (x_recv hK hP 0 (by decide) (yG_9 rfl) rfl) rfl mw_1974 mw_1976 mw_104 mw_123 mw_1977 (by decide +kernel) ⟨by decide, by decide⟩ hl.1 rfl (Nat.le_of_ble_eq_true rfl) ⟨Nat.zero_le _, Nat.zero_le _⟩ dX9_whyNotTold_2 (fun r5 hr5 => ?_)
  obtain ⟨z5, hz5, rfl⟩ := hr5
  refine lv_istore_n (lv' := [(3, .int (iI (z5))), (0, .ref (ad 0)), (1, .int (iI (z_1))), (2, .int (iI (2)))]) hE.1 hE.2.1 dX9_whyNotTold_5 rfl hl (by decide) rfl (fun ls hl => ?_)
  refine lv_iload_n hE.1 hE.2.1 dX9_whyNotTold_6 rfl (lv_at hl 0 rfl) ?_
  refine s_if_eq (a := z5) (tgt := 12) hE.1 hE.2.1 (by omega) dX9_whyNotTold_7 (by decide) (fun c6 => ?_) (fun c6 => ?_)
  · skip
    refine lv_aload_n hE.1 hE.2.1 dX9_whyNotTold_12 rfl (lv_at hl 1 rfl) ?_
    refine x_get (x := .ref (ad 2)) hE hK hP 0 (by decide) (yG_9 rfl) rfl hin9 2 (by decide) mw_1336 rfl dX9_whyNotTold_13 ?_
    refine lv_iload_n hE.1 hE.2.1 dX9_whyNotTold_16 rfl (lv_at hl 2 rfl) ?_
    refine x_iald (j := iI (z_1)) hE hK hP 2 (by decide) (yG_10 rfl) (iI_in (n := 4) (by omega)) dX9_whyNotTold_17 ?_
    obtain ⟨z8, hz8, ez8⟩ := YI_a2 hI ((iI (z_1)).toNatClampNeg)
    refine x_top ez8 ?_
    refine lv_iload_n hE.1 hE.2.1 dX9_whyNotTold_18 rfl (lv_at hl 3 rfl) ?_
    refine lv_irem hE.1 hE.2.1 dX9_whyNotTold_19 (iI_ne0 (by omega) (by omega)) ?_
    obtain ⟨z9, hz9⟩ : ∃ z : Int, z = (z8) % (2) ∧ 0 ≤ z ∧ z < 2 := ⟨_, rfl, Int.emod_nonneg _ (by omega), Int.emod_lt_of_pos _ (by omega)⟩
    refine x_top (y := iI (z9)) ((iI_rem (by omega) (by omega)).trans (congrArg iI hz9.1.symm)) ?_
    replace hz9 := hz9.2
    refine s_if_eq (a := z9) (tgt := 26) hE.1 hE.2.1 (by omega) dX9_whyNotTold_20 (by decide) (fun c10 => ?_) (fun c10 => ?_)
    · skip
      refine lv_iconst (v := iI (0)) hE.1 hE.2.1 dX9_whyNotTold_26 (by decide) ?_
      refine lv_istore (lv' := [(4, .int (iI (0))), (3, .int (iI (z5))), (0, .ref (ad 0)), (1, .int (iI (z_1))), (2, .int (iI (2)))]) hE.1 hE.2.1 dX9_whyNotTold_27 hl (by decide) rfl (fun ls hl => ?_)
      have loop11 : ∀ (k11 : Nat) (y11_4 : Int) (ls : Array Slot), (60 - y11_4).toNat = k11 → (0 ≤ y11_4 ∧ y11_4 ≤ 62 ∧ y11_4 % 2 = 0) → lv_has ls 9 [(4, .int (iI (y11_4))), (3, .int (iI (z5))), (0, .ref (ad 0)), (1, .int (iI (z_1))), (2, .int (iI (2)))] → W p l e (rmD 3) s m args below meth c s.heap [] 0 0 Q (F0 m 29 ls []) := by
        intro k11
        induction k11 using Nat.strongRecOn with
        | _ k11 ih11 =>
          intro y11_4 ls hk11 hb_y11_4 hl
          refine lv_iload hE.1 hE.2.1 dX9_whyNotTold_29 (lv_at hl 0 rfl) ?_
          refine lv_aload_n hE.1 hE.2.1 dX9_whyNotTold_31 rfl (lv_at hl 2 rfl) ?_
          refine x_get (x := .ref (ad 2)) hE hK hP 0 (by decide) (yG_9 rfl) rfl hin9 2 (by decide) mw_1336 rfl dX9_whyNotTold_32 ?_
          refine lv_iload_n hE.1 hE.2.1 dX9_whyNotTold_35 rfl (lv_at hl 3 rfl) ?_
          refine x_iald (j := iI (z_1)) hE hK hP 2 (by decide) (yG_10 rfl) (iI_in (n := 4) (by omega)) dX9_whyNotTold_36 ?_
          refine x_top ez8 ?_
          refine s_icmp_ge (a := y11_4) (b := z8) (tgt := 150) hE.1 hE.2.1 (by omega) (by omega) dX9_whyNotTold_37 (by decide) (fun c13 => ?_) (fun c13 => ?_)
          · skip
            refine lv_iconst (v := iI (0)) hE.1 hE.2.1 dX9_whyNotTold_150 (by decide) ?_
            exact kr _ _ _ rfl ⟨0, by omega, rfl⟩ dX9_whyNotTold_151
          · skip
            refine lv_aload_n hE.1 hE.2.1 dX9_whyNotTold_40 rfl (lv_at hl 2 rfl) ?_
            refine x_get (x := .ref (ad 3)) hE hK hP 0 (by decide) (yG_9 rfl) rfl hin9 3 (by decide) mw_1337 rfl dX9_whyNotTold_41 ?_
            refine lv_bipush (v := iI (60)) hE.1 hE.2.1 dX9_whyNotTold_44 (by decide) ?_
            refine lv_iload_n hE.1 hE.2.1 dX9_whyNotTold_46 rfl (lv_at hl 3 rfl) ?_
            refine lv_imul hE.1 hE.2.1 dX9_whyNotTold_47 ?_
            refine x_top (y := iI (60 * z_1)) ((iI_mul (60) (z_1)).trans (congrArg iI (by omega))) ?_
            refine lv_iload hE.1 hE.2.1 dX9_whyNotTold_48 (lv_at hl 0 rfl) ?_
            refine lv_iadd hE.1 hE.2.1 dX9_whyNotTold_50 ?_
            refine x_top (y := iI (y11_4 + 60 * z_1)) ((iI_add (60 * z_1) (y11_4)).trans (congrArg iI (by omega))) ?_
            refine lv_iload_n hE.1 hE.2.1 dX9_whyNotTold_51 rfl (lv_at hl 4 rfl) ?_
            refine lv_iadd hE.1 hE.2.1 dX9_whyNotTold_52 ?_
            refine x_top (y := iI (y11_4 + 60 * z_1 + 2)) ((iI_add (y11_4 + 60 * z_1) (2)).trans (congrArg iI (by omega))) ?_
            refine lv_iconst (v := iI (2)) hE.1 hE.2.1 dX9_whyNotTold_53 (by decide) ?_
            refine lv_isub hE.1 hE.2.1 dX9_whyNotTold_54 ?_
            refine x_top (y := iI (y11_4 + 60 * z_1)) ((iI_sub (y11_4 + 60 * z_1 + 2) (2)).trans (congrArg iI (by omega))) ?_
            refine x_lald (j := iI (y11_4 + 60 * z_1)) hE hK hP 3 (by decide) (yG_11 rfl) (iI_in (n := 240) (by omega)) dX9_whyNotTold_55 ?_
            obtain ⟨z15, hz15, ez15⟩ := lI_of (al 3 (iI (y11_4 + 60 * z_1)).toNatClampNeg)
            refine x_topl ez15 ?_
            refine lv_lstore (lv' := [(5, .long (lI (z15))), (4, .int (iI (y11_4))), (3, .int (iI (z5))), (0, .ref (ad 0)), (1, .int (iI (z_1))), (2, .int (iI (2)))]) hE.1 hE.2.1 dX9_whyNotTold_56 hl (by decide) rfl (fun ls hl => ?_)
            refine lv_aload_n hE.1 hE.2.1 dX9_whyNotTold_58 rfl (lv_at hl 3 rfl) ?_
            refine x_get (x := .ref (ad 3)) hE hK hP 0 (by decide) (yG_9 rfl) rfl hin9 3 (by decide) mw_1337 rfl dX9_whyNotTold_59 ?_
            refine lv_bipush (v := iI (60)) hE.1 hE.2.1 dX9_whyNotTold_62 (by decide) ?_
            refine lv_iload_n hE.1 hE.2.1 dX9_whyNotTold_64 rfl (lv_at hl 4 rfl) ?_
            refine lv_imul hE.1 hE.2.1 dX9_whyNotTold_65 ?_
            refine x_top (y := iI (60 * z_1)) ((iI_mul (60) (z_1)).trans (congrArg iI (by omega))) ?_
            refine lv_iload hE.1 hE.2.1 dX9_whyNotTold_66 (lv_at hl 1 rfl) ?_
            refine lv_iadd hE.1 hE.2.1 dX9_whyNotTold_68 ?_
            refine x_top (y := iI (y11_4 + 60 * z_1)) ((iI_add (60 * z_1) (y11_4)).trans (congrArg iI (by omega))) ?_
            refine lv_iload_n hE.1 hE.2.1 dX9_whyNotTold_69 rfl (lv_at hl 5 rfl) ?_
            refine lv_iadd hE.1 hE.2.1 dX9_whyNotTold_70 ?_
            refine x_top (y := iI (y11_4 + 60 * z_1 + 2)) ((iI_add (y11_4 + 60 * z_1) (2)).trans (congrArg iI (by omega))) ?_
            refine lv_iconst (v := iI (1)) hE.1 hE.2.1 dX9_whyNotTold_71 (by decide) ?_
            refine lv_isub hE.1 hE.2.1 dX9_whyNotTold_72 ?_
            refine x_top (y := iI (y11_4 + 60 * z_1 + 1)) ((iI_sub (y11_4 + 60 * z_1 + 2) (1)).trans (congrArg iI (by omega))) ?_
            refine x_lald (j := iI (y11_4 + 60 * z_1 + 1)) hE hK hP 3 (by decide) (yG_11 rfl) (iI_in (n := 240) (by omega)) dX9_whyNotTold_73 ?_
            obtain ⟨z17, hz17, ez17⟩ := lI_of (al 3 (iI (y11_4 + 60 * z_1 + 1)).toNatClampNeg)
            refine x_topl ez17 ?_
            refine lv_lstore (lv' := [(7, .long (lI (z17))), (5, .long (lI (z15))), (4, .int (iI (y11_4))), (3, .int (iI (z5))), (0, .ref (ad 0)), (1, .int (iI (z_1))), (2, .int (iI (2)))]) hE.1 hE.2.1 dX9_whyNotTold_74 hl (by decide) rfl (fun ls hl => ?_)
            refine lv_aload_n hE.1 hE.2.1 dX9_whyNotTold_76 rfl (lv_at hl 4 rfl) ?_
            refine lv_lload hE.1 hE.2.1 dX9_whyNotTold_77 (lv_at hl 1 rfl) ?_
            refine x_vp (nn := 1) (As := [.long (lI (z15))]) (rest := []) hE (s_X9_isMotif l D K ad v ar al hI (z2) (by omega) ez2 (z15) (by omega)) wPre_blind (wPre_now hK hN hP) (x_recv hK hP 0 (by decide) (yG_9 rfl) rfl) rfl mw_1662 mw_1664 mw_74 mw_123 mw_1665 (by decide +kernel) ⟨by decide, by decide⟩ hl.1 rfl (Nat.le_of_ble_eq_true rfl) ⟨Nat.zero_le _, Nat.zero_le _⟩ dX9_whyNotTold_79 (fun r18 hr18 => ?_)
            obtain ⟨z18, hz18, rfl⟩ := hr18
            refine s_if_eq (a := z18) (tgt := 102) hE.1 hE.2.1 (by omega) dX9_whyNotTold_82 (by decide) (fun c19 => ?_) (fun c19 => ?_)
            · skip
              refine lv_bipush (v := iI (-2)) hE.1 hE.2.1 dX9_whyNotTold_102 (by decide) ?_
              exact kr _ _ _ rfl ⟨-2, by omega, rfl⟩ dX9_whyNotTold_104
            · skip
              refine lv_aload_n hE.1 hE.2.1 dX9_whyNotTold_85 rfl (lv_at hl 4 rfl) ?_
              refine lv_lload hE.1 hE.2.1 dX9_whyNotTold_86 (lv_at hl 0 rfl) ?_
              refine x_vp (nn := 1) (As := [.long (lI (z17))]) (rest := []) hE (s_X9_isMotif l D K ad v ar al hI (z2) (by omega) ez2 (z17) (by omega)) wPre_blind (wPre_now hK hN hP) (x_recv hK hP 0 (by decide) (yG_9 rfl) rfl) rfl mw_1662 mw_1664 mw_74 mw_123 mw_1665 (by decide +kernel) ⟨by decide, by decide⟩ hl.1 rfl (Nat.le_of_ble_eq_true rfl) ⟨Nat.zero_le _, Nat.zero_le _⟩ dX9_whyNotTold_88 (fun r20 hr20 => ?_)
              obtain ⟨z20, hz20, rfl⟩ := hr20
              refine s_if_eq (a := z20) (tgt := 102) hE.1 hE.2.1 (by omega) dX9_whyNotTold_91 (by decide) (fun c21 => ?_) (fun c21 => ?_)
              · skip
                refine lv_bipush (v := iI (-2)) hE.1 hE.2.1 dX9_whyNotTold_102 (by decide) ?_
                exact kr _ _ _ rfl ⟨-2, by omega, rfl⟩ dX9_whyNotTold_104
              · skip
                refine lv_lload hE.1 hE.2.1 dX9_whyNotTold_94 (lv_at hl 1 rfl) ?_
                refine lv_lload hE.1 hE.2.1 dX9_whyNotTold_96 (lv_at hl 0 rfl) ?_
                refine W.lcmp hE.1 hE.2.1 dX9_whyNotTold_98 ?_
                obtain ⟨z22, hz22, ez22⟩ := lcmp_of (a := z15) (b := z17) (by omega) (by omega)
                refine x_top ez22 ?_
                refine s_if_ne (a := z22) (tgt := 105) hE.1 hE.2.1 (by omega) dX9_whyNotTold_99 (by decide) (fun c23 => ?_) (fun c23 => ?_)
                · skip
                  refine lv_iload_n hE.1 hE.2.1 dX9_whyNotTold_105 rfl (lv_at hl 6 rfl) ?_
                  refine lv_iconst (v := iI (3)) hE.1 hE.2.1 dX9_whyNotTold_106 (by decide) ?_
                  refine s_icmp_ne (a := 2) (b := 3) (tgt := 141) hE.1 hE.2.1 (by omega) (by omega) dX9_whyNotTold_107 (by decide) (fun _ => ?_) (fun c24 => False.elim (by omega))
                  refine lv_iload hE.1 hE.2.1 dX9_whyNotTold_141 (lv_at hl 2 rfl) ?_
                  refine lv_iload_n hE.1 hE.2.1 dX9_whyNotTold_143 rfl (lv_at hl 6 rfl) ?_
                  refine lv_iadd hE.1 hE.2.1 dX9_whyNotTold_144 ?_
                  refine x_top (y := iI (y11_4 + 2)) ((iI_add (y11_4) (2)).trans (congrArg iI (by omega))) ?_
                  refine lv_istore (lv' := [(4, .int (iI (y11_4 + 2))), (7, .long (lI (z17))), (5, .long (lI (z15))), (3, .int (iI (z5))), (0, .ref (ad 0)), (1, .int (iI (z_1))), (2, .int (iI (2)))]) hE.1 hE.2.1 dX9_whyNotTold_145 hl (by decide) rfl (fun ls hl => ?_)
                  refine lv_goto (tgt := 29) hE.1 hE.2.1 dX9_whyNotTold_147 (by decide) ?_
                  exact ih11 _ (by omega) (y11_4 + 2) _ rfl (by omega) (lv_sub hl [0, 3, 4, 5, 6] rfl)
                · skip
                  refine lv_bipush (v := iI (-2)) hE.1 hE.2.1 dX9_whyNotTold_102 (by decide) ?_
                  exact kr _ _ _ rfl ⟨-2, by omega, rfl⟩ dX9_whyNotTold_104
      exact loop11 _ (0) _ rfl (by omega) hl
    · skip
      refine lv_bipush (v := iI (-2)) hE.1 hE.2.1 dX9_whyNotTold_23 (by decide) ?_
      exact kr _ _ _ rfl ⟨-2, by omega, rfl⟩ dX9_whyNotTold_25
  · skip
    refine lv_iload_n hE.1 hE.2.1 dX9_whyNotTold_10 rfl (lv_at hl 0 rfl) ?_
    exact kr _ _ _ rfl ⟨z5, by omega, rfl⟩ dX9_whyNotTold_11

theorem dX9_cellOf_0 : decode cX9_cellOf 0 = .ok (.aload_n 0, 1) := by decide +kernel
theorem dX9_cellOf_1 : decode cX9_cellOf 1 = .ok (.getfield 16, 3) := by decide +kernel
theorem dX9_cellOf_4 : decode cX9_cellOf 4 = .ok (.bipush 60, 2) := by decide +kernel
theorem dX9_cellOf_6 : decode cX9_cellOf 6 = .ok (.iload_n 1, 1) := by decide +kernel
theorem dX9_cellOf_7 : decode cX9_cellOf 7 = .ok (.imul, 1) := by decide +kernel
theorem dX9_cellOf_8 : decode cX9_cellOf 8 = .ok (.iload_n 2, 1) := by decide +kernel
theorem dX9_cellOf_9 : decode cX9_cellOf 9 = .ok (.iadd, 1) := by decide +kernel
theorem dX9_cellOf_10 : decode cX9_cellOf 10 = .ok (.laload, 1) := by decide +kernel
theorem dX9_cellOf_11 : decode cX9_cellOf 11 = .ok (.l2i, 1) := by decide +kernel
theorem dX9_cellOf_12 : decode cX9_cellOf 12 = .ok (.ireturn, 1) := by decide +kernel
set_option maxHeartbeats 4000000 in
set_option maxRecDepth 100000 in
theorem s_X9_cellOf (l : Launch) (D : va_G) (K : Nat → ClassId) (ad : Nat → Nat) (v ar : sI) (al : sL) (hI : YI v ar) (z_1 : Int) (hz_1 : 0 ≤ z_1 ∧ z_1 ≤ 3) (z_2 : Int) (hz_2 : 0 ≤ z_2 ∧ z_2 ≤ 59) : Met l yX9_cellOf (wM yX9_cellOf cX9_cellOf 3 (some .int)) (rmD 0) (va_Pc [.ref (ad 0), .int (iI (z_1)), .int (iI (z_2))] (wPre D K ad (yG ad K) 21 v ar al)) (vp_Si (fun r => ∃ z : Int, (-2147483648 ≤ z ∧ z ≤ 2147483647) ∧ r = iI z)) 0 0 (fun _ => False) := by
  refine s_metP (by decide) (Nat.le_of_ble_eq_true rfl) ?_
  intro p e s m below meth c ls args Q hE hB hl kr
  have hE : CallFix p m c cX9_cellOf 3 s args tbG "TaleCourtModel" := hE
  obtain ⟨hP, hK, hN⟩ := hB
  have hl : lv_has ls 3 [(0, .ref (ad 0)), (1, .int (iI (z_1))), (2, .int (iI (z_2)))] := hl
  refine lv_aload_n hE.1 hE.2.1 dX9_cellOf_0 rfl (lv_at hl 0 rfl) ?_
  refine x_get (x := .ref (ad 3)) hE hK hP 0 (by decide) (yG_9 rfl) rfl hin9 3 (by decide) mw_1337 rfl dX9_cellOf_1 ?_
  refine lv_bipush (v := iI (60)) hE.1 hE.2.1 dX9_cellOf_4 (by decide) ?_
  refine lv_iload_n hE.1 hE.2.1 dX9_cellOf_6 rfl (lv_at hl 1 rfl) ?_
  refine lv_imul hE.1 hE.2.1 dX9_cellOf_7 ?_
  refine x_top (y := iI (60 * z_1)) ((iI_mul (60) (z_1)).trans (congrArg iI (by omega))) ?_
  refine lv_iload_n hE.1 hE.2.1 dX9_cellOf_8 rfl (lv_at hl 2 rfl) ?_
  refine lv_iadd hE.1 hE.2.1 dX9_cellOf_9 ?_
  refine x_top (y := iI (60 * z_1 + z_2)) ((iI_add (60 * z_1) (z_2)).trans (congrArg iI (by omega))) ?_
  refine x_lald (j := iI (60 * z_1 + z_2)) hE hK hP 3 (by decide) (yG_11 rfl) (iI_in (n := 240) (by omega)) dX9_cellOf_10 ?_
  obtain ⟨z2, hz2, ez2⟩ := lI_of (al 3 (iI (60 * z_1 + z_2)).toNatClampNeg)
  refine x_topl ez2 ?_
  refine lv_l2i (v := iI (z2)) hE.1 hE.2.1 dX9_cellOf_11 (lI_l2i _) ?_
  obtain ⟨z3, hz3, ez3⟩ := iI_of (iI (z2))
  refine x_top ez3 ?_
  exact kr _ _ _ rfl ⟨z3, by omega, rfl⟩ dX9_cellOf_12

theorem dX9_laysUntrue_0 : decode cX9_laysUntrue 0 = .ok (.iconst 1, 1) := by decide +kernel
theorem dX9_laysUntrue_1 : decode cX9_laysUntrue 1 = .ok (.aload_n 0, 1) := by decide +kernel
theorem dX9_laysUntrue_2 : decode cX9_laysUntrue 2 = .ok (.getfield 34, 3) := by decide +kernel
theorem dX9_laysUntrue_5 : decode cX9_laysUntrue 5 = .ok (.iconst 2, 1) := by decide +kernel
theorem dX9_laysUntrue_6 : decode cX9_laysUntrue 6 = .ok (.iaload, 1) := by decide +kernel
theorem dX9_laysUntrue_7 : decode cX9_laysUntrue 7 = .ok (.ishl, 1) := by decide +kernel
theorem dX9_laysUntrue_8 : decode cX9_laysUntrue 8 = .ok (.istore 4, 2) := by decide +kernel
theorem dX9_laysUntrue_10 : decode cX9_laysUntrue 10 = .ok (.iconst 0, 1) := by decide +kernel
theorem dX9_laysUntrue_11 : decode cX9_laysUntrue 11 = .ok (.istore 5, 2) := by decide +kernel
theorem dX9_laysUntrue_13 : decode cX9_laysUntrue 13 = .ok (.iload 5, 2) := by decide +kernel
theorem dX9_laysUntrue_15 : decode cX9_laysUntrue 15 = .ok (.iload 4, 2) := by decide +kernel
theorem dX9_laysUntrue_17 : decode cX9_laysUntrue 17 = .ok (.if_icmp .ge 28, 3) := by decide +kernel
theorem dX9_laysUntrue_20 : decode cX9_laysUntrue 20 = .ok (.aload_n 0, 1) := by decide +kernel
theorem dX9_laysUntrue_21 : decode cX9_laysUntrue 21 = .ok (.getfield 75, 3) := by decide +kernel
theorem dX9_laysUntrue_24 : decode cX9_laysUntrue 24 = .ok (.iload 5, 2) := by decide +kernel
theorem dX9_laysUntrue_26 : decode cX9_laysUntrue 26 = .ok (.iload 5, 2) := by decide +kernel
theorem dX9_laysUntrue_28 : decode cX9_laysUntrue 28 = .ok (.ifCond .ne 7, 3) := by decide +kernel
theorem dX9_laysUntrue_31 : decode cX9_laysUntrue 31 = .ok (.iconst 0, 1) := by decide +kernel
theorem dX9_laysUntrue_32 : decode cX9_laysUntrue 32 = .ok (.goto 6, 3) := by decide +kernel
theorem dX9_laysUntrue_35 : decode cX9_laysUntrue 35 = .ok (.sipush 1000, 3) := by decide +kernel
theorem dX9_laysUntrue_38 : decode cX9_laysUntrue 38 = .ok (.iastore, 1) := by decide +kernel
theorem dX9_laysUntrue_39 : decode cX9_laysUntrue 39 = .ok (.iinc 5 1, 3) := by decide +kernel
theorem dX9_laysUntrue_42 : decode cX9_laysUntrue 42 = .ok (.goto (-29), 3) := by decide +kernel
theorem dX9_laysUntrue_45 : decode cX9_laysUntrue 45 = .ok (.iconst 0, 1) := by decide +kernel
theorem dX9_laysUntrue_46 : decode cX9_laysUntrue 46 = .ok (.istore 5, 2) := by decide +kernel
theorem dX9_laysUntrue_48 : decode cX9_laysUntrue 48 = .ok (.iload 5, 2) := by decide +kernel
theorem dX9_laysUntrue_50 : decode cX9_laysUntrue 50 = .ok (.iload 4, 2) := by decide +kernel
theorem dX9_laysUntrue_52 : decode cX9_laysUntrue 52 = .ok (.if_icmp .ge 26, 3) := by decide +kernel
theorem dX9_laysUntrue_55 : decode cX9_laysUntrue 55 = .ok (.aload_n 0, 1) := by decide +kernel
theorem dX9_laysUntrue_56 : decode cX9_laysUntrue 56 = .ok (.getfield 78, 3) := by decide +kernel
theorem dX9_laysUntrue_59 : decode cX9_laysUntrue 59 = .ok (.iload 5, 2) := by decide +kernel
theorem dX9_laysUntrue_61 : decode cX9_laysUntrue 61 = .ok (.iload 5, 2) := by decide +kernel
theorem dX9_laysUntrue_63 : decode cX9_laysUntrue 63 = .ok (.ifCond .ne 7, 3) := by decide +kernel
theorem dX9_laysUntrue_66 : decode cX9_laysUntrue 66 = .ok (.iconst 1, 1) := by decide +kernel
theorem dX9_laysUntrue_67 : decode cX9_laysUntrue 67 = .ok (.goto 4, 3) := by decide +kernel
theorem dX9_laysUntrue_70 : decode cX9_laysUntrue 70 = .ok (.iconst 0, 1) := by decide +kernel
theorem dX9_laysUntrue_71 : decode cX9_laysUntrue 71 = .ok (.iastore, 1) := by decide +kernel
theorem dX9_laysUntrue_72 : decode cX9_laysUntrue 72 = .ok (.iinc 5 1, 3) := by decide +kernel
theorem dX9_laysUntrue_75 : decode cX9_laysUntrue 75 = .ok (.goto (-27), 3) := by decide +kernel
theorem dX9_laysUntrue_78 : decode cX9_laysUntrue 78 = .ok (.iconst 0, 1) := by decide +kernel
theorem dX9_laysUntrue_79 : decode cX9_laysUntrue 79 = .ok (.istore 5, 2) := by decide +kernel
theorem dX9_laysUntrue_81 : decode cX9_laysUntrue 81 = .ok (.iload 5, 2) := by decide +kernel
theorem dX9_laysUntrue_83 : decode cX9_laysUntrue 83 = .ok (.iload 4, 2) := by decide +kernel
theorem dX9_laysUntrue_85 : decode cX9_laysUntrue 85 = .ok (.if_icmp .ge 221, 3) := by decide +kernel
theorem dX9_laysUntrue_88 : decode cX9_laysUntrue 88 = .ok (.iconst 0, 1) := by decide +kernel
theorem dX9_laysUntrue_89 : decode cX9_laysUntrue 89 = .ok (.istore 6, 2) := by decide +kernel
theorem dX9_laysUntrue_91 : decode cX9_laysUntrue 91 = .ok (.iload 6, 2) := by decide +kernel
theorem dX9_laysUntrue_93 : decode cX9_laysUntrue 93 = .ok (.aload_n 0, 1) := by decide +kernel
theorem dX9_laysUntrue_94 : decode cX9_laysUntrue 94 = .ok (.getfield 34, 3) := by decide +kernel
theorem dX9_laysUntrue_97 : decode cX9_laysUntrue 97 = .ok (.iconst 2, 1) := by decide +kernel
theorem dX9_laysUntrue_98 : decode cX9_laysUntrue 98 = .ok (.iaload, 1) := by decide +kernel
theorem dX9_laysUntrue_99 : decode cX9_laysUntrue 99 = .ok (.if_icmp .ge 201, 3) := by decide +kernel
theorem dX9_laysUntrue_102 : decode cX9_laysUntrue 102 = .ok (.iload 5, 2) := by decide +kernel
theorem dX9_laysUntrue_104 : decode cX9_laysUntrue 104 = .ok (.iload 6, 2) := by decide +kernel
theorem dX9_laysUntrue_106 : decode cX9_laysUntrue 106 = .ok (.invokestatic 261, 3) := by decide +kernel
theorem dX9_laysUntrue_109 : decode cX9_laysUntrue 109 = .ok (.ifCond .eq 6, 3) := by decide +kernel
theorem dX9_laysUntrue_112 : decode cX9_laysUntrue 112 = .ok (.goto 182, 3) := by decide +kernel
theorem dX9_laysUntrue_115 : decode cX9_laysUntrue 115 = .ok (.aload_n 0, 1) := by decide +kernel
theorem dX9_laysUntrue_116 : decode cX9_laysUntrue 116 = .ok (.getfield 75, 3) := by decide +kernel
theorem dX9_laysUntrue_119 : decode cX9_laysUntrue 119 = .ok (.iload 5, 2) := by decide +kernel
theorem dX9_laysUntrue_121 : decode cX9_laysUntrue 121 = .ok (.iaload, 1) := by decide +kernel
theorem dX9_laysUntrue_122 : decode cX9_laysUntrue 122 = .ok (.istore 7, 2) := by decide +kernel
theorem dX9_laysUntrue_124 : decode cX9_laysUntrue 124 = .ok (.iconst 0, 1) := by decide +kernel
theorem dX9_laysUntrue_125 : decode cX9_laysUntrue 125 = .ok (.istore 8, 2) := by decide +kernel
theorem dX9_laysUntrue_127 : decode cX9_laysUntrue 127 = .ok (.iload 8, 2) := by decide +kernel
theorem dX9_laysUntrue_129 : decode cX9_laysUntrue 129 = .ok (.aload_n 0, 1) := by decide +kernel
theorem dX9_laysUntrue_130 : decode cX9_laysUntrue 130 = .ok (.getfield 13, 3) := by decide +kernel
theorem dX9_laysUntrue_133 : decode cX9_laysUntrue 133 = .ok (.iload_n 1, 1) := by decide +kernel
theorem dX9_laysUntrue_134 : decode cX9_laysUntrue 134 = .ok (.iaload, 1) := by decide +kernel
theorem dX9_laysUntrue_135 : decode cX9_laysUntrue 135 = .ok (.if_icmp .ge 88, 3) := by decide +kernel
theorem dX9_laysUntrue_138 : decode cX9_laysUntrue 138 = .ok (.iload_n 2, 1) := by decide +kernel
theorem dX9_laysUntrue_139 : decode cX9_laysUntrue 139 = .ok (.iconst 2, 1) := by decide +kernel
theorem dX9_laysUntrue_140 : decode cX9_laysUntrue 140 = .ok (.if_icmp .eq 17, 3) := by decide +kernel
theorem dX9_laysUntrue_157 : decode cX9_laysUntrue 157 = .ok (.iconst 1, 1) := by decide +kernel
theorem dX9_laysUntrue_158 : decode cX9_laysUntrue 158 = .ok (.goto 4, 3) := by decide +kernel
theorem dX9_laysUntrue_162 : decode cX9_laysUntrue 162 = .ok (.istore 9, 2) := by decide +kernel
theorem dX9_laysUntrue_164 : decode cX9_laysUntrue 164 = .ok (.iload 7, 2) := by decide +kernel
theorem dX9_laysUntrue_166 : decode cX9_laysUntrue 166 = .ok (.iload 9, 2) := by decide +kernel
theorem dX9_laysUntrue_168 : decode cX9_laysUntrue 168 = .ok (.ifCond .eq 42, 3) := by decide +kernel
theorem dX9_laysUntrue_171 : decode cX9_laysUntrue 171 = .ok (.aload_n 0, 1) := by decide +kernel
theorem dX9_laysUntrue_172 : decode cX9_laysUntrue 172 = .ok (.iload_n 1, 1) := by decide +kernel
theorem dX9_laysUntrue_173 : decode cX9_laysUntrue 173 = .ok (.iload 8, 2) := by decide +kernel
theorem dX9_laysUntrue_175 : decode cX9_laysUntrue 175 = .ok (.iload_n 2, 1) := by decide +kernel
theorem dX9_laysUntrue_176 : decode cX9_laysUntrue 176 = .ok (.iadd, 1) := by decide +kernel
theorem dX9_laysUntrue_177 : decode cX9_laysUntrue 177 = .ok (.iconst 2, 1) := by decide +kernel
theorem dX9_laysUntrue_178 : decode cX9_laysUntrue 178 = .ok (.isub, 1) := by decide +kernel
theorem dX9_laysUntrue_179 : decode cX9_laysUntrue 179 = .ok (.invokevirtual 424, 3) := by decide +kernel
theorem dX9_laysUntrue_182 : decode cX9_laysUntrue 182 = .ok (.iload 6, 2) := by decide +kernel
theorem dX9_laysUntrue_184 : decode cX9_laysUntrue 184 = .ok (.if_icmp .ne 26, 3) := by decide +kernel
theorem dX9_laysUntrue_187 : decode cX9_laysUntrue 187 = .ok (.iload 5, 2) := by decide +kernel
theorem dX9_laysUntrue_189 : decode cX9_laysUntrue 189 = .ok (.aload_n 0, 1) := by decide +kernel
theorem dX9_laysUntrue_190 : decode cX9_laysUntrue 190 = .ok (.iload_n 1, 1) := by decide +kernel
theorem dX9_laysUntrue_191 : decode cX9_laysUntrue 191 = .ok (.iload 8, 2) := by decide +kernel
theorem dX9_laysUntrue_193 : decode cX9_laysUntrue 193 = .ok (.iload_n 2, 1) := by decide +kernel
theorem dX9_laysUntrue_194 : decode cX9_laysUntrue 194 = .ok (.iadd, 1) := by decide +kernel
theorem dX9_laysUntrue_195 : decode cX9_laysUntrue 195 = .ok (.iconst 1, 1) := by decide +kernel
theorem dX9_laysUntrue_196 : decode cX9_laysUntrue 196 = .ok (.isub, 1) := by decide +kernel
theorem dX9_laysUntrue_197 : decode cX9_laysUntrue 197 = .ok (.invokevirtual 424, 3) := by decide +kernel
theorem dX9_laysUntrue_200 : decode cX9_laysUntrue 200 = .ok (.invokestatic 261, 3) := by decide +kernel
theorem dX9_laysUntrue_203 : decode cX9_laysUntrue 203 = .ok (.ifCond .eq 7, 3) := by decide +kernel
theorem dX9_laysUntrue_206 : decode cX9_laysUntrue 206 = .ok (.iconst 1, 1) := by decide +kernel
theorem dX9_laysUntrue_207 : decode cX9_laysUntrue 207 = .ok (.goto 4, 3) := by decide +kernel
theorem dX9_laysUntrue_210 : decode cX9_laysUntrue 210 = .ok (.iconst 0, 1) := by decide +kernel
theorem dX9_laysUntrue_211 : decode cX9_laysUntrue 211 = .ok (.iadd, 1) := by decide +kernel
theorem dX9_laysUntrue_212 : decode cX9_laysUntrue 212 = .ok (.istore 7, 2) := by decide +kernel
theorem dX9_laysUntrue_214 : decode cX9_laysUntrue 214 = .ok (.iload 8, 2) := by decide +kernel
theorem dX9_laysUntrue_216 : decode cX9_laysUntrue 216 = .ok (.iload_n 2, 1) := by decide +kernel
theorem dX9_laysUntrue_217 : decode cX9_laysUntrue 217 = .ok (.iadd, 1) := by decide +kernel
theorem dX9_laysUntrue_218 : decode cX9_laysUntrue 218 = .ok (.istore 8, 2) := by decide +kernel
theorem dX9_laysUntrue_220 : decode cX9_laysUntrue 220 = .ok (.goto (-93), 3) := by decide +kernel
theorem dX9_laysUntrue_223 : decode cX9_laysUntrue 223 = .ok (.iload 5, 2) := by decide +kernel
theorem dX9_laysUntrue_225 : decode cX9_laysUntrue 225 = .ok (.iconst 1, 1) := by decide +kernel
theorem dX9_laysUntrue_226 : decode cX9_laysUntrue 226 = .ok (.iload 6, 2) := by decide +kernel
theorem dX9_laysUntrue_228 : decode cX9_laysUntrue 228 = .ok (.ishl, 1) := by decide +kernel
theorem dX9_laysUntrue_229 : decode cX9_laysUntrue 229 = .ok (.ior, 1) := by decide +kernel
theorem dX9_laysUntrue_230 : decode cX9_laysUntrue 230 = .ok (.istore 8, 2) := by decide +kernel
theorem dX9_laysUntrue_232 : decode cX9_laysUntrue 232 = .ok (.iload 7, 2) := by decide +kernel
theorem dX9_laysUntrue_234 : decode cX9_laysUntrue 234 = .ok (.aload_n 0, 1) := by decide +kernel
theorem dX9_laysUntrue_235 : decode cX9_laysUntrue 235 = .ok (.getfield 75, 3) := by decide +kernel
theorem dX9_laysUntrue_238 : decode cX9_laysUntrue 238 = .ok (.iload 8, 2) := by decide +kernel
theorem dX9_laysUntrue_240 : decode cX9_laysUntrue 240 = .ok (.iaload, 1) := by decide +kernel
theorem dX9_laysUntrue_241 : decode cX9_laysUntrue 241 = .ok (.if_icmp .ge 20, 3) := by decide +kernel
theorem dX9_laysUntrue_244 : decode cX9_laysUntrue 244 = .ok (.aload_n 0, 1) := by decide +kernel
theorem dX9_laysUntrue_245 : decode cX9_laysUntrue 245 = .ok (.getfield 75, 3) := by decide +kernel
theorem dX9_laysUntrue_248 : decode cX9_laysUntrue 248 = .ok (.iload 8, 2) := by decide +kernel
theorem dX9_laysUntrue_250 : decode cX9_laysUntrue 250 = .ok (.iload 7, 2) := by decide +kernel
theorem dX9_laysUntrue_252 : decode cX9_laysUntrue 252 = .ok (.iastore, 1) := by decide +kernel
theorem dX9_laysUntrue_253 : decode cX9_laysUntrue 253 = .ok (.aload_n 0, 1) := by decide +kernel
theorem dX9_laysUntrue_254 : decode cX9_laysUntrue 254 = .ok (.getfield 78, 3) := by decide +kernel
theorem dX9_laysUntrue_257 : decode cX9_laysUntrue 257 = .ok (.iload 8, 2) := by decide +kernel
theorem dX9_laysUntrue_259 : decode cX9_laysUntrue 259 = .ok (.iconst 0, 1) := by decide +kernel
theorem dX9_laysUntrue_260 : decode cX9_laysUntrue 260 = .ok (.iastore, 1) := by decide +kernel
theorem dX9_laysUntrue_261 : decode cX9_laysUntrue 261 = .ok (.aload_n 0, 1) := by decide +kernel
theorem dX9_laysUntrue_262 : decode cX9_laysUntrue 262 = .ok (.getfield 78, 3) := by decide +kernel
theorem dX9_laysUntrue_265 : decode cX9_laysUntrue 265 = .ok (.iload 8, 2) := by decide +kernel
theorem dX9_laysUntrue_267 : decode cX9_laysUntrue 267 = .ok (.dup2, 1) := by decide +kernel
theorem dX9_laysUntrue_268 : decode cX9_laysUntrue 268 = .ok (.iaload, 1) := by decide +kernel
theorem dX9_laysUntrue_269 : decode cX9_laysUntrue 269 = .ok (.iload 7, 2) := by decide +kernel
theorem dX9_laysUntrue_271 : decode cX9_laysUntrue 271 = .ok (.aload_n 0, 1) := by decide +kernel
theorem dX9_laysUntrue_272 : decode cX9_laysUntrue 272 = .ok (.getfield 75, 3) := by decide +kernel
theorem dX9_laysUntrue_275 : decode cX9_laysUntrue 275 = .ok (.iload 8, 2) := by decide +kernel
theorem dX9_laysUntrue_277 : decode cX9_laysUntrue 277 = .ok (.iaload, 1) := by decide +kernel
theorem dX9_laysUntrue_278 : decode cX9_laysUntrue 278 = .ok (.if_icmp .ne 13, 3) := by decide +kernel
theorem dX9_laysUntrue_281 : decode cX9_laysUntrue 281 = .ok (.aload_n 0, 1) := by decide +kernel
theorem dX9_laysUntrue_282 : decode cX9_laysUntrue 282 = .ok (.getfield 78, 3) := by decide +kernel
theorem dX9_laysUntrue_285 : decode cX9_laysUntrue 285 = .ok (.iload 5, 2) := by decide +kernel
theorem dX9_laysUntrue_287 : decode cX9_laysUntrue 287 = .ok (.iaload, 1) := by decide +kernel
theorem dX9_laysUntrue_288 : decode cX9_laysUntrue 288 = .ok (.goto 4, 3) := by decide +kernel
theorem dX9_laysUntrue_291 : decode cX9_laysUntrue 291 = .ok (.iconst 0, 1) := by decide +kernel
theorem dX9_laysUntrue_292 : decode cX9_laysUntrue 292 = .ok (.iadd, 1) := by decide +kernel
theorem dX9_laysUntrue_293 : decode cX9_laysUntrue 293 = .ok (.iastore, 1) := by decide +kernel
theorem dX9_laysUntrue_294 : decode cX9_laysUntrue 294 = .ok (.iinc 6 1, 3) := by decide +kernel
theorem dX9_laysUntrue_297 : decode cX9_laysUntrue 297 = .ok (.goto (-206), 3) := by decide +kernel
theorem dX9_laysUntrue_300 : decode cX9_laysUntrue 300 = .ok (.iinc 5 1, 3) := by decide +kernel
theorem dX9_laysUntrue_303 : decode cX9_laysUntrue 303 = .ok (.goto (-222), 3) := by decide +kernel
theorem dX9_laysUntrue_306 : decode cX9_laysUntrue 306 = .ok (.return_, 1) := by decide +kernel
set_option maxHeartbeats 4000000 in
set_option maxRecDepth 100000 in
theorem s_X9_laysUntrue_c1_2_c2_0 (l : Launch) (D : va_G) (K : Nat → ClassId) (ad : Nat → Nat) (v ar : sI) (al : sL) (hI : YI v ar) (z_1 : Int) (hz_1 : 0 ≤ z_1 ∧ z_1 ≤ 3) : Met l yX9_laysUntrue (wM yX9_laysUntrue cX9_laysUntrue 10 none) (rmD 1) (va_Pc [.ref (ad 0), .int (iI (z_1)), .int (iI (2)), .int (iI (0))] (wPre D K ad (yG ad K) 21 v ar al)) (va_Qv (fun u : sT => YI u.1 u.2.1 ∧ (∀ i j : Nat, (i, j) ∉ ([] : List (Nat × Nat)) → u.1 i j = v i j) ∧ (∀ i : Nat, i ∉ ([19, 20] : List Nat) → u.2.1 i = ar i) ∧ (∀ i : Nat, i ∉ ([] : List Nat) → u.2.2 i = al i)) (wB D ad (yG ad K) 21) (inW ad 21)) 0 0 (inW ad 21) := by
  refine s_metV (by decide) (Nat.le_of_ble_eq_true rfl) ?_
  intro p e s m below meth c ls args Q hE hB hl kr
  have hE : CallFix p m c cX9_laysUntrue 10 s args tbG "TaleCourtModel" := hE
  obtain ⟨hP, hK, hN⟩ := hB
  have hS : va_S (inW ad 21) s.heap s.heap [] := va_S.rf
  have hl : lv_has ls 10 [(0, .ref (ad 0)), (1, .int (iI (z_1))), (2, .int (iI (2))), (3, .int (iI (0)))] := hl
  refine lv_iconst (v := iI (1)) hE.1 hE.2.1 dX9_laysUntrue_0 (by decide) ?_
  refine lv_aload_n hE.1 hE.2.1 dX9_laysUntrue_1 rfl (lv_at hl 0 rfl) ?_
  refine x_get (x := .ref (ad 7)) hE hK hP 0 (by decide) (yG_9 rfl) rfl hin9 17 (by decide) mw_1351 rfl dX9_laysUntrue_2 ?_
  refine lv_iconst (v := iI (2)) hE.1 hE.2.1 dX9_laysUntrue_5 (by decide) ?_
  refine x_iald (j := iI (2)) hE hK hP 7 (by decide) (yG_10 rfl) (iI_in (n := 30) (by omega)) dX9_laysUntrue_6 ?_
  obtain ⟨z2, hz2, ez2⟩ := YI_h2 hI 2 (by decide)
  refine x_top (y := iI (z2)) (by rw [show (iI (2)).toNatClampNeg = 2 from by decide]; exact ez2) ?_
  refine lv_ishl hE.1 hE.2.1 dX9_laysUntrue_7 ?_
  obtain ⟨z3, hz3, ez3⟩ := iI_shl9 (a := z2) (by omega)
  refine x_top ez3 ?_
  refine lv_istore (lv' := [(4, .int (iI (z3))), (0, .ref (ad 0)), (1, .int (iI (z_1))), (2, .int (iI (2))), (3, .int (iI (0)))]) hE.1 hE.2.1 dX9_laysUntrue_8 hl (by decide) rfl (fun ls hl => ?_)
  refine lv_iconst (v := iI (0)) hE.1 hE.2.1 dX9_laysUntrue_10 (by decide) ?_
  refine lv_istore (lv' := [(5, .int (iI (0))), (4, .int (iI (z3))), (0, .ref (ad 0)), (1, .int (iI (z_1))), (2, .int (iI (2))), (3, .int (iI (0)))]) hE.1 hE.2.1 dX9_laysUntrue_11 hl (by decide) rfl (fun ls hl => ?_)
  have loop4 : ∀ (k4 : Nat) (y4_5 : Int) (vl4 arl4 : sI) (all4 : sL) (H : Heap) (locs : List Loc) (ls : Array Slot), (512 - y4_5).toNat = k4 → (0 ≤ y4_5 ∧ y4_5 ≤ 512) → YI vl4 arl4 → (∀ i j : Nat, (i, j) ∉ ([] : List (Nat × Nat)) → vl4 i j = v i j) → (∀ i : Nat, i ∉ ([19] : List Nat) → arl4 i = ar i) → (∀ i : Nat, i ∉ ([] : List Nat) → all4 i = al i) → va_P D xcl (wW ad (yG ad K) 21 vl4 arl4 all4) H → va_S (inW ad 21) s.heap H locs → lv_has ls 10 [(5, .int (iI (y4_5))), (4, .int (iI (z3))), (0, .ref (ad 0)), (1, .int (iI (z_1))), (2, .int (iI (2))), (3, .int (iI (0)))] → W p l e (rmD 1) s m args below meth c H locs 0 0 Q (F0 m 13 ls []) := by
    intro k4
    induction k4 using Nat.strongRecOn with
    | _ k4 ih4 =>
      intro y4_5  vl4 arl4 all4 H locs ls hk4 hb_y4_5 hI hfr4 hfa4 hfl4 hP hS hl
      refine lv_iload hE.1 hE.2.1 dX9_laysUntrue_13 (lv_at hl 0 rfl) ?_
      refine lv_iload hE.1 hE.2.1 dX9_laysUntrue_15 (lv_at hl 1 rfl) ?_
      refine s_icmp_ge (a := y4_5) (b := z3) (tgt := 45) hE.1 hE.2.1 (by omega) (by omega) dX9_laysUntrue_17 (by decide) (fun c5 => ?_) (fun c5 => ?_)
      · skip
        refine lv_iconst (v := iI (0)) hE.1 hE.2.1 dX9_laysUntrue_45 (by decide) ?_
        refine lv_istore (lv' := [(5, .int (iI (0))), (4, .int (iI (z3))), (0, .ref (ad 0)), (1, .int (iI (z_1))), (2, .int (iI (2))), (3, .int (iI (0)))]) hE.1 hE.2.1 dX9_laysUntrue_46 hl (by decide) rfl (fun ls hl => ?_)
        have loop6 : ∀ (k6 : Nat) (y6_5 : Int) (vl6 arl6 : sI) (all6 : sL) (H : Heap) (locs : List Loc) (ls : Array Slot), (512 - y6_5).toNat = k6 → (0 ≤ y6_5 ∧ y6_5 ≤ 512) → YI vl6 arl6 → (∀ i j : Nat, (i, j) ∉ ([] : List (Nat × Nat)) → vl6 i j = vl4 i j) → (∀ i : Nat, i ∉ ([20] : List Nat) → arl6 i = arl4 i) → (∀ i : Nat, i ∉ ([] : List Nat) → all6 i = all4 i) → va_P D xcl (wW ad (yG ad K) 21 vl6 arl6 all6) H → va_S (inW ad 21) s.heap H locs → lv_has ls 10 [(5, .int (iI (y6_5))), (4, .int (iI (z3))), (0, .ref (ad 0)), (1, .int (iI (z_1))), (2, .int (iI (2))), (3, .int (iI (0)))] → W p l e (rmD 1) s m args below meth c H locs 0 0 Q (F0 m 48 ls []) := by
          intro k6
          induction k6 using Nat.strongRecOn with
          | _ k6 ih6 =>
            intro y6_5  vl6 arl6 all6 H locs ls hk6 hb_y6_5 hI hfr6 hfa6 hfl6 hP hS hl
            refine lv_iload hE.1 hE.2.1 dX9_laysUntrue_48 (lv_at hl 0 rfl) ?_
            refine lv_iload hE.1 hE.2.1 dX9_laysUntrue_50 (lv_at hl 1 rfl) ?_
            refine s_icmp_ge (a := y6_5) (b := z3) (tgt := 78) hE.1 hE.2.1 (by omega) (by omega) dX9_laysUntrue_52 (by decide) (fun c7 => ?_) (fun c7 => ?_)
            · skip
              refine lv_iconst (v := iI (0)) hE.1 hE.2.1 dX9_laysUntrue_78 (by decide) ?_
              refine lv_istore (lv' := [(5, .int (iI (0))), (4, .int (iI (z3))), (0, .ref (ad 0)), (1, .int (iI (z_1))), (2, .int (iI (2))), (3, .int (iI (0)))]) hE.1 hE.2.1 dX9_laysUntrue_79 hl (by decide) rfl (fun ls hl => ?_)
              have loop8 : ∀ (k8 : Nat) (y8_5 : Int) (vl8 arl8 : sI) (all8 : sL) (H : Heap) (locs : List Loc) (ls : Array Slot), (512 - y8_5).toNat = k8 → (0 ≤ y8_5 ∧ y8_5 ≤ 512) → YI vl8 arl8 → (∀ i j : Nat, (i, j) ∉ ([] : List (Nat × Nat)) → vl8 i j = vl6 i j) → (∀ i : Nat, i ∉ ([19, 20] : List Nat) → arl8 i = arl6 i) → (∀ i : Nat, i ∉ ([] : List Nat) → all8 i = all6 i) → va_P D xcl (wW ad (yG ad K) 21 vl8 arl8 all8) H → va_S (inW ad 21) s.heap H locs → lv_has ls 10 [(5, .int (iI (y8_5))), (4, .int (iI (z3))), (0, .ref (ad 0)), (1, .int (iI (z_1))), (2, .int (iI (2))), (3, .int (iI (0)))] → W p l e (rmD 1) s m args below meth c H locs 0 0 Q (F0 m 81 ls []) := by
                intro k8
                induction k8 using Nat.strongRecOn with
                | _ k8 ih8 =>
                  intro y8_5  vl8 arl8 all8 H locs ls hk8 hb_y8_5 hI hfr8 hfa8 hfl8 hP hS hl
                  refine lv_iload hE.1 hE.2.1 dX9_laysUntrue_81 (lv_at hl 0 rfl) ?_
                  refine lv_iload hE.1 hE.2.1 dX9_laysUntrue_83 (lv_at hl 1 rfl) ?_
                  refine s_icmp_ge (a := y8_5) (b := z3) (tgt := 306) hE.1 hE.2.1 (by omega) (by omega) dX9_laysUntrue_85 (by decide) (fun c9 => ?_) (fun c9 => ?_)
                  · skip
                    exact kr vl8 arl8 all8 _ _ _ _ ⟨hI, fun i j h => ((hfr8 i j (fun q => h (mem_sub (by decide) q))).trans ((hfr6 i j (fun q => h (mem_sub (by decide) q))).trans (hfr4 i j (fun q => h (mem_sub (by decide) q))))), fun i h => ((hfa8 i (fun q => h (mem_subn (by decide) q))).trans ((hfa6 i (fun q => h (mem_subn (by decide) q))).trans (hfa4 i (fun q => h (mem_subn (by decide) q))))), fun i h => ((hfl8 i (fun q => h (mem_subn (by decide) q))).trans ((hfl6 i (fun q => h (mem_subn (by decide) q))).trans (hfl4 i (fun q => h (mem_subn (by decide) q)))))⟩ hP hS dX9_laysUntrue_306
                  · skip
                    refine lv_iconst (v := iI (0)) hE.1 hE.2.1 dX9_laysUntrue_88 (by decide) ?_
                    refine lv_istore (lv' := [(6, .int (iI (0))), (5, .int (iI (y8_5))), (4, .int (iI (z3))), (0, .ref (ad 0)), (1, .int (iI (z_1))), (2, .int (iI (2))), (3, .int (iI (0)))]) hE.1 hE.2.1 dX9_laysUntrue_89 hl (by decide) rfl (fun ls hl => ?_)
                    have loop10 : ∀ (k10 : Nat) (y10_6 : Int) (vl10 arl10 : sI) (all10 : sL) (H : Heap) (locs : List Loc) (ls : Array Slot), (9 - y10_6).toNat = k10 → (0 ≤ y10_6 ∧ y10_6 ≤ 9) → YI vl10 arl10 → (∀ i j : Nat, (i, j) ∉ ([] : List (Nat × Nat)) → vl10 i j = vl8 i j) → (∀ i : Nat, i ∉ ([19, 20] : List Nat) → arl10 i = arl8 i) → (∀ i : Nat, i ∉ ([] : List Nat) → all10 i = all8 i) → va_P D xcl (wW ad (yG ad K) 21 vl10 arl10 all10) H → va_S (inW ad 21) s.heap H locs → lv_has ls 10 [(6, .int (iI (y10_6))), (5, .int (iI (y8_5))), (4, .int (iI (z3))), (0, .ref (ad 0)), (1, .int (iI (z_1))), (2, .int (iI (2))), (3, .int (iI (0)))] → W p l e (rmD 1) s m args below meth c H locs 0 0 Q (F0 m 91 ls []) := by
                      intro k10
                      induction k10 using Nat.strongRecOn with
                      | _ k10 ih10 =>
                        intro y10_6  vl10 arl10 all10 H locs ls hk10 hb_y10_6 hI hfr10 hfa10 hfl10 hP hS hl
                        refine lv_iload hE.1 hE.2.1 dX9_laysUntrue_91 (lv_at hl 0 rfl) ?_
                        refine lv_aload_n hE.1 hE.2.1 dX9_laysUntrue_93 rfl (lv_at hl 3 rfl) ?_
                        refine x_get (x := .ref (ad 7)) hE hK hP 0 (by decide) (yG_9 rfl) rfl hin9 17 (by decide) mw_1351 rfl dX9_laysUntrue_94 ?_
                        refine lv_iconst (v := iI (2)) hE.1 hE.2.1 dX9_laysUntrue_97 (by decide) ?_
                        refine x_iald (j := iI (2)) hE hK hP 7 (by decide) (yG_10 rfl) (iI_in (n := 30) (by omega)) dX9_laysUntrue_98 ?_
                        refine x_top (y := iI (z2)) (by rw [show (iI (2)).toNatClampNeg = 2 from by decide]; exact ((congrFun (hfa10 7 (by decide)) 2).trans ((congrFun (hfa8 7 (by decide)) 2).trans ((congrFun (hfa6 7 (by decide)) 2).trans ((congrFun (hfa4 7 (by decide)) 2).trans ez2))))) ?_
                        refine s_icmp_ge (a := y10_6) (b := z2) (tgt := 300) hE.1 hE.2.1 (by omega) (by omega) dX9_laysUntrue_99 (by decide) (fun c12 => ?_) (fun c12 => ?_)
                        · skip
                          refine lv_iinc (v := iI (y8_5 + 1)) (lv' := [(5, .int (iI (y8_5 + 1))), (6, .int (iI (y10_6))), (4, .int (iI (z3))), (0, .ref (ad 0)), (1, .int (iI (z_1))), (2, .int (iI (2))), (3, .int (iI (0)))]) hE.1 hE.2.1 dX9_laysUntrue_300 hl (k := 1) rfl ((iI_add (y8_5) (1)).trans (congrArg iI (by omega))) (by decide) rfl (fun ls hl => ?_)
                          refine lv_goto (tgt := 81) hE.1 hE.2.1 dX9_laysUntrue_303 (by decide) ?_
                          exact ih8 _ (by omega) (y8_5 + 1)  vl10 arl10 all10 _ _ _ rfl (by omega)  hI (fun i j h => ((hfr10 i j (fun q => h (mem_sub (by decide) q))).trans (hfr8 i j h))) (fun i h => ((hfa10 i (fun q => h (mem_subn (by decide) q))).trans (hfa8 i h))) (fun i h => ((hfl10 i (fun q => h (mem_subn (by decide) q))).trans (hfl8 i h))) hP hS (lv_sub hl [0, 2, 3, 4, 5, 6] rfl)
                        · skip
                          refine lv_iload hE.1 hE.2.1 dX9_laysUntrue_102 (lv_at hl 1 rfl) ?_
                          refine lv_iload hE.1 hE.2.1 dX9_laysUntrue_104 (lv_at hl 0 rfl) ?_
                          refine x_sp (nn := 2) (As := [.int (iI (y8_5)), .int (iI (y10_6))]) (rest := []) hE (s_X9_isBit l (y8_5) (by omega) (y10_6) (by omega)) tt_blind (fun _ _ _ => trivial) rfl mw_1683 mw_1684 mw_123 mw_1685 (by decide +kernel) ⟨by decide, by decide⟩ hl.1 rfl (Nat.le_of_ble_eq_true rfl) ⟨Nat.zero_le _, Nat.zero_le _⟩ dX9_laysUntrue_106 (fun r13 hr13 => ?_)
                          obtain ⟨z13, hz13, rfl⟩ := hr13
                          refine s_if_eq (a := z13) (tgt := 115) hE.1 hE.2.1 (by omega) dX9_laysUntrue_109 (by decide) (fun c14 => ?_) (fun c14 => ?_)
                          · skip
                            refine lv_aload_n hE.1 hE.2.1 dX9_laysUntrue_115 rfl (lv_at hl 3 rfl) ?_
                            refine x_get (x := .ref (ad 19)) hE hK hP 0 (by decide) (yG_9 rfl) rfl hin9 47 (by decide) mw_1381 rfl dX9_laysUntrue_116 ?_
                            refine lv_iload hE.1 hE.2.1 dX9_laysUntrue_119 (lv_at hl 1 rfl) ?_
                            refine x_iald (j := iI (y8_5)) hE hK hP 19 (by decide) (yG_10 rfl) (iI_in (n := 512) (by omega)) dX9_laysUntrue_121 ?_
                            obtain ⟨z16, hz16, ez16⟩ := iI_of (arl10 19 (iI (y8_5)).toNatClampNeg)
                            refine x_top ez16 ?_
                            refine lv_istore (lv' := [(7, .int (iI (z16))), (6, .int (iI (y10_6))), (5, .int (iI (y8_5))), (4, .int (iI (z3))), (0, .ref (ad 0)), (1, .int (iI (z_1))), (2, .int (iI (2))), (3, .int (iI (0)))]) hE.1 hE.2.1 dX9_laysUntrue_122 hl (by decide) rfl (fun ls hl => ?_)
                            refine lv_iconst (v := iI (0)) hE.1 hE.2.1 dX9_laysUntrue_124 (by decide) ?_
                            refine lv_istore (lv' := [(8, .int (iI (0))), (7, .int (iI (z16))), (6, .int (iI (y10_6))), (5, .int (iI (y8_5))), (4, .int (iI (z3))), (0, .ref (ad 0)), (1, .int (iI (z_1))), (2, .int (iI (2))), (3, .int (iI (0)))]) hE.1 hE.2.1 dX9_laysUntrue_125 hl (by decide) rfl (fun ls hl => ?_)
                            have loop17 : ∀ (k17 : Nat) (y17_8 : Int) (y17_7 : Int) (vl17 : sI) (all17 : sL) (H : Heap) (locs : List Loc) (ls : Array Slot), (60 - y17_8).toNat = k17 → (0 ≤ y17_8 ∧ y17_8 ≤ 62 ∧ y17_8 % 2 = 0) → (-2147483648 ≤ y17_7 ∧ y17_7 ≤ 2147483647) → YI vl17 arl10 → (∀ i j : Nat, (i, j) ∉ ([] : List (Nat × Nat)) → vl17 i j = vl10 i j) → (∀ i : Nat, i ∉ ([] : List Nat) → all17 i = all10 i) → va_P D xcl (wW ad (yG ad K) 21 vl17 arl10 all17) H → va_S (inW ad 21) s.heap H locs → lv_has ls 10 [(8, .int (iI (y17_8))), (7, .int (iI (y17_7))), (6, .int (iI (y10_6))), (5, .int (iI (y8_5))), (4, .int (iI (z3))), (0, .ref (ad 0)), (1, .int (iI (z_1))), (2, .int (iI (2))), (3, .int (iI (0)))] → W p l e (rmD 1) s m args below meth c H locs 0 0 Q (F0 m 127 ls []) := by
                              intro k17
                              induction k17 using Nat.strongRecOn with
                              | _ k17 ih17 =>
                                intro y17_8 y17_7  vl17 all17 H locs ls hk17 hb_y17_8 hb_y17_7 hI hfr17 hfl17 hP hS hl
                                refine lv_iload hE.1 hE.2.1 dX9_laysUntrue_127 (lv_at hl 0 rfl) ?_
                                refine lv_aload_n hE.1 hE.2.1 dX9_laysUntrue_129 rfl (lv_at hl 5 rfl) ?_
                                refine x_get (x := .ref (ad 2)) hE hK hP 0 (by decide) (yG_9 rfl) rfl hin9 2 (by decide) mw_1336 rfl dX9_laysUntrue_130 ?_
                                refine lv_iload_n hE.1 hE.2.1 dX9_laysUntrue_133 rfl (lv_at hl 6 rfl) ?_
                                refine x_iald (j := iI (z_1)) hE hK hP 2 (by decide) (yG_10 rfl) (iI_in (n := 4) (by omega)) dX9_laysUntrue_134 ?_
                                obtain ⟨z19, hz19, ez19⟩ := YI_a2 hI ((iI (z_1)).toNatClampNeg)
                                refine x_top ez19 ?_
                                refine s_icmp_ge (a := y17_8) (b := z19) (tgt := 223) hE.1 hE.2.1 (by omega) (by omega) dX9_laysUntrue_135 (by decide) (fun c20 => ?_) (fun c20 => ?_)
                                · skip
                                  refine lv_iload hE.1 hE.2.1 dX9_laysUntrue_223 (lv_at hl 3 rfl) ?_
                                  refine lv_iconst (v := iI (1)) hE.1 hE.2.1 dX9_laysUntrue_225 (by decide) ?_
                                  refine lv_iload hE.1 hE.2.1 dX9_laysUntrue_226 (lv_at hl 2 rfl) ?_
                                  refine lv_ishl hE.1 hE.2.1 dX9_laysUntrue_228 ?_
                                  obtain ⟨z21, hz21, ez21⟩ := iI_shl8 (a := y10_6) (by omega)
                                  refine x_top ez21 ?_
                                  refine lv_ior hE.1 hE.2.1 dX9_laysUntrue_229 ?_
                                  obtain ⟨z22, hz22, ez22⟩ := iI_or9 (a := y8_5) (b := z21) (by omega) (by omega)
                                  refine x_top ez22 ?_
                                  refine lv_istore (lv' := [(8, .int (iI (z22))), (7, .int (iI (y17_7))), (6, .int (iI (y10_6))), (5, .int (iI (y8_5))), (4, .int (iI (z3))), (0, .ref (ad 0)), (1, .int (iI (z_1))), (2, .int (iI (2))), (3, .int (iI (0)))]) hE.1 hE.2.1 dX9_laysUntrue_230 hl (by decide) rfl (fun ls hl => ?_)
                                  refine lv_iload hE.1 hE.2.1 dX9_laysUntrue_232 (lv_at hl 1 rfl) ?_
                                  refine lv_aload_n hE.1 hE.2.1 dX9_laysUntrue_234 rfl (lv_at hl 5 rfl) ?_
                                  refine x_get (x := .ref (ad 19)) hE hK hP 0 (by decide) (yG_9 rfl) rfl hin9 47 (by decide) mw_1381 rfl dX9_laysUntrue_235 ?_
                                  refine lv_iload hE.1 hE.2.1 dX9_laysUntrue_238 (lv_at hl 0 rfl) ?_
                                  refine x_iald (j := iI (z22)) hE hK hP 19 (by decide) (yG_10 rfl) (iI_in (n := 512) (by omega)) dX9_laysUntrue_240 ?_
                                  obtain ⟨z24, hz24, ez24⟩ := iI_of (arl10 19 (iI (z22)).toNatClampNeg)
                                  refine x_top ez24 ?_
                                  refine s_icmp_ge (a := y17_7) (b := z24) (tgt := 261) hE.1 hE.2.1 (by omega) (by omega) dX9_laysUntrue_241 (by decide) (fun c25 => ?_) (fun c25 => ?_)
                                  · skip
                                    refine lv_aload_n hE.1 hE.2.1 dX9_laysUntrue_261 rfl (lv_at hl 5 rfl) ?_
                                    refine x_get (x := .ref (ad 20)) hE hK hP 0 (by decide) (yG_9 rfl) rfl hin9 48 (by decide) mw_1382 rfl dX9_laysUntrue_262 ?_
                                    refine lv_iload hE.1 hE.2.1 dX9_laysUntrue_265 (lv_at hl 0 rfl) ?_
                                    refine lv_dup2_11 hE.1 hE.2.1 dX9_laysUntrue_267 rfl rfl ?_
                                    refine x_iald (j := iI (z22)) hE hK hP 20 (by decide) (yG_10 rfl) (iI_in (n := 512) (by omega)) dX9_laysUntrue_268 ?_
                                    obtain ⟨z27, hz27, ez27⟩ := iI_of (arl10 20 (iI (z22)).toNatClampNeg)
                                    refine x_top ez27 ?_
                                    refine lv_iload hE.1 hE.2.1 dX9_laysUntrue_269 (lv_at hl 1 rfl) ?_
                                    refine lv_aload_n hE.1 hE.2.1 dX9_laysUntrue_271 rfl (lv_at hl 5 rfl) ?_
                                    refine x_get (x := .ref (ad 19)) hE hK hP 0 (by decide) (yG_9 rfl) rfl hin9 47 (by decide) mw_1381 rfl dX9_laysUntrue_272 ?_
                                    refine lv_iload hE.1 hE.2.1 dX9_laysUntrue_275 (lv_at hl 0 rfl) ?_
                                    refine x_iald (j := iI (z22)) hE hK hP 19 (by decide) (yG_10 rfl) (iI_in (n := 512) (by omega)) dX9_laysUntrue_277 ?_
                                    refine x_top ez24 ?_
                                    refine s_icmp_ne (a := y17_7) (b := z24) (tgt := 291) hE.1 hE.2.1 (by omega) (by omega) dX9_laysUntrue_278 (by decide) (fun c29 => ?_) (fun c29 => ?_)
                                    · skip
                                      refine lv_iconst (v := iI (0)) hE.1 hE.2.1 dX9_laysUntrue_291 (by decide) ?_
                                      refine lv_iadd hE.1 hE.2.1 dX9_laysUntrue_292 ?_
                                      refine x_top (y := iI (z27)) ((iI_add (z27) (0)).trans (congrArg iI (by omega))) ?_
                                      refine x_iast (j := iI (z22)) hE hK hN hP hS 20 (by decide) (fun _ => yG_10 rfl) (iI_in (n := 512) (by omega)) dX9_laysUntrue_293 (fun ar30 H locs ha30 hP hS => ?_)
                                      have hI := YI_ast hI ha30 (by decide)
                                      refine lv_iinc (v := iI (y10_6 + 1)) (lv' := [(6, .int (iI (y10_6 + 1))), (8, .int (iI (z22))), (7, .int (iI (y17_7))), (5, .int (iI (y8_5))), (4, .int (iI (z3))), (0, .ref (ad 0)), (1, .int (iI (z_1))), (2, .int (iI (2))), (3, .int (iI (0)))]) hE.1 hE.2.1 dX9_laysUntrue_294 hl (k := 2) rfl ((iI_add (y10_6) (1)).trans (congrArg iI (by omega))) (by decide) rfl (fun ls hl => ?_)
                                      refine lv_goto (tgt := 91) hE.1 hE.2.1 dX9_laysUntrue_297 (by decide) ?_
                                      exact ih10 _ (by omega) (y10_6 + 1)  vl17 ar30 all17 _ _ _ rfl (by omega)  hI (fun i j h => ((hfr17 i j (fun q => h (mem_sub (by decide) q))).trans (hfr10 i j h))) (fun i h => ((upx_ne ha30 i (fun q => h (by rw [q]; decide))).trans (hfa10 i h))) (fun i h => ((hfl17 i (fun q => h (mem_subn (by decide) q))).trans (hfl10 i h))) hP hS (lv_sub hl [0, 3, 4, 5, 6, 7, 8] rfl)
                                    · skip
                                      refine lv_aload_n hE.1 hE.2.1 dX9_laysUntrue_281 rfl (lv_at hl 5 rfl) ?_
                                      refine x_get (x := .ref (ad 20)) hE hK hP 0 (by decide) (yG_9 rfl) rfl hin9 48 (by decide) mw_1382 rfl dX9_laysUntrue_282 ?_
                                      refine lv_iload hE.1 hE.2.1 dX9_laysUntrue_285 (lv_at hl 3 rfl) ?_
                                      refine x_iald (j := iI (y8_5)) hE hK hP 20 (by decide) (yG_10 rfl) (iI_in (n := 512) (by omega)) dX9_laysUntrue_287 ?_
                                      obtain ⟨z32, hz32, ez32⟩ := iI_of (arl10 20 (iI (y8_5)).toNatClampNeg)
                                      refine x_top ez32 ?_
                                      refine lv_goto (tgt := 292) hE.1 hE.2.1 dX9_laysUntrue_288 (by decide) ?_
                                      refine lv_iadd hE.1 hE.2.1 dX9_laysUntrue_292 ?_
                                      obtain ⟨z33, hz33, ez33⟩ := iI_of (iI (z27) + iI (z32))
                                      refine x_top ez33 ?_
                                      refine x_iast (j := iI (z22)) hE hK hN hP hS 20 (by decide) (fun _ => yG_10 rfl) (iI_in (n := 512) (by omega)) dX9_laysUntrue_293 (fun ar34 H locs ha34 hP hS => ?_)
                                      have hI := YI_ast hI ha34 (by decide)
                                      refine lv_iinc (v := iI (y10_6 + 1)) (lv' := [(6, .int (iI (y10_6 + 1))), (8, .int (iI (z22))), (7, .int (iI (y17_7))), (5, .int (iI (y8_5))), (4, .int (iI (z3))), (0, .ref (ad 0)), (1, .int (iI (z_1))), (2, .int (iI (2))), (3, .int (iI (0)))]) hE.1 hE.2.1 dX9_laysUntrue_294 hl (k := 2) rfl ((iI_add (y10_6) (1)).trans (congrArg iI (by omega))) (by decide) rfl (fun ls hl => ?_)
                                      refine lv_goto (tgt := 91) hE.1 hE.2.1 dX9_laysUntrue_297 (by decide) ?_
                                      exact ih10 _ (by omega) (y10_6 + 1)  vl17 ar34 all17 _ _ _ rfl (by omega)  hI (fun i j h => ((hfr17 i j (fun q => h (mem_sub (by decide) q))).trans (hfr10 i j h))) (fun i h => ((upx_ne ha34 i (fun q => h (by rw [q]; decide))).trans (hfa10 i h))) (fun i h => ((hfl17 i (fun q => h (mem_subn (by decide) q))).trans (hfl10 i h))) hP hS (lv_sub hl [0, 3, 4, 5, 6, 7, 8] rfl)
                                  · skip
                                    refine lv_aload_n hE.1 hE.2.1 dX9_laysUntrue_244 rfl (lv_at hl 5 rfl) ?_
                                    refine x_get (x := .ref (ad 19)) hE hK hP 0 (by decide) (yG_9 rfl) rfl hin9 47 (by decide) mw_1381 rfl dX9_laysUntrue_245 ?_
                                    refine lv_iload hE.1 hE.2.1 dX9_laysUntrue_248 (lv_at hl 0 rfl) ?_
                                    refine lv_iload hE.1 hE.2.1 dX9_laysUntrue_250 (lv_at hl 1 rfl) ?_
                                    refine x_iast (j := iI (z22)) hE hK hN hP hS 19 (by decide) (fun _ => yG_10 rfl) (iI_in (n := 512) (by omega)) dX9_laysUntrue_252 (fun ar35 H locs ha35 hP hS => ?_)
                                    have hI := YI_ast hI ha35 (by decide)
                                    refine lv_aload_n hE.1 hE.2.1 dX9_laysUntrue_253 rfl (lv_at hl 5 rfl) ?_
                                    refine x_get (x := .ref (ad 20)) hE hK hP 0 (by decide) (yG_9 rfl) rfl hin9 48 (by decide) mw_1382 rfl dX9_laysUntrue_254 ?_
                                    refine lv_iload hE.1 hE.2.1 dX9_laysUntrue_257 (lv_at hl 0 rfl) ?_
                                    refine lv_iconst (v := iI (0)) hE.1 hE.2.1 dX9_laysUntrue_259 (by decide) ?_
                                    refine x_iast (j := iI (z22)) hE hK hN hP hS 20 (by decide) (fun _ => yG_10 rfl) (iI_in (n := 512) (by omega)) dX9_laysUntrue_260 (fun ar36 H locs ha36 hP hS => ?_)
                                    have hI := YI_ast hI ha36 (by decide)
                                    refine lv_aload_n hE.1 hE.2.1 dX9_laysUntrue_261 rfl (lv_at hl 5 rfl) ?_
                                    refine x_get (x := .ref (ad 20)) hE hK hP 0 (by decide) (yG_9 rfl) rfl hin9 48 (by decide) mw_1382 rfl dX9_laysUntrue_262 ?_
                                    refine lv_iload hE.1 hE.2.1 dX9_laysUntrue_265 (lv_at hl 0 rfl) ?_
                                    refine lv_dup2_11 hE.1 hE.2.1 dX9_laysUntrue_267 rfl rfl ?_
                                    refine x_iald (j := iI (z22)) hE hK hP 20 (by decide) (yG_10 rfl) (iI_in (n := 512) (by omega)) dX9_laysUntrue_268 ?_
                                    obtain ⟨z38, hz38, ez38⟩ := iI_of (ar36 20 (iI (z22)).toNatClampNeg)
                                    refine x_top ez38 ?_
                                    refine lv_iload hE.1 hE.2.1 dX9_laysUntrue_269 (lv_at hl 1 rfl) ?_
                                    refine lv_aload_n hE.1 hE.2.1 dX9_laysUntrue_271 rfl (lv_at hl 5 rfl) ?_
                                    refine x_get (x := .ref (ad 19)) hE hK hP 0 (by decide) (yG_9 rfl) rfl hin9 47 (by decide) mw_1381 rfl dX9_laysUntrue_272 ?_
                                    refine lv_iload hE.1 hE.2.1 dX9_laysUntrue_275 (lv_at hl 0 rfl) ?_
                                    refine x_iald (j := iI (z22)) hE hK hP 19 (by decide) (yG_10 rfl) (iI_in (n := 512) (by omega)) dX9_laysUntrue_277 ?_
                                    obtain ⟨z40, hz40, ez40⟩ := iI_of (ar36 19 (iI (z22)).toNatClampNeg)
                                    refine x_top ez40 ?_
                                    refine s_icmp_ne (a := y17_7) (b := z40) (tgt := 291) hE.1 hE.2.1 (by omega) (by omega) dX9_laysUntrue_278 (by decide) (fun c41 => ?_) (fun c41 => ?_)
                                    · skip
                                      refine lv_iconst (v := iI (0)) hE.1 hE.2.1 dX9_laysUntrue_291 (by decide) ?_
                                      refine lv_iadd hE.1 hE.2.1 dX9_laysUntrue_292 ?_
                                      refine x_top (y := iI (z38)) ((iI_add (z38) (0)).trans (congrArg iI (by omega))) ?_
                                      refine x_iast (j := iI (z22)) hE hK hN hP hS 20 (by decide) (fun _ => yG_10 rfl) (iI_in (n := 512) (by omega)) dX9_laysUntrue_293 (fun ar42 H locs ha42 hP hS => ?_)
                                      have hI := YI_ast hI ha42 (by decide)
                                      refine lv_iinc (v := iI (y10_6 + 1)) (lv' := [(6, .int (iI (y10_6 + 1))), (8, .int (iI (z22))), (7, .int (iI (y17_7))), (5, .int (iI (y8_5))), (4, .int (iI (z3))), (0, .ref (ad 0)), (1, .int (iI (z_1))), (2, .int (iI (2))), (3, .int (iI (0)))]) hE.1 hE.2.1 dX9_laysUntrue_294 hl (k := 2) rfl ((iI_add (y10_6) (1)).trans (congrArg iI (by omega))) (by decide) rfl (fun ls hl => ?_)
                                      refine lv_goto (tgt := 91) hE.1 hE.2.1 dX9_laysUntrue_297 (by decide) ?_
                                      exact ih10 _ (by omega) (y10_6 + 1)  vl17 ar42 all17 _ _ _ rfl (by omega)  hI (fun i j h => ((hfr17 i j (fun q => h (mem_sub (by decide) q))).trans (hfr10 i j h))) (fun i h => (((upx_ne ha42 i (fun q => h (by rw [q]; decide))).trans ((upx_ne ha36 i (fun q => h (by rw [q]; decide))).trans (upx_ne ha35 i (fun q => h (by rw [q]; decide))))).trans (hfa10 i h))) (fun i h => ((hfl17 i (fun q => h (mem_subn (by decide) q))).trans (hfl10 i h))) hP hS (lv_sub hl [0, 3, 4, 5, 6, 7, 8] rfl)
                                    · skip
                                      refine lv_aload_n hE.1 hE.2.1 dX9_laysUntrue_281 rfl (lv_at hl 5 rfl) ?_
                                      refine x_get (x := .ref (ad 20)) hE hK hP 0 (by decide) (yG_9 rfl) rfl hin9 48 (by decide) mw_1382 rfl dX9_laysUntrue_282 ?_
                                      refine lv_iload hE.1 hE.2.1 dX9_laysUntrue_285 (lv_at hl 3 rfl) ?_
                                      refine x_iald (j := iI (y8_5)) hE hK hP 20 (by decide) (yG_10 rfl) (iI_in (n := 512) (by omega)) dX9_laysUntrue_287 ?_
                                      obtain ⟨z44, hz44, ez44⟩ := iI_of (ar36 20 (iI (y8_5)).toNatClampNeg)
                                      refine x_top ez44 ?_
                                      refine lv_goto (tgt := 292) hE.1 hE.2.1 dX9_laysUntrue_288 (by decide) ?_
                                      refine lv_iadd hE.1 hE.2.1 dX9_laysUntrue_292 ?_
                                      obtain ⟨z45, hz45, ez45⟩ := iI_of (iI (z38) + iI (z44))
                                      refine x_top ez45 ?_
                                      refine x_iast (j := iI (z22)) hE hK hN hP hS 20 (by decide) (fun _ => yG_10 rfl) (iI_in (n := 512) (by omega)) dX9_laysUntrue_293 (fun ar46 H locs ha46 hP hS => ?_)
                                      have hI := YI_ast hI ha46 (by decide)
                                      refine lv_iinc (v := iI (y10_6 + 1)) (lv' := [(6, .int (iI (y10_6 + 1))), (8, .int (iI (z22))), (7, .int (iI (y17_7))), (5, .int (iI (y8_5))), (4, .int (iI (z3))), (0, .ref (ad 0)), (1, .int (iI (z_1))), (2, .int (iI (2))), (3, .int (iI (0)))]) hE.1 hE.2.1 dX9_laysUntrue_294 hl (k := 2) rfl ((iI_add (y10_6) (1)).trans (congrArg iI (by omega))) (by decide) rfl (fun ls hl => ?_)
                                      refine lv_goto (tgt := 91) hE.1 hE.2.1 dX9_laysUntrue_297 (by decide) ?_
                                      exact ih10 _ (by omega) (y10_6 + 1)  vl17 ar46 all17 _ _ _ rfl (by omega)  hI (fun i j h => ((hfr17 i j (fun q => h (mem_sub (by decide) q))).trans (hfr10 i j h))) (fun i h => (((upx_ne ha46 i (fun q => h (by rw [q]; decide))).trans ((upx_ne ha36 i (fun q => h (by rw [q]; decide))).trans (upx_ne ha35 i (fun q => h (by rw [q]; decide))))).trans (hfa10 i h))) (fun i h => ((hfl17 i (fun q => h (mem_subn (by decide) q))).trans (hfl10 i h))) hP hS (lv_sub hl [0, 3, 4, 5, 6, 7, 8] rfl)
                                · skip
                                  refine lv_iload_n hE.1 hE.2.1 dX9_laysUntrue_138 rfl (lv_at hl 7 rfl) ?_
                                  refine lv_iconst (v := iI (2)) hE.1 hE.2.1 dX9_laysUntrue_139 (by decide) ?_
                                  refine s_icmp_eq (a := 2) (b := 2) (tgt := 157) hE.1 hE.2.1 (by omega) (by omega) dX9_laysUntrue_140 (by decide) (fun _ => ?_) (fun c47 => False.elim (by omega))
                                  refine lv_iconst (v := iI (1)) hE.1 hE.2.1 dX9_laysUntrue_157 (by decide) ?_
                                  refine lv_goto (tgt := 162) hE.1 hE.2.1 dX9_laysUntrue_158 (by decide) ?_
                                  refine lv_istore (lv' := [(9, .int (iI (1))), (8, .int (iI (y17_8))), (7, .int (iI (y17_7))), (6, .int (iI (y10_6))), (5, .int (iI (y8_5))), (4, .int (iI (z3))), (0, .ref (ad 0)), (1, .int (iI (z_1))), (2, .int (iI (2))), (3, .int (iI (0)))]) hE.1 hE.2.1 dX9_laysUntrue_162 hl (by decide) rfl (fun ls hl => ?_)
                                  refine lv_iload hE.1 hE.2.1 dX9_laysUntrue_164 (lv_at hl 2 rfl) ?_
                                  refine lv_iload hE.1 hE.2.1 dX9_laysUntrue_166 (lv_at hl 0 rfl) ?_
                                  refine s_if_eq (a := 1) (tgt := 210) hE.1 hE.2.1 (by omega) dX9_laysUntrue_168 (by decide) (fun c48 => False.elim (by omega)) (fun _ => ?_)
                                  refine lv_aload_n hE.1 hE.2.1 dX9_laysUntrue_171 rfl (lv_at hl 6 rfl) ?_
                                  refine lv_iload_n hE.1 hE.2.1 dX9_laysUntrue_172 rfl (lv_at hl 7 rfl) ?_
                                  refine lv_iload hE.1 hE.2.1 dX9_laysUntrue_173 (lv_at hl 1 rfl) ?_
                                  refine lv_iload_n hE.1 hE.2.1 dX9_laysUntrue_175 rfl (lv_at hl 8 rfl) ?_
                                  refine lv_iadd hE.1 hE.2.1 dX9_laysUntrue_176 ?_
                                  refine x_top (y := iI (y17_8 + 2)) ((iI_add (y17_8) (2)).trans (congrArg iI (by omega))) ?_
                                  refine lv_iconst (v := iI (2)) hE.1 hE.2.1 dX9_laysUntrue_177 (by decide) ?_
                                  refine lv_isub hE.1 hE.2.1 dX9_laysUntrue_178 ?_
                                  refine x_top (y := iI (y17_8)) ((iI_sub (y17_8 + 2) (2)).trans (congrArg iI (by omega))) ?_
                                  refine x_vp (nn := 2) (As := [.int (iI (z_1)), .int (iI (y17_8))]) (rest := [.int (iI (y17_7))]) hE (s_X9_cellOf l D K ad vl17 arl10 all17 hI  (z_1) (by omega) (y17_8) (by omega)) wPre_blind (wPre_now hK hN hP) (x_recv hK hP 0 (by decide) (yG_9 rfl) rfl) rfl mw_1814 mw_1816 mw_89 mw_123 mw_1817 (by decide +kernel) ⟨by decide, by decide⟩ hl.1 rfl (Nat.le_of_ble_eq_true rfl) ⟨Nat.zero_le _, Nat.zero_le _⟩ dX9_laysUntrue_179 (fun r49 hr49 => ?_)
                                  obtain ⟨z49, hz49, rfl⟩ := hr49
                                  refine lv_iload hE.1 hE.2.1 dX9_laysUntrue_182 (lv_at hl 3 rfl) ?_
                                  refine s_icmp_ne (a := z49) (b := y10_6) (tgt := 210) hE.1 hE.2.1 (by omega) (by omega) dX9_laysUntrue_184 (by decide) (fun c50 => ?_) (fun c50 => ?_)
                                  · skip
                                    refine lv_iconst (v := iI (0)) hE.1 hE.2.1 dX9_laysUntrue_210 (by decide) ?_
                                    refine lv_iadd hE.1 hE.2.1 dX9_laysUntrue_211 ?_
                                    refine x_top (y := iI (y17_7)) ((iI_add (y17_7) (0)).trans (congrArg iI (by omega))) ?_
                                    refine lv_istore (lv' := [(7, .int (iI (y17_7))), (9, .int (iI (1))), (8, .int (iI (y17_8))), (6, .int (iI (y10_6))), (5, .int (iI (y8_5))), (4, .int (iI (z3))), (0, .ref (ad 0)), (1, .int (iI (z_1))), (2, .int (iI (2))), (3, .int (iI (0)))]) hE.1 hE.2.1 dX9_laysUntrue_212 hl (by decide) rfl (fun ls hl => ?_)
                                    refine lv_iload hE.1 hE.2.1 dX9_laysUntrue_214 (lv_at hl 2 rfl) ?_
                                    refine lv_iload_n hE.1 hE.2.1 dX9_laysUntrue_216 rfl (lv_at hl 8 rfl) ?_
                                    refine lv_iadd hE.1 hE.2.1 dX9_laysUntrue_217 ?_
                                    refine x_top (y := iI (y17_8 + 2)) ((iI_add (y17_8) (2)).trans (congrArg iI (by omega))) ?_
                                    refine lv_istore (lv' := [(8, .int (iI (y17_8 + 2))), (7, .int (iI (y17_7))), (9, .int (iI (1))), (6, .int (iI (y10_6))), (5, .int (iI (y8_5))), (4, .int (iI (z3))), (0, .ref (ad 0)), (1, .int (iI (z_1))), (2, .int (iI (2))), (3, .int (iI (0)))]) hE.1 hE.2.1 dX9_laysUntrue_218 hl (by decide) rfl (fun ls hl => ?_)
                                    refine lv_goto (tgt := 127) hE.1 hE.2.1 dX9_laysUntrue_220 (by decide) ?_
                                    exact ih17 _ (by omega) (y17_8 + 2) (y17_7)  vl17  all17 _ _ _ rfl (by omega) (by omega)  hI (fun i j h => (hfr17 i j h)) (fun i h => (hfl17 i h)) hP hS (lv_sub hl [0, 1, 3, 4, 5, 6, 7, 8, 9] rfl)
                                  · skip
                                    refine lv_iload hE.1 hE.2.1 dX9_laysUntrue_187 (lv_at hl 4 rfl) ?_
                                    refine lv_aload_n hE.1 hE.2.1 dX9_laysUntrue_189 rfl (lv_at hl 6 rfl) ?_
                                    refine lv_iload_n hE.1 hE.2.1 dX9_laysUntrue_190 rfl (lv_at hl 7 rfl) ?_
                                    refine lv_iload hE.1 hE.2.1 dX9_laysUntrue_191 (lv_at hl 1 rfl) ?_
                                    refine lv_iload_n hE.1 hE.2.1 dX9_laysUntrue_193 rfl (lv_at hl 8 rfl) ?_
                                    refine lv_iadd hE.1 hE.2.1 dX9_laysUntrue_194 ?_
                                    refine x_top (y := iI (y17_8 + 2)) ((iI_add (y17_8) (2)).trans (congrArg iI (by omega))) ?_
                                    refine lv_iconst (v := iI (1)) hE.1 hE.2.1 dX9_laysUntrue_195 (by decide) ?_
                                    refine lv_isub hE.1 hE.2.1 dX9_laysUntrue_196 ?_
                                    refine x_top (y := iI (y17_8 + 1)) ((iI_sub (y17_8 + 2) (1)).trans (congrArg iI (by omega))) ?_
                                    refine x_vp (nn := 2) (As := [.int (iI (z_1)), .int (iI (y17_8 + 1))]) (rest := [.int (iI (y8_5)), .int (iI (y17_7))]) hE (s_X9_cellOf l D K ad vl17 arl10 all17 hI  (z_1) (by omega) (y17_8 + 1) (by omega)) wPre_blind (wPre_now hK hN hP) (x_recv hK hP 0 (by decide) (yG_9 rfl) rfl) rfl mw_1814 mw_1816 mw_89 mw_123 mw_1817 (by decide +kernel) ⟨by decide, by decide⟩ hl.1 rfl (Nat.le_of_ble_eq_true rfl) ⟨Nat.zero_le _, Nat.zero_le _⟩ dX9_laysUntrue_197 (fun r51 hr51 => ?_)
                                    obtain ⟨z51, hz51, rfl⟩ := hr51
                                    refine x_sp (nn := 2) (As := [.int (iI (y8_5)), .int (iI (z51))]) (rest := [.int (iI (y17_7))]) hE (s_X9_isBit l (y8_5) (by omega) (z51) (by omega)) tt_blind (fun _ _ _ => trivial) rfl mw_1683 mw_1684 mw_123 mw_1685 (by decide +kernel) ⟨by decide, by decide⟩ hl.1 rfl (Nat.le_of_ble_eq_true rfl) ⟨Nat.zero_le _, Nat.zero_le _⟩ dX9_laysUntrue_200 (fun r52 hr52 => ?_)
                                    obtain ⟨z52, hz52, rfl⟩ := hr52
                                    refine s_if_eq (a := z52) (tgt := 210) hE.1 hE.2.1 (by omega) dX9_laysUntrue_203 (by decide) (fun c53 => ?_) (fun c53 => ?_)
                                    · skip
                                      refine lv_iconst (v := iI (0)) hE.1 hE.2.1 dX9_laysUntrue_210 (by decide) ?_
                                      refine lv_iadd hE.1 hE.2.1 dX9_laysUntrue_211 ?_
                                      refine x_top (y := iI (y17_7)) ((iI_add (y17_7) (0)).trans (congrArg iI (by omega))) ?_
                                      refine lv_istore (lv' := [(7, .int (iI (y17_7))), (9, .int (iI (1))), (8, .int (iI (y17_8))), (6, .int (iI (y10_6))), (5, .int (iI (y8_5))), (4, .int (iI (z3))), (0, .ref (ad 0)), (1, .int (iI (z_1))), (2, .int (iI (2))), (3, .int (iI (0)))]) hE.1 hE.2.1 dX9_laysUntrue_212 hl (by decide) rfl (fun ls hl => ?_)
                                      refine lv_iload hE.1 hE.2.1 dX9_laysUntrue_214 (lv_at hl 2 rfl) ?_
                                      refine lv_iload_n hE.1 hE.2.1 dX9_laysUntrue_216 rfl (lv_at hl 8 rfl) ?_
                                      refine lv_iadd hE.1 hE.2.1 dX9_laysUntrue_217 ?_
                                      refine x_top (y := iI (y17_8 + 2)) ((iI_add (y17_8) (2)).trans (congrArg iI (by omega))) ?_
                                      refine lv_istore (lv' := [(8, .int (iI (y17_8 + 2))), (7, .int (iI (y17_7))), (9, .int (iI (1))), (6, .int (iI (y10_6))), (5, .int (iI (y8_5))), (4, .int (iI (z3))), (0, .ref (ad 0)), (1, .int (iI (z_1))), (2, .int (iI (2))), (3, .int (iI (0)))]) hE.1 hE.2.1 dX9_laysUntrue_218 hl (by decide) rfl (fun ls hl => ?_)
                                      refine lv_goto (tgt := 127) hE.1 hE.2.1 dX9_laysUntrue_220 (by decide) ?_
                                      exact ih17 _ (by omega) (y17_8 + 2) (y17_7)  vl17  all17 _ _ _ rfl (by omega) (by omega)  hI (fun i j h => (hfr17 i j h)) (fun i h => (hfl17 i h)) hP hS (lv_sub hl [0, 1, 3, 4, 5, 6, 7, 8, 9] rfl)
                                    · skip
                                      refine lv_iconst (v := iI (1)) hE.1 hE.2.1 dX9_laysUntrue_206 (by decide) ?_
                                      refine lv_goto (tgt := 211) hE.1 hE.2.1 dX9_laysUntrue_207 (by decide) ?_
                                      refine lv_iadd hE.1 hE.2.1 dX9_laysUntrue_211 ?_
                                      obtain ⟨z54, hz54, ez54⟩ := iI_of (iI (y17_7) + iI (1))
                                      refine x_top ez54 ?_
                                      refine lv_istore (lv' := [(7, .int (iI (z54))), (9, .int (iI (1))), (8, .int (iI (y17_8))), (6, .int (iI (y10_6))), (5, .int (iI (y8_5))), (4, .int (iI (z3))), (0, .ref (ad 0)), (1, .int (iI (z_1))), (2, .int (iI (2))), (3, .int (iI (0)))]) hE.1 hE.2.1 dX9_laysUntrue_212 hl (by decide) rfl (fun ls hl => ?_)
                                      refine lv_iload hE.1 hE.2.1 dX9_laysUntrue_214 (lv_at hl 2 rfl) ?_
                                      refine lv_iload_n hE.1 hE.2.1 dX9_laysUntrue_216 rfl (lv_at hl 8 rfl) ?_
                                      refine lv_iadd hE.1 hE.2.1 dX9_laysUntrue_217 ?_
                                      refine x_top (y := iI (y17_8 + 2)) ((iI_add (y17_8) (2)).trans (congrArg iI (by omega))) ?_
                                      refine lv_istore (lv' := [(8, .int (iI (y17_8 + 2))), (7, .int (iI (z54))), (9, .int (iI (1))), (6, .int (iI (y10_6))), (5, .int (iI (y8_5))), (4, .int (iI (z3))), (0, .ref (ad 0)), (1, .int (iI (z_1))), (2, .int (iI (2))), (3, .int (iI (0)))]) hE.1 hE.2.1 dX9_laysUntrue_218 hl (by decide) rfl (fun ls hl => ?_)
                                      refine lv_goto (tgt := 127) hE.1 hE.2.1 dX9_laysUntrue_220 (by decide) ?_
                                      exact ih17 _ (by omega) (y17_8 + 2) (z54)  vl17  all17 _ _ _ rfl (by omega) (by omega)  hI (fun i j h => (hfr17 i j h)) (fun i h => (hfl17 i h)) hP hS (lv_sub hl [0, 1, 3, 4, 5, 6, 7, 8, 9] rfl)
                            exact loop17 _ (0) (z16)  vl10  all10 _ _ _ rfl (by omega) (by omega)  hI (fun _ _ _ => rfl) (fun _ _ => rfl) hP hS hl
                          · skip
                            refine lv_goto (tgt := 294) hE.1 hE.2.1 dX9_laysUntrue_112 (by decide) ?_
                            refine lv_iinc (v := iI (y10_6 + 1)) (lv' := [(6, .int (iI (y10_6 + 1))), (5, .int (iI (y8_5))), (4, .int (iI (z3))), (0, .ref (ad 0)), (1, .int (iI (z_1))), (2, .int (iI (2))), (3, .int (iI (0)))]) hE.1 hE.2.1 dX9_laysUntrue_294 hl (k := 0) rfl ((iI_add (y10_6) (1)).trans (congrArg iI (by omega))) (by decide) rfl (fun ls hl => ?_)
                            refine lv_goto (tgt := 91) hE.1 hE.2.1 dX9_laysUntrue_297 (by decide) ?_
                            exact ih10 _ (by omega) (y10_6 + 1)  vl10 arl10 all10 _ _ _ rfl (by omega)  hI (fun i j h => (hfr10 i j h)) (fun i h => (hfa10 i h)) (fun i h => (hfl10 i h)) hP hS (lv_sub hl [0, 1, 2, 3, 4, 5, 6] rfl)
                    exact loop10 _ (0)  vl8 arl8 all8 _ _ _ rfl (by omega)  hI (fun _ _ _ => rfl) (fun _ _ => rfl) (fun _ _ => rfl) hP hS hl
              exact loop8 _ (0)  vl6 arl6 all6 _ _ _ rfl (by omega)  hI (fun _ _ _ => rfl) (fun _ _ => rfl) (fun _ _ => rfl) hP hS hl
            · skip
              refine lv_aload_n hE.1 hE.2.1 dX9_laysUntrue_55 rfl (lv_at hl 2 rfl) ?_
              refine x_get (x := .ref (ad 20)) hE hK hP 0 (by decide) (yG_9 rfl) rfl hin9 48 (by decide) mw_1382 rfl dX9_laysUntrue_56 ?_
              refine lv_iload hE.1 hE.2.1 dX9_laysUntrue_59 (lv_at hl 0 rfl) ?_
              refine lv_iload hE.1 hE.2.1 dX9_laysUntrue_61 (lv_at hl 0 rfl) ?_
              refine s_if_ne (a := y6_5) (tgt := 70) hE.1 hE.2.1 (by omega) dX9_laysUntrue_63 (by decide) (fun c55 => ?_) (fun c55 => ?_)
              · skip
                refine lv_iconst (v := iI (0)) hE.1 hE.2.1 dX9_laysUntrue_70 (by decide) ?_
                refine x_iast (j := iI (y6_5)) hE hK hN hP hS 20 (by decide) (fun _ => yG_10 rfl) (iI_in (n := 512) (by omega)) dX9_laysUntrue_71 (fun ar56 H locs ha56 hP hS => ?_)
                have hI := YI_ast hI ha56 (by decide)
                refine lv_iinc (v := iI (y6_5 + 1)) (lv' := [(5, .int (iI (y6_5 + 1))), (4, .int (iI (z3))), (0, .ref (ad 0)), (1, .int (iI (z_1))), (2, .int (iI (2))), (3, .int (iI (0)))]) hE.1 hE.2.1 dX9_laysUntrue_72 hl (k := 0) rfl ((iI_add (y6_5) (1)).trans (congrArg iI (by omega))) (by decide) rfl (fun ls hl => ?_)
                refine lv_goto (tgt := 48) hE.1 hE.2.1 dX9_laysUntrue_75 (by decide) ?_
                exact ih6 _ (by omega) (y6_5 + 1)  vl6 ar56 all6 _ _ _ rfl (by omega)  hI (fun i j h => (hfr6 i j h)) (fun i h => ((upx_ne ha56 i (fun q => h (by rw [q]; decide))).trans (hfa6 i h))) (fun i h => (hfl6 i h)) hP hS (lv_sub hl [0, 1, 2, 3, 4, 5] rfl)
              · skip
                refine lv_iconst (v := iI (1)) hE.1 hE.2.1 dX9_laysUntrue_66 (by decide) ?_
                refine lv_goto (tgt := 71) hE.1 hE.2.1 dX9_laysUntrue_67 (by decide) ?_
                refine x_iast (j := iI (y6_5)) hE hK hN hP hS 20 (by decide) (fun _ => yG_10 rfl) (iI_in (n := 512) (by omega)) dX9_laysUntrue_71 (fun ar57 H locs ha57 hP hS => ?_)
                have hI := YI_ast hI ha57 (by decide)
                refine lv_iinc (v := iI (y6_5 + 1)) (lv' := [(5, .int (iI (y6_5 + 1))), (4, .int (iI (z3))), (0, .ref (ad 0)), (1, .int (iI (z_1))), (2, .int (iI (2))), (3, .int (iI (0)))]) hE.1 hE.2.1 dX9_laysUntrue_72 hl (k := 0) rfl ((iI_add (y6_5) (1)).trans (congrArg iI (by omega))) (by decide) rfl (fun ls hl => ?_)
                refine lv_goto (tgt := 48) hE.1 hE.2.1 dX9_laysUntrue_75 (by decide) ?_
                exact ih6 _ (by omega) (y6_5 + 1)  vl6 ar57 all6 _ _ _ rfl (by omega)  hI (fun i j h => (hfr6 i j h)) (fun i h => ((upx_ne ha57 i (fun q => h (by rw [q]; decide))).trans (hfa6 i h))) (fun i h => (hfl6 i h)) hP hS (lv_sub hl [0, 1, 2, 3, 4, 5] rfl)
        exact loop6 _ (0)  vl4 arl4 all4 _ _ _ rfl (by omega)  hI (fun _ _ _ => rfl) (fun _ _ => rfl) (fun _ _ => rfl) hP hS hl
      · skip
        refine lv_aload_n hE.1 hE.2.1 dX9_laysUntrue_20 rfl (lv_at hl 2 rfl) ?_
        refine x_get (x := .ref (ad 19)) hE hK hP 0 (by decide) (yG_9 rfl) rfl hin9 47 (by decide) mw_1381 rfl dX9_laysUntrue_21 ?_
        refine lv_iload hE.1 hE.2.1 dX9_laysUntrue_24 (lv_at hl 0 rfl) ?_
        refine lv_iload hE.1 hE.2.1 dX9_laysUntrue_26 (lv_at hl 0 rfl) ?_
        refine s_if_ne (a := y4_5) (tgt := 35) hE.1 hE.2.1 (by omega) dX9_laysUntrue_28 (by decide) (fun c58 => ?_) (fun c58 => ?_)
        · skip
          refine lv_sipush (v := iI (1000)) hE.1 hE.2.1 dX9_laysUntrue_35 (by decide) ?_
          refine x_iast (j := iI (y4_5)) hE hK hN hP hS 19 (by decide) (fun _ => yG_10 rfl) (iI_in (n := 512) (by omega)) dX9_laysUntrue_38 (fun ar59 H locs ha59 hP hS => ?_)
          have hI := YI_ast hI ha59 (by decide)
          refine lv_iinc (v := iI (y4_5 + 1)) (lv' := [(5, .int (iI (y4_5 + 1))), (4, .int (iI (z3))), (0, .ref (ad 0)), (1, .int (iI (z_1))), (2, .int (iI (2))), (3, .int (iI (0)))]) hE.1 hE.2.1 dX9_laysUntrue_39 hl (k := 0) rfl ((iI_add (y4_5) (1)).trans (congrArg iI (by omega))) (by decide) rfl (fun ls hl => ?_)
          refine lv_goto (tgt := 13) hE.1 hE.2.1 dX9_laysUntrue_42 (by decide) ?_
          exact ih4 _ (by omega) (y4_5 + 1)  vl4 ar59 all4 _ _ _ rfl (by omega)  hI (fun i j h => (hfr4 i j h)) (fun i h => ((upx_ne ha59 i (fun q => h (by rw [q]; decide))).trans (hfa4 i h))) (fun i h => (hfl4 i h)) hP hS (lv_sub hl [0, 1, 2, 3, 4, 5] rfl)
        · skip
          refine lv_iconst (v := iI (0)) hE.1 hE.2.1 dX9_laysUntrue_31 (by decide) ?_
          refine lv_goto (tgt := 38) hE.1 hE.2.1 dX9_laysUntrue_32 (by decide) ?_
          refine x_iast (j := iI (y4_5)) hE hK hN hP hS 19 (by decide) (fun _ => yG_10 rfl) (iI_in (n := 512) (by omega)) dX9_laysUntrue_38 (fun ar60 H locs ha60 hP hS => ?_)
          have hI := YI_ast hI ha60 (by decide)
          refine lv_iinc (v := iI (y4_5 + 1)) (lv' := [(5, .int (iI (y4_5 + 1))), (4, .int (iI (z3))), (0, .ref (ad 0)), (1, .int (iI (z_1))), (2, .int (iI (2))), (3, .int (iI (0)))]) hE.1 hE.2.1 dX9_laysUntrue_39 hl (k := 0) rfl ((iI_add (y4_5) (1)).trans (congrArg iI (by omega))) (by decide) rfl (fun ls hl => ?_)
          refine lv_goto (tgt := 13) hE.1 hE.2.1 dX9_laysUntrue_42 (by decide) ?_
          exact ih4 _ (by omega) (y4_5 + 1)  vl4 ar60 all4 _ _ _ rfl (by omega)  hI (fun i j h => (hfr4 i j h)) (fun i h => ((upx_ne ha60 i (fun q => h (by rw [q]; decide))).trans (hfa4 i h))) (fun i h => (hfl4 i h)) hP hS (lv_sub hl [0, 1, 2, 3, 4, 5] rfl)
  exact loop4 _ (0)  v ar al _ _ _ rfl (by omega)  hI (fun _ _ _ => rfl) (fun _ _ => rfl) (fun _ _ => rfl) hP hS hl

theorem dX9_lies_0 : decode cX9_lies 0 = .ok (.aload_n 0, 1) := by decide +kernel
theorem dX9_lies_1 : decode cX9_lies 1 = .ok (.iconst 0, 1) := by decide +kernel
theorem dX9_lies_2 : decode cX9_lies 2 = .ok (.putfield 81, 3) := by decide +kernel
theorem dX9_lies_5 : decode cX9_lies 5 = .ok (.aload_n 0, 1) := by decide +kernel
theorem dX9_lies_6 : decode cX9_lies 6 = .ok (.iload_n 1, 1) := by decide +kernel
theorem dX9_lies_7 : decode cX9_lies 7 = .ok (.iconst 2, 1) := by decide +kernel
theorem dX9_lies_8 : decode cX9_lies 8 = .ok (.invokevirtual 427, 3) := by decide +kernel
theorem dX9_lies_11 : decode cX9_lies 11 = .ok (.istore_n 2, 1) := by decide +kernel
theorem dX9_lies_12 : decode cX9_lies 12 = .ok (.iload_n 2, 1) := by decide +kernel
theorem dX9_lies_13 : decode cX9_lies 13 = .ok (.ifCond .eq 5, 3) := by decide +kernel
theorem dX9_lies_16 : decode cX9_lies 16 = .ok (.iload_n 2, 1) := by decide +kernel
theorem dX9_lies_17 : decode cX9_lies 17 = .ok (.ireturn, 1) := by decide +kernel
theorem dX9_lies_18 : decode cX9_lies 18 = .ok (.aload_n 0, 1) := by decide +kernel
theorem dX9_lies_19 : decode cX9_lies 19 = .ok (.iload_n 1, 1) := by decide +kernel
theorem dX9_lies_20 : decode cX9_lies 20 = .ok (.iconst 2, 1) := by decide +kernel
theorem dX9_lies_21 : decode cX9_lies 21 = .ok (.iconst 0, 1) := by decide +kernel
theorem dX9_lies_22 : decode cX9_lies 22 = .ok (.invokevirtual 430, 3) := by decide +kernel
theorem dX9_lies_25 : decode cX9_lies 25 = .ok (.aload_n 0, 1) := by decide +kernel
theorem dX9_lies_26 : decode cX9_lies 26 = .ok (.getfield 75, 3) := by decide +kernel
theorem dX9_lies_29 : decode cX9_lies 29 = .ok (.iconst 1, 1) := by decide +kernel
theorem dX9_lies_30 : decode cX9_lies 30 = .ok (.aload_n 0, 1) := by decide +kernel
theorem dX9_lies_31 : decode cX9_lies 31 = .ok (.getfield 34, 3) := by decide +kernel
theorem dX9_lies_34 : decode cX9_lies 34 = .ok (.iconst 2, 1) := by decide +kernel
theorem dX9_lies_35 : decode cX9_lies 35 = .ok (.iaload, 1) := by decide +kernel
theorem dX9_lies_36 : decode cX9_lies 36 = .ok (.ishl, 1) := by decide +kernel
theorem dX9_lies_37 : decode cX9_lies 37 = .ok (.iconst 1, 1) := by decide +kernel
theorem dX9_lies_38 : decode cX9_lies 38 = .ok (.isub, 1) := by decide +kernel
theorem dX9_lies_39 : decode cX9_lies 39 = .ok (.iaload, 1) := by decide +kernel
theorem dX9_lies_40 : decode cX9_lies 40 = .ok (.ireturn, 1) := by decide +kernel
set_option maxHeartbeats 4000000 in
set_option maxRecDepth 100000 in
theorem s_X9_lies (l : Launch) (D : va_G) (K : Nat → ClassId) (ad : Nat → Nat) (v ar : sI) (al : sL) (hI : YI v ar) (z_1 : Int) (hz_1 : -2147483648 ≤ z_1 ∧ z_1 ≤ 2147483647) : Met l yX9_lies (wM yX9_lies cX9_lies 3 (some .int)) (rmD 4) (va_Pc [.ref (ad 0), .int (iI (z_1))] (wPre D K ad (yG ad K) 21 v ar al)) (va_Qi (fun (r : Int32) (u : sT) => (∃ z : Int, (-2147483648 ≤ z ∧ z ≤ 2147483647) ∧ r = iI z) ∧ YI u.1 u.2.1 ∧ (∀ i j : Nat, (i, j) ∉ ([(0, 0)] : List (Nat × Nat)) → u.1 i j = v i j) ∧ (∀ i : Nat, i ∉ ([19, 20] : List Nat) → u.2.1 i = ar i) ∧ (∀ i : Nat, i ∉ ([] : List Nat) → u.2.2 i = al i)) (wB D ad (yG ad K) 21) (inW ad 21)) 0 0 (inW ad 21) := by
  refine s_metI (by decide) (Nat.le_of_ble_eq_true rfl) ?_
  intro p e s m below meth c ls args Q hE hB hl kr
  have hE : CallFix p m c cX9_lies 3 s args tbG "TaleCourtModel" := hE
  obtain ⟨hP, hK, hN⟩ := hB
  have hS : va_S (inW ad 21) s.heap s.heap [] := va_S.rf
  have hl : lv_has ls 3 [(0, .ref (ad 0)), (1, .int (iI (z_1)))] := hl
  obtain ⟨z1, hz1, ez1⟩ := iI_of (ar 6 0)
  obtain ⟨z2, hz2, ez2⟩ := YI_h2 hI 2 (by decide)
  obtain ⟨z3, hz3, ez3⟩ := YI_h5 hI 5 (by decide)
  obtain ⟨z4, hz4, ez4⟩ := YI_h0 hI 0 (by decide)
  have ht0 := YI_t0 hI ez1 (by omega) ez2 (by omega) ez3 (by omega) ez4 (by omega)
  refine lv_aload_n hE.1 hE.2.1 dX9_lies_0 rfl (lv_at hl 0 rfl) ?_
  refine lv_iconst (v := iI (0)) hE.1 hE.2.1 dX9_lies_1 (by decide) ?_
  refine x_put (x := iI (0)) hE hK hN hP hS 0 (by decide) (yG_9 rfl) rfl hin9 tyX9 tyX9_ok nmX9 0 (by decide) mw_1334 rfl rfl rfl (Nat.le_of_ble_eq_true rfl) (yG_9 rfl) dX9_lies_2 (fun v5 H locs hv5 hP hS => ?_)
  have hI := YI_putN hI hv5 (by decide)
  refine lv_aload_n hE.1 hE.2.1 dX9_lies_5 rfl (lv_at hl 0 rfl) ?_
  refine lv_iload_n hE.1 hE.2.1 dX9_lies_6 rfl (lv_at hl 1 rfl) ?_
  refine lv_iconst (v := iI (2)) hE.1 hE.2.1 dX9_lies_7 (by decide) ?_
  refine x_vp (nn := 2) (As := [.int (iI (z_1)), .int (iI (2))]) (rest := []) hE (s_X9_whyNotTold_c1_2 l D K ad v5 ar al hI  (z_1) (by omega)) wPre_blind (wPre_now hK hN hP) (x_recv hK hP 0 (by decide) (yG_9 rfl) rfl) rfl mw_1990 mw_1992 mw_106 mw_123 mw_1993 (by decide +kernel) ⟨by decide, by decide⟩ hl.1 rfl (Nat.le_of_ble_eq_true rfl) ⟨Nat.zero_le _, Nat.zero_le _⟩ dX9_lies_8 (fun r6 hr6 => ?_)
  obtain ⟨z6, hz6, rfl⟩ := hr6
  refine lv_istore_n (lv' := [(2, .int (iI (z6))), (0, .ref (ad 0)), (1, .int (iI (z_1)))]) hE.1 hE.2.1 dX9_lies_11 rfl hl (by decide) rfl (fun ls hl => ?_)
  refine lv_iload_n hE.1 hE.2.1 dX9_lies_12 rfl (lv_at hl 0 rfl) ?_
  refine s_if_eq (a := z6) (tgt := 18) hE.1 hE.2.1 (by omega) dX9_lies_13 (by decide) (fun c7 => ?_) (fun c7 => ?_)
  · skip
    refine lv_aload_n hE.1 hE.2.1 dX9_lies_18 rfl (lv_at hl 1 rfl) ?_
    refine lv_iload_n hE.1 hE.2.1 dX9_lies_19 rfl (lv_at hl 2 rfl) ?_
    refine lv_iconst (v := iI (2)) hE.1 hE.2.1 dX9_lies_20 (by decide) ?_
    refine lv_iconst (v := iI (0)) hE.1 hE.2.1 dX9_lies_21 (by decide) ?_
    refine x_vv (nn := 3) (As := [.int (iI (z_1)), .int (iI (2)), .int (iI (0))]) (rest := []) hE hK hN hP hS (s_X9_laysUntrue_c1_2_c2_0 l D K ad v5 ar al hI  (z_1) (by omega)) (x_recv hK hP 0 (by decide) (yG_9 rfl) rfl) rfl mw_1994 mw_1996 mw_107 mw_123 mw_1997 (by decide +kernel) ⟨by decide, by decide⟩ hl.1 rfl (Nat.le_of_ble_eq_true rfl) ⟨Nat.zero_le _, Nat.zero_le _⟩ dX9_lies_22 (fun v8 ar8 al8 H locs hq8 hP hS => ?_)
    obtain ⟨hI, hq8, hqa8, hql8⟩ := hq8
    have hI : YI v8 ar8 := hI
    refine lv_aload_n hE.1 hE.2.1 dX9_lies_25 rfl (lv_at hl 1 rfl) ?_
    refine x_get (x := .ref (ad 19)) hE hK hP 0 (by decide) (yG_9 rfl) rfl hin9 47 (by decide) mw_1381 rfl dX9_lies_26 ?_
    refine lv_iconst (v := iI (1)) hE.1 hE.2.1 dX9_lies_29 (by decide) ?_
    refine lv_aload_n hE.1 hE.2.1 dX9_lies_30 rfl (lv_at hl 1 rfl) ?_
    refine x_get (x := .ref (ad 7)) hE hK hP 0 (by decide) (yG_9 rfl) rfl hin9 17 (by decide) mw_1351 rfl dX9_lies_31 ?_
    refine lv_iconst (v := iI (2)) hE.1 hE.2.1 dX9_lies_34 (by decide) ?_
    refine x_iald (j := iI (2)) hE hK hP 7 (by decide) (yG_10 rfl) (iI_in (n := 30) (by omega)) dX9_lies_35 ?_
    refine x_top (y := iI (z2)) (by rw [show (iI (2)).toNatClampNeg = 2 from by decide]; exact ((congrFun (hqa8 7 (by decide)) 2).trans ez2)) ?_
    refine lv_ishl hE.1 hE.2.1 dX9_lies_36 ?_
    obtain ⟨z10, hz10, ez10⟩ := iI_shl9 (a := z2) (by omega)
    refine x_top ez10 ?_
    refine lv_iconst (v := iI (1)) hE.1 hE.2.1 dX9_lies_37 (by decide) ?_
    refine lv_isub hE.1 hE.2.1 dX9_lies_38 ?_
    refine x_top (y := iI (z10 - 1)) ((iI_sub (z10) (1)).trans (congrArg iI (by omega))) ?_
    refine x_iald (j := iI (z10 - 1)) hE hK hP 19 (by decide) (yG_10 rfl) (iI_in (n := 512) (by omega)) dX9_lies_39 ?_
    obtain ⟨z12, hz12, ez12⟩ := iI_of (ar8 19 (iI (z10 - 1)).toNatClampNeg)
    refine x_top ez12 ?_
    exact kr _ v8 ar8 al8 _ _ _ _ rfl ⟨⟨z12, by omega, rfl⟩, hI, fun i j h => ((hq8 i j (fun q => h (mem_sub (by decide) q))).trans (up_oth hv5 (fun q => h (by rcases q with ⟨rfl, rfl⟩; decide)))), fun i h => (hqa8 i (fun q => h (mem_subn (by decide) q))), fun i h => (hql8 i (fun q => h (mem_subn (by decide) q)))⟩ hP hS dX9_lies_40
  · skip
    refine lv_iload_n hE.1 hE.2.1 dX9_lies_16 rfl (lv_at hl 0 rfl) ?_
    exact kr _ v5 ar al _ _ _ _ rfl ⟨⟨z6, by omega, rfl⟩, hI, fun i j h => (up_oth hv5 (fun q => h (by rcases q with ⟨rfl, rfl⟩; decide))), fun i h => rfl, fun i h => rfl⟩ hP hS dX9_lies_17

theorem dX9_orders_0 : decode cX9_orders 0 = .ok (.aload_n 0, 1) := by decide +kernel
theorem dX9_orders_1 : decode cX9_orders 1 = .ok (.iconst 0, 1) := by decide +kernel
theorem dX9_orders_2 : decode cX9_orders 2 = .ok (.putfield 81, 3) := by decide +kernel
theorem dX9_orders_5 : decode cX9_orders 5 = .ok (.aload_n 0, 1) := by decide +kernel
theorem dX9_orders_6 : decode cX9_orders 6 = .ok (.iload_n 1, 1) := by decide +kernel
theorem dX9_orders_7 : decode cX9_orders 7 = .ok (.iconst 2, 1) := by decide +kernel
theorem dX9_orders_8 : decode cX9_orders 8 = .ok (.invokevirtual 427, 3) := by decide +kernel
theorem dX9_orders_11 : decode cX9_orders 11 = .ok (.istore_n 2, 1) := by decide +kernel
theorem dX9_orders_12 : decode cX9_orders 12 = .ok (.iload_n 2, 1) := by decide +kernel
theorem dX9_orders_13 : decode cX9_orders 13 = .ok (.ifCond .eq 5, 3) := by decide +kernel
theorem dX9_orders_16 : decode cX9_orders 16 = .ok (.iload_n 2, 1) := by decide +kernel
theorem dX9_orders_17 : decode cX9_orders 17 = .ok (.ireturn, 1) := by decide +kernel
theorem dX9_orders_18 : decode cX9_orders 18 = .ok (.aload_n 0, 1) := by decide +kernel
theorem dX9_orders_19 : decode cX9_orders 19 = .ok (.iload_n 1, 1) := by decide +kernel
theorem dX9_orders_20 : decode cX9_orders 20 = .ok (.iconst 2, 1) := by decide +kernel
theorem dX9_orders_21 : decode cX9_orders 21 = .ok (.iconst 0, 1) := by decide +kernel
theorem dX9_orders_22 : decode cX9_orders 22 = .ok (.invokevirtual 430, 3) := by decide +kernel
theorem dX9_orders_25 : decode cX9_orders 25 = .ok (.aload_n 0, 1) := by decide +kernel
theorem dX9_orders_26 : decode cX9_orders 26 = .ok (.getfield 78, 3) := by decide +kernel
theorem dX9_orders_29 : decode cX9_orders 29 = .ok (.iconst 1, 1) := by decide +kernel
theorem dX9_orders_30 : decode cX9_orders 30 = .ok (.aload_n 0, 1) := by decide +kernel
theorem dX9_orders_31 : decode cX9_orders 31 = .ok (.getfield 34, 3) := by decide +kernel
theorem dX9_orders_34 : decode cX9_orders 34 = .ok (.iconst 2, 1) := by decide +kernel
theorem dX9_orders_35 : decode cX9_orders 35 = .ok (.iaload, 1) := by decide +kernel
theorem dX9_orders_36 : decode cX9_orders 36 = .ok (.ishl, 1) := by decide +kernel
theorem dX9_orders_37 : decode cX9_orders 37 = .ok (.iconst 1, 1) := by decide +kernel
theorem dX9_orders_38 : decode cX9_orders 38 = .ok (.isub, 1) := by decide +kernel
theorem dX9_orders_39 : decode cX9_orders 39 = .ok (.iaload, 1) := by decide +kernel
theorem dX9_orders_40 : decode cX9_orders 40 = .ok (.ireturn, 1) := by decide +kernel
set_option maxHeartbeats 4000000 in
set_option maxRecDepth 100000 in
theorem s_X9_orders (l : Launch) (D : va_G) (K : Nat → ClassId) (ad : Nat → Nat) (v ar : sI) (al : sL) (hI : YI v ar) (z_1 : Int) (hz_1 : -2147483648 ≤ z_1 ∧ z_1 ≤ 2147483647) : Met l yX9_orders (wM yX9_orders cX9_orders 3 (some .int)) (rmD 4) (va_Pc [.ref (ad 0), .int (iI (z_1))] (wPre D K ad (yG ad K) 21 v ar al)) (va_Qi (fun (r : Int32) (u : sT) => (∃ z : Int, (-2147483648 ≤ z ∧ z ≤ 2147483647) ∧ r = iI z) ∧ YI u.1 u.2.1 ∧ (∀ i j : Nat, (i, j) ∉ ([(0, 0)] : List (Nat × Nat)) → u.1 i j = v i j) ∧ (∀ i : Nat, i ∉ ([19, 20] : List Nat) → u.2.1 i = ar i) ∧ (∀ i : Nat, i ∉ ([] : List Nat) → u.2.2 i = al i)) (wB D ad (yG ad K) 21) (inW ad 21)) 0 0 (inW ad 21) := by
  refine s_metI (by decide) (Nat.le_of_ble_eq_true rfl) ?_
  intro p e s m below meth c ls args Q hE hB hl kr
  have hE : CallFix p m c cX9_orders 3 s args tbG "TaleCourtModel" := hE
  obtain ⟨hP, hK, hN⟩ := hB
  have hS : va_S (inW ad 21) s.heap s.heap [] := va_S.rf
  have hl : lv_has ls 3 [(0, .ref (ad 0)), (1, .int (iI (z_1)))] := hl
  obtain ⟨z1, hz1, ez1⟩ := iI_of (ar 6 0)
  obtain ⟨z2, hz2, ez2⟩ := YI_h2 hI 2 (by decide)
  obtain ⟨z3, hz3, ez3⟩ := YI_h5 hI 5 (by decide)
  obtain ⟨z4, hz4, ez4⟩ := YI_h0 hI 0 (by decide)
  have ht0 := YI_t0 hI ez1 (by omega) ez2 (by omega) ez3 (by omega) ez4 (by omega)
  refine lv_aload_n hE.1 hE.2.1 dX9_orders_0 rfl (lv_at hl 0 rfl) ?_
  refine lv_iconst (v := iI (0)) hE.1 hE.2.1 dX9_orders_1 (by decide) ?_
  refine x_put (x := iI (0)) hE hK hN hP hS 0 (by decide) (yG_9 rfl) rfl hin9 tyX9 tyX9_ok nmX9 0 (by decide) mw_1334 rfl rfl rfl (Nat.le_of_ble_eq_true rfl) (yG_9 rfl) dX9_orders_2 (fun v5 H locs hv5 hP hS => ?_)
  have hI := YI_putN hI hv5 (by decide)
  refine lv_aload_n hE.1 hE.2.1 dX9_orders_5 rfl (lv_at hl 0 rfl) ?_
  refine lv_iload_n hE.1 hE.2.1 dX9_orders_6 rfl (lv_at hl 1 rfl) ?_
  refine lv_iconst (v := iI (2)) hE.1 hE.2.1 dX9_orders_7 (by decide) ?_
  refine x_vp (nn := 2) (As := [.int (iI (z_1)), .int (iI (2))]) (rest := []) hE (s_X9_whyNotTold_c1_2 l D K ad v5 ar al hI  (z_1) (by omega)) wPre_blind (wPre_now hK hN hP) (x_recv hK hP 0 (by decide) (yG_9 rfl) rfl) rfl mw_1990 mw_1992 mw_106 mw_123 mw_1993 (by decide +kernel) ⟨by decide, by decide⟩ hl.1 rfl (Nat.le_of_ble_eq_true rfl) ⟨Nat.zero_le _, Nat.zero_le _⟩ dX9_orders_8 (fun r6 hr6 => ?_)
  obtain ⟨z6, hz6, rfl⟩ := hr6
  refine lv_istore_n (lv' := [(2, .int (iI (z6))), (0, .ref (ad 0)), (1, .int (iI (z_1)))]) hE.1 hE.2.1 dX9_orders_11 rfl hl (by decide) rfl (fun ls hl => ?_)
  refine lv_iload_n hE.1 hE.2.1 dX9_orders_12 rfl (lv_at hl 0 rfl) ?_
  refine s_if_eq (a := z6) (tgt := 18) hE.1 hE.2.1 (by omega) dX9_orders_13 (by decide) (fun c7 => ?_) (fun c7 => ?_)
  · skip
    refine lv_aload_n hE.1 hE.2.1 dX9_orders_18 rfl (lv_at hl 1 rfl) ?_
    refine lv_iload_n hE.1 hE.2.1 dX9_orders_19 rfl (lv_at hl 2 rfl) ?_
    refine lv_iconst (v := iI (2)) hE.1 hE.2.1 dX9_orders_20 (by decide) ?_
    refine lv_iconst (v := iI (0)) hE.1 hE.2.1 dX9_orders_21 (by decide) ?_
    refine x_vv (nn := 3) (As := [.int (iI (z_1)), .int (iI (2)), .int (iI (0))]) (rest := []) hE hK hN hP hS (s_X9_laysUntrue_c1_2_c2_0 l D K ad v5 ar al hI  (z_1) (by omega)) (x_recv hK hP 0 (by decide) (yG_9 rfl) rfl) rfl mw_1994 mw_1996 mw_107 mw_123 mw_1997 (by decide +kernel) ⟨by decide, by decide⟩ hl.1 rfl (Nat.le_of_ble_eq_true rfl) ⟨Nat.zero_le _, Nat.zero_le _⟩ dX9_orders_22 (fun v8 ar8 al8 H locs hq8 hP hS => ?_)
    obtain ⟨hI, hq8, hqa8, hql8⟩ := hq8
    have hI : YI v8 ar8 := hI
    refine lv_aload_n hE.1 hE.2.1 dX9_orders_25 rfl (lv_at hl 1 rfl) ?_
    refine x_get (x := .ref (ad 20)) hE hK hP 0 (by decide) (yG_9 rfl) rfl hin9 48 (by decide) mw_1382 rfl dX9_orders_26 ?_
    refine lv_iconst (v := iI (1)) hE.1 hE.2.1 dX9_orders_29 (by decide) ?_
    refine lv_aload_n hE.1 hE.2.1 dX9_orders_30 rfl (lv_at hl 1 rfl) ?_
    refine x_get (x := .ref (ad 7)) hE hK hP 0 (by decide) (yG_9 rfl) rfl hin9 17 (by decide) mw_1351 rfl dX9_orders_31 ?_
    refine lv_iconst (v := iI (2)) hE.1 hE.2.1 dX9_orders_34 (by decide) ?_
    refine x_iald (j := iI (2)) hE hK hP 7 (by decide) (yG_10 rfl) (iI_in (n := 30) (by omega)) dX9_orders_35 ?_
    refine x_top (y := iI (z2)) (by rw [show (iI (2)).toNatClampNeg = 2 from by decide]; exact ((congrFun (hqa8 7 (by decide)) 2).trans ez2)) ?_
    refine lv_ishl hE.1 hE.2.1 dX9_orders_36 ?_
    obtain ⟨z10, hz10, ez10⟩ := iI_shl9 (a := z2) (by omega)
    refine x_top ez10 ?_
    refine lv_iconst (v := iI (1)) hE.1 hE.2.1 dX9_orders_37 (by decide) ?_
    refine lv_isub hE.1 hE.2.1 dX9_orders_38 ?_
    refine x_top (y := iI (z10 - 1)) ((iI_sub (z10) (1)).trans (congrArg iI (by omega))) ?_
    refine x_iald (j := iI (z10 - 1)) hE hK hP 20 (by decide) (yG_10 rfl) (iI_in (n := 512) (by omega)) dX9_orders_39 ?_
    obtain ⟨z12, hz12, ez12⟩ := iI_of (ar8 20 (iI (z10 - 1)).toNatClampNeg)
    refine x_top ez12 ?_
    exact kr _ v8 ar8 al8 _ _ _ _ rfl ⟨⟨z12, by omega, rfl⟩, hI, fun i j h => ((hq8 i j (fun q => h (mem_sub (by decide) q))).trans (up_oth hv5 (fun q => h (by rcases q with ⟨rfl, rfl⟩; decide)))), fun i h => (hqa8 i (fun q => h (mem_subn (by decide) q))), fun i h => (hql8 i (fun q => h (mem_subn (by decide) q)))⟩ hP hS dX9_orders_40
  · skip
    refine lv_iload_n hE.1 hE.2.1 dX9_orders_16 rfl (lv_at hl 0 rfl) ?_
    exact kr _ v5 ar al _ _ _ _ rfl ⟨⟨z6, by omega, rfl⟩, hI, fun i j h => (up_oth hv5 (fun q => h (by rcases q with ⟨rfl, rfl⟩; decide))), fun i h => rfl, fun i h => rfl⟩ hP hS dX9_orders_17

theorem dX9_whyNotTold_110 : decode cX9_whyNotTold 110 = .ok (.aload_n 0, 1) := by decide +kernel
theorem dX9_whyNotTold_111 : decode cX9_whyNotTold 111 = .ok (.getfield 16, 3) := by decide +kernel
theorem dX9_whyNotTold_114 : decode cX9_whyNotTold 114 = .ok (.bipush 60, 2) := by decide +kernel
theorem dX9_whyNotTold_116 : decode cX9_whyNotTold 116 = .ok (.iload_n 1, 1) := by decide +kernel
theorem dX9_whyNotTold_117 : decode cX9_whyNotTold 117 = .ok (.imul, 1) := by decide +kernel
theorem dX9_whyNotTold_118 : decode cX9_whyNotTold 118 = .ok (.iload 4, 2) := by decide +kernel
theorem dX9_whyNotTold_120 : decode cX9_whyNotTold 120 = .ok (.iadd, 1) := by decide +kernel
theorem dX9_whyNotTold_121 : decode cX9_whyNotTold 121 = .ok (.laload, 1) := by decide +kernel
theorem dX9_whyNotTold_122 : decode cX9_whyNotTold 122 = .ok (.lconst 0, 1) := by decide +kernel
theorem dX9_whyNotTold_123 : decode cX9_whyNotTold 123 = .ok (.aload_n 0, 1) := by decide +kernel
theorem dX9_whyNotTold_124 : decode cX9_whyNotTold 124 = .ok (.getfield 34, 3) := by decide +kernel
theorem dX9_whyNotTold_127 : decode cX9_whyNotTold 127 = .ok (.iconst 3, 1) := by decide +kernel
theorem dX9_whyNotTold_128 : decode cX9_whyNotTold 128 = .ok (.iaload, 1) := by decide +kernel
theorem dX9_whyNotTold_129 : decode cX9_whyNotTold 129 = .ok (.i2l, 1) := by decide +kernel
theorem dX9_whyNotTold_130 : decode cX9_whyNotTold 130 = .ok (.lconst 1, 1) := by decide +kernel
theorem dX9_whyNotTold_131 : decode cX9_whyNotTold 131 = .ok (.lsub, 1) := by decide +kernel
theorem dX9_whyNotTold_132 : decode cX9_whyNotTold 132 = .ok (.invokestatic 86, 3) := by decide +kernel
theorem dX9_whyNotTold_135 : decode cX9_whyNotTold 135 = .ok (.ifCond .ne 6, 3) := by decide +kernel
theorem dX9_whyNotTold_138 : decode cX9_whyNotTold 138 = .ok (.bipush (-2), 2) := by decide +kernel
theorem dX9_whyNotTold_140 : decode cX9_whyNotTold 140 = .ok (.ireturn, 1) := by decide +kernel
set_option maxHeartbeats 4000000 in
set_option maxRecDepth 100000 in
theorem s_X9_whyNotTold_c1_3 (l : Launch) (D : va_G) (K : Nat → ClassId) (ad : Nat → Nat) (v ar : sI) (al : sL) (hI : YI v ar) (z_1 : Int) (hz_1 : -2147483648 ≤ z_1 ∧ z_1 ≤ 2147483647) : Met l yX9_whyNotTold (wM yX9_whyNotTold cX9_whyNotTold 9 (some .int)) (rmD 3) (va_Pc [.ref (ad 0), .int (iI (z_1)), .int (iI (3))] (wPre D K ad (yG ad K) 21 v ar al)) (vp_Si (fun r => ∃ z : Int, ((z = 0 ∧ 0 ≤ z_1 ∧ z_1 ≤ 3) ∨ z ≠ 0 ∧ -2147483648 ≤ z ∧ z ≤ 2147483647) ∧ r = iI z)) 0 0 (fun _ => False) := by
  refine s_metP (by decide) (Nat.le_of_ble_eq_true rfl) ?_
  intro p e s m below meth c ls args Q hE hB hl kr
  have hE : CallFix p m c cX9_whyNotTold 9 s args tbG "TaleCourtModel" := hE
  obtain ⟨hP, hK, hN⟩ := hB
  have hl : lv_has ls 9 [(0, .ref (ad 0)), (1, .int (iI (z_1))), (2, .int (iI (3)))] := hl
  obtain ⟨z1, hz1, ez1⟩ := iI_of (ar 6 0)
  obtain ⟨z2, hz2, ez2⟩ := YI_h2 hI 2 (by decide)
  obtain ⟨z3, hz3, ez3⟩ := YI_h5 hI 5 (by decide)
  obtain ⟨z4, hz4, ez4⟩ := YI_h0 hI 0 (by decide)
  have ht0 := YI_t0 hI ez1 (by omega) ez2 (by omega) ez3 (by omega) ez4 (by omega)
  refine lv_aload_n hE.1 hE.2.1 dX9_whyNotTold_0 rfl (lv_at hl 0 rfl) ?_
  refine lv_iload_n hE.1 hE.2.1 dX9_whyNotTold_1 rfl (lv_at hl 1 rfl) ?_
  refine x_vp (nn := 1) (As := [.int (iI (z_1))]) (rest := []) hE (s_X9_whyNoRow l D K ad v ar al hI (z1) (by omega) ez1 (z_1) (by omega)) wPre_blind (wPre_now hK hN hP) (x_recv hK hP 0 (by decide) (yG_9 rfl) rfl) rfl mw_1974 mw_1976 mw_104 mw_123 mw_1977 (by decide +kernel) ⟨by decide, by decide⟩ hl.1 rfl (Nat.le_of_ble_eq_true rfl) ⟨Nat.zero_le _, Nat.zero_le _⟩ dX9_whyNotTold_2 (fun r5 hr5 => ?_)
  obtain ⟨z5, hz5, rfl⟩ := hr5
  refine lv_istore_n (lv' := [(3, .int (iI (z5))), (0, .ref (ad 0)), (1, .int (iI (z_1))), (2, .int (iI (3)))]) hE.1 hE.2.1 dX9_whyNotTold_5 rfl hl (by decide) rfl (fun ls hl => ?_)
  refine lv_iload_n hE.1 hE.2.1 dX9_whyNotTold_6 rfl (lv_at hl 0 rfl) ?_
  refine s_if_eq (a := z5) (tgt := 12) hE.1 hE.2.1 (by omega) dX9_whyNotTold_7 (by decide) (fun c6 => ?_) (fun c6 => ?_)
  · skip
    refine lv_aload_n hE.1 hE.2.1 dX9_whyNotTold_12 rfl (lv_at hl 1 rfl) ?_
    refine x_get (x := .ref (ad 2)) hE hK hP 0 (by decide) (yG_9 rfl) rfl hin9 2 (by decide) mw_1336 rfl dX9_whyNotTold_13 ?_
    refine lv_iload_n hE.1 hE.2.1 dX9_whyNotTold_16 rfl (lv_at hl 2 rfl) ?_
    refine x_iald (j := iI (z_1)) hE hK hP 2 (by decide) (yG_10 rfl) (iI_in (n := 4) (by omega)) dX9_whyNotTold_17 ?_
    obtain ⟨z8, hz8, ez8⟩ := YI_a2 hI ((iI (z_1)).toNatClampNeg)
    refine x_top ez8 ?_
    refine lv_iload_n hE.1 hE.2.1 dX9_whyNotTold_18 rfl (lv_at hl 3 rfl) ?_
    refine lv_irem hE.1 hE.2.1 dX9_whyNotTold_19 (iI_ne0 (by omega) (by omega)) ?_
    obtain ⟨z9, hz9⟩ : ∃ z : Int, z = (z8) % (3) ∧ 0 ≤ z ∧ z < 3 := ⟨_, rfl, Int.emod_nonneg _ (by omega), Int.emod_lt_of_pos _ (by omega)⟩
    refine x_top (y := iI (z9)) ((iI_rem (by omega) (by omega)).trans (congrArg iI hz9.1.symm)) ?_
    replace hz9 := hz9.2
    refine s_if_eq (a := z9) (tgt := 26) hE.1 hE.2.1 (by omega) dX9_whyNotTold_20 (by decide) (fun c10 => ?_) (fun c10 => ?_)
    · skip
      refine lv_iconst (v := iI (0)) hE.1 hE.2.1 dX9_whyNotTold_26 (by decide) ?_
      refine lv_istore (lv' := [(4, .int (iI (0))), (3, .int (iI (z5))), (0, .ref (ad 0)), (1, .int (iI (z_1))), (2, .int (iI (3)))]) hE.1 hE.2.1 dX9_whyNotTold_27 hl (by decide) rfl (fun ls hl => ?_)
      have loop11 : ∀ (k11 : Nat) (y11_4 : Int) (ls : Array Slot), (60 - y11_4).toNat = k11 → (0 ≤ y11_4 ∧ y11_4 ≤ 62 ∧ y11_4 % 3 = 0) → lv_has ls 9 [(4, .int (iI (y11_4))), (3, .int (iI (z5))), (0, .ref (ad 0)), (1, .int (iI (z_1))), (2, .int (iI (3)))] → W p l e (rmD 3) s m args below meth c s.heap [] 0 0 Q (F0 m 29 ls []) := by
        intro k11
        induction k11 using Nat.strongRecOn with
        | _ k11 ih11 =>
          intro y11_4 ls hk11 hb_y11_4 hl
          refine lv_iload hE.1 hE.2.1 dX9_whyNotTold_29 (lv_at hl 0 rfl) ?_
          refine lv_aload_n hE.1 hE.2.1 dX9_whyNotTold_31 rfl (lv_at hl 2 rfl) ?_
          refine x_get (x := .ref (ad 2)) hE hK hP 0 (by decide) (yG_9 rfl) rfl hin9 2 (by decide) mw_1336 rfl dX9_whyNotTold_32 ?_
          refine lv_iload_n hE.1 hE.2.1 dX9_whyNotTold_35 rfl (lv_at hl 3 rfl) ?_
          refine x_iald (j := iI (z_1)) hE hK hP 2 (by decide) (yG_10 rfl) (iI_in (n := 4) (by omega)) dX9_whyNotTold_36 ?_
          refine x_top ez8 ?_
          refine s_icmp_ge (a := y11_4) (b := z8) (tgt := 150) hE.1 hE.2.1 (by omega) (by omega) dX9_whyNotTold_37 (by decide) (fun c13 => ?_) (fun c13 => ?_)
          · skip
            refine lv_iconst (v := iI (0)) hE.1 hE.2.1 dX9_whyNotTold_150 (by decide) ?_
            exact kr _ _ _ rfl ⟨0, by omega, rfl⟩ dX9_whyNotTold_151
          · skip
            refine lv_aload_n hE.1 hE.2.1 dX9_whyNotTold_40 rfl (lv_at hl 2 rfl) ?_
            refine x_get (x := .ref (ad 3)) hE hK hP 0 (by decide) (yG_9 rfl) rfl hin9 3 (by decide) mw_1337 rfl dX9_whyNotTold_41 ?_
            refine lv_bipush (v := iI (60)) hE.1 hE.2.1 dX9_whyNotTold_44 (by decide) ?_
            refine lv_iload_n hE.1 hE.2.1 dX9_whyNotTold_46 rfl (lv_at hl 3 rfl) ?_
            refine lv_imul hE.1 hE.2.1 dX9_whyNotTold_47 ?_
            refine x_top (y := iI (60 * z_1)) ((iI_mul (60) (z_1)).trans (congrArg iI (by omega))) ?_
            refine lv_iload hE.1 hE.2.1 dX9_whyNotTold_48 (lv_at hl 0 rfl) ?_
            refine lv_iadd hE.1 hE.2.1 dX9_whyNotTold_50 ?_
            refine x_top (y := iI (y11_4 + 60 * z_1)) ((iI_add (60 * z_1) (y11_4)).trans (congrArg iI (by omega))) ?_
            refine lv_iload_n hE.1 hE.2.1 dX9_whyNotTold_51 rfl (lv_at hl 4 rfl) ?_
            refine lv_iadd hE.1 hE.2.1 dX9_whyNotTold_52 ?_
            refine x_top (y := iI (y11_4 + 60 * z_1 + 3)) ((iI_add (y11_4 + 60 * z_1) (3)).trans (congrArg iI (by omega))) ?_
            refine lv_iconst (v := iI (2)) hE.1 hE.2.1 dX9_whyNotTold_53 (by decide) ?_
            refine lv_isub hE.1 hE.2.1 dX9_whyNotTold_54 ?_
            refine x_top (y := iI (y11_4 + 60 * z_1 + 1)) ((iI_sub (y11_4 + 60 * z_1 + 3) (2)).trans (congrArg iI (by omega))) ?_
            refine x_lald (j := iI (y11_4 + 60 * z_1 + 1)) hE hK hP 3 (by decide) (yG_11 rfl) (iI_in (n := 240) (by omega)) dX9_whyNotTold_55 ?_
            obtain ⟨z15, hz15, ez15⟩ := lI_of (al 3 (iI (y11_4 + 60 * z_1 + 1)).toNatClampNeg)
            refine x_topl ez15 ?_
            refine lv_lstore (lv' := [(5, .long (lI (z15))), (4, .int (iI (y11_4))), (3, .int (iI (z5))), (0, .ref (ad 0)), (1, .int (iI (z_1))), (2, .int (iI (3)))]) hE.1 hE.2.1 dX9_whyNotTold_56 hl (by decide) rfl (fun ls hl => ?_)
            refine lv_aload_n hE.1 hE.2.1 dX9_whyNotTold_58 rfl (lv_at hl 3 rfl) ?_
            refine x_get (x := .ref (ad 3)) hE hK hP 0 (by decide) (yG_9 rfl) rfl hin9 3 (by decide) mw_1337 rfl dX9_whyNotTold_59 ?_
            refine lv_bipush (v := iI (60)) hE.1 hE.2.1 dX9_whyNotTold_62 (by decide) ?_
            refine lv_iload_n hE.1 hE.2.1 dX9_whyNotTold_64 rfl (lv_at hl 4 rfl) ?_
            refine lv_imul hE.1 hE.2.1 dX9_whyNotTold_65 ?_
            refine x_top (y := iI (60 * z_1)) ((iI_mul (60) (z_1)).trans (congrArg iI (by omega))) ?_
            refine lv_iload hE.1 hE.2.1 dX9_whyNotTold_66 (lv_at hl 1 rfl) ?_
            refine lv_iadd hE.1 hE.2.1 dX9_whyNotTold_68 ?_
            refine x_top (y := iI (y11_4 + 60 * z_1)) ((iI_add (60 * z_1) (y11_4)).trans (congrArg iI (by omega))) ?_
            refine lv_iload_n hE.1 hE.2.1 dX9_whyNotTold_69 rfl (lv_at hl 5 rfl) ?_
            refine lv_iadd hE.1 hE.2.1 dX9_whyNotTold_70 ?_
            refine x_top (y := iI (y11_4 + 60 * z_1 + 3)) ((iI_add (y11_4 + 60 * z_1) (3)).trans (congrArg iI (by omega))) ?_
            refine lv_iconst (v := iI (1)) hE.1 hE.2.1 dX9_whyNotTold_71 (by decide) ?_
            refine lv_isub hE.1 hE.2.1 dX9_whyNotTold_72 ?_
            refine x_top (y := iI (y11_4 + 60 * z_1 + 2)) ((iI_sub (y11_4 + 60 * z_1 + 3) (1)).trans (congrArg iI (by omega))) ?_
            refine x_lald (j := iI (y11_4 + 60 * z_1 + 2)) hE hK hP 3 (by decide) (yG_11 rfl) (iI_in (n := 240) (by omega)) dX9_whyNotTold_73 ?_
            obtain ⟨z17, hz17, ez17⟩ := lI_of (al 3 (iI (y11_4 + 60 * z_1 + 2)).toNatClampNeg)
            refine x_topl ez17 ?_
            refine lv_lstore (lv' := [(7, .long (lI (z17))), (5, .long (lI (z15))), (4, .int (iI (y11_4))), (3, .int (iI (z5))), (0, .ref (ad 0)), (1, .int (iI (z_1))), (2, .int (iI (3)))]) hE.1 hE.2.1 dX9_whyNotTold_74 hl (by decide) rfl (fun ls hl => ?_)
            refine lv_aload_n hE.1 hE.2.1 dX9_whyNotTold_76 rfl (lv_at hl 4 rfl) ?_
            refine lv_lload hE.1 hE.2.1 dX9_whyNotTold_77 (lv_at hl 1 rfl) ?_
            refine x_vp (nn := 1) (As := [.long (lI (z15))]) (rest := []) hE (s_X9_isMotif l D K ad v ar al hI (z2) (by omega) ez2 (z15) (by omega)) wPre_blind (wPre_now hK hN hP) (x_recv hK hP 0 (by decide) (yG_9 rfl) rfl) rfl mw_1662 mw_1664 mw_74 mw_123 mw_1665 (by decide +kernel) ⟨by decide, by decide⟩ hl.1 rfl (Nat.le_of_ble_eq_true rfl) ⟨Nat.zero_le _, Nat.zero_le _⟩ dX9_whyNotTold_79 (fun r18 hr18 => ?_)
            obtain ⟨z18, hz18, rfl⟩ := hr18
            refine s_if_eq (a := z18) (tgt := 102) hE.1 hE.2.1 (by omega) dX9_whyNotTold_82 (by decide) (fun c19 => ?_) (fun c19 => ?_)
            · skip
              refine lv_bipush (v := iI (-2)) hE.1 hE.2.1 dX9_whyNotTold_102 (by decide) ?_
              exact kr _ _ _ rfl ⟨-2, by omega, rfl⟩ dX9_whyNotTold_104
            · skip
              refine lv_aload_n hE.1 hE.2.1 dX9_whyNotTold_85 rfl (lv_at hl 4 rfl) ?_
              refine lv_lload hE.1 hE.2.1 dX9_whyNotTold_86 (lv_at hl 0 rfl) ?_
              refine x_vp (nn := 1) (As := [.long (lI (z17))]) (rest := []) hE (s_X9_isMotif l D K ad v ar al hI (z2) (by omega) ez2 (z17) (by omega)) wPre_blind (wPre_now hK hN hP) (x_recv hK hP 0 (by decide) (yG_9 rfl) rfl) rfl mw_1662 mw_1664 mw_74 mw_123 mw_1665 (by decide +kernel) ⟨by decide, by decide⟩ hl.1 rfl (Nat.le_of_ble_eq_true rfl) ⟨Nat.zero_le _, Nat.zero_le _⟩ dX9_whyNotTold_88 (fun r20 hr20 => ?_)
              obtain ⟨z20, hz20, rfl⟩ := hr20
              refine s_if_eq (a := z20) (tgt := 102) hE.1 hE.2.1 (by omega) dX9_whyNotTold_91 (by decide) (fun c21 => ?_) (fun c21 => ?_)
              · skip
                refine lv_bipush (v := iI (-2)) hE.1 hE.2.1 dX9_whyNotTold_102 (by decide) ?_
                exact kr _ _ _ rfl ⟨-2, by omega, rfl⟩ dX9_whyNotTold_104
              · skip
                refine lv_lload hE.1 hE.2.1 dX9_whyNotTold_94 (lv_at hl 1 rfl) ?_
                refine lv_lload hE.1 hE.2.1 dX9_whyNotTold_96 (lv_at hl 0 rfl) ?_
                refine W.lcmp hE.1 hE.2.1 dX9_whyNotTold_98 ?_
                obtain ⟨z22, hz22, ez22⟩ := lcmp_of (a := z15) (b := z17) (by omega) (by omega)
                refine x_top ez22 ?_
                refine s_if_ne (a := z22) (tgt := 105) hE.1 hE.2.1 (by omega) dX9_whyNotTold_99 (by decide) (fun c23 => ?_) (fun c23 => ?_)
                · skip
                  refine lv_iload_n hE.1 hE.2.1 dX9_whyNotTold_105 rfl (lv_at hl 6 rfl) ?_
                  refine lv_iconst (v := iI (3)) hE.1 hE.2.1 dX9_whyNotTold_106 (by decide) ?_
                  refine s_icmp_ne (a := 3) (b := 3) (tgt := 141) hE.1 hE.2.1 (by omega) (by omega) dX9_whyNotTold_107 (by decide) (fun c24 => False.elim (by omega)) (fun _ => ?_)
                  refine lv_aload_n hE.1 hE.2.1 dX9_whyNotTold_110 rfl (lv_at hl 4 rfl) ?_
                  refine x_get (x := .ref (ad 3)) hE hK hP 0 (by decide) (yG_9 rfl) rfl hin9 3 (by decide) mw_1337 rfl dX9_whyNotTold_111 ?_
                  refine lv_bipush (v := iI (60)) hE.1 hE.2.1 dX9_whyNotTold_114 (by decide) ?_
                  refine lv_iload_n hE.1 hE.2.1 dX9_whyNotTold_116 rfl (lv_at hl 5 rfl) ?_
                  refine lv_imul hE.1 hE.2.1 dX9_whyNotTold_117 ?_
                  refine x_top (y := iI (60 * z_1)) ((iI_mul (60) (z_1)).trans (congrArg iI (by omega))) ?_
                  refine lv_iload hE.1 hE.2.1 dX9_whyNotTold_118 (lv_at hl 2 rfl) ?_
                  refine lv_iadd hE.1 hE.2.1 dX9_whyNotTold_120 ?_
                  refine x_top (y := iI (y11_4 + 60 * z_1)) ((iI_add (60 * z_1) (y11_4)).trans (congrArg iI (by omega))) ?_
                  refine x_lald (j := iI (y11_4 + 60 * z_1)) hE hK hP 3 (by decide) (yG_11 rfl) (iI_in (n := 240) (by omega)) dX9_whyNotTold_121 ?_
                  obtain ⟨z26, hz26, ez26⟩ := lI_of (al 3 (iI (y11_4 + 60 * z_1)).toNatClampNeg)
                  refine x_topl ez26 ?_
                  refine lv_lconst (v := lI (0)) hE.1 hE.2.1 dX9_whyNotTold_122 (by decide) ?_
                  refine lv_aload_n hE.1 hE.2.1 dX9_whyNotTold_123 rfl (lv_at hl 4 rfl) ?_
                  refine x_get (x := .ref (ad 7)) hE hK hP 0 (by decide) (yG_9 rfl) rfl hin9 17 (by decide) mw_1351 rfl dX9_whyNotTold_124 ?_
                  refine lv_iconst (v := iI (3)) hE.1 hE.2.1 dX9_whyNotTold_127 (by decide) ?_
                  refine x_iald (j := iI (3)) hE hK hP 7 (by decide) (yG_10 rfl) (iI_in (n := 30) (by omega)) dX9_whyNotTold_128 ?_
                  obtain ⟨z28, hz28, ez28⟩ := YI_h3 hI 3 (by decide)
                  refine x_top (y := iI (z28)) (by rw [show (iI (3)).toNatClampNeg = 3 from by decide]; exact ez28) ?_
                  refine lv_i2l (v := lI (z28)) hE.1 hE.2.1 dX9_whyNotTold_129 (iI_i2l (by omega)) ?_
                  refine lv_lconst (v := lI (1)) hE.1 hE.2.1 dX9_whyNotTold_130 (by decide) ?_
                  refine lv_lsub hE.1 hE.2.1 dX9_whyNotTold_131 ?_
                  refine x_topl (y := lI (z28 - 1)) ((lI_sub (z28) (1)).trans (congrArg lI (by omega))) ?_
                  refine x_sp (nn := 3) (As := [.long (lI (z26)), .long (lI (0)), .long (lI (z28 - 1))]) (rest := []) hE (s_X9_in l (z26) (by omega) (0) (by omega) (z28 - 1) (by omega)) tt_blind (fun _ _ _ => trivial) rfl mw_1494 mw_1495 mw_123 mw_1496 (by decide +kernel) ⟨by decide, by decide⟩ hl.1 rfl (Nat.le_of_ble_eq_true rfl) ⟨Nat.zero_le _, Nat.zero_le _⟩ dX9_whyNotTold_132 (fun r29 hr29 => ?_)
                  obtain ⟨z29, hz29, rfl⟩ := hr29
                  refine s_if_ne (a := z29) (tgt := 141) hE.1 hE.2.1 (by omega) dX9_whyNotTold_135 (by decide) (fun c30 => ?_) (fun c30 => ?_)
                  · skip
                    refine lv_iload hE.1 hE.2.1 dX9_whyNotTold_141 (lv_at hl 2 rfl) ?_
                    refine lv_iload_n hE.1 hE.2.1 dX9_whyNotTold_143 rfl (lv_at hl 6 rfl) ?_
                    refine lv_iadd hE.1 hE.2.1 dX9_whyNotTold_144 ?_
                    refine x_top (y := iI (y11_4 + 3)) ((iI_add (y11_4) (3)).trans (congrArg iI (by omega))) ?_
                    refine lv_istore (lv' := [(4, .int (iI (y11_4 + 3))), (7, .long (lI (z17))), (5, .long (lI (z15))), (3, .int (iI (z5))), (0, .ref (ad 0)), (1, .int (iI (z_1))), (2, .int (iI (3)))]) hE.1 hE.2.1 dX9_whyNotTold_145 hl (by decide) rfl (fun ls hl => ?_)
                    refine lv_goto (tgt := 29) hE.1 hE.2.1 dX9_whyNotTold_147 (by decide) ?_
                    exact ih11 _ (by omega) (y11_4 + 3) _ rfl (by omega) (lv_sub hl [0, 3, 4, 5, 6] rfl)
                  · skip
                    refine lv_bipush (v := iI (-2)) hE.1 hE.2.1 dX9_whyNotTold_138 (by decide) ?_
                    exact kr _ _ _ rfl ⟨-2, by omega, rfl⟩ dX9_whyNotTold_140
                · skip
                  refine lv_bipush (v := iI (-2)) hE.1 hE.2.1 dX9_whyNotTold_102 (by decide) ?_
                  exact kr _ _ _ rfl ⟨-2, by omega, rfl⟩ dX9_whyNotTold_104
      exact loop11 _ (0) _ rfl (by omega) hl
    · skip
      refine lv_bipush (v := iI (-2)) hE.1 hE.2.1 dX9_whyNotTold_23 (by decide) ?_
      exact kr _ _ _ rfl ⟨-2, by omega, rfl⟩ dX9_whyNotTold_25
  · skip
    refine lv_iload_n hE.1 hE.2.1 dX9_whyNotTold_10 rfl (lv_at hl 0 rfl) ?_
    exact kr _ _ _ rfl ⟨z5, by omega, rfl⟩ dX9_whyNotTold_11

theorem dX9_laysUntrue_143 : decode cX9_laysUntrue 143 = .ok (.iload_n 3, 1) := by decide +kernel
theorem dX9_laysUntrue_144 : decode cX9_laysUntrue 144 = .ok (.aload_n 0, 1) := by decide +kernel
theorem dX9_laysUntrue_145 : decode cX9_laysUntrue 145 = .ok (.iload_n 1, 1) := by decide +kernel
theorem dX9_laysUntrue_146 : decode cX9_laysUntrue 146 = .ok (.iload 8, 2) := by decide +kernel
theorem dX9_laysUntrue_148 : decode cX9_laysUntrue 148 = .ok (.invokevirtual 424, 3) := by decide +kernel
theorem dX9_laysUntrue_151 : decode cX9_laysUntrue 151 = .ok (.invokestatic 261, 3) := by decide +kernel
theorem dX9_laysUntrue_154 : decode cX9_laysUntrue 154 = .ok (.ifCond .ne 7, 3) := by decide +kernel
theorem dX9_laysUntrue_161 : decode cX9_laysUntrue 161 = .ok (.iconst 0, 1) := by decide +kernel
set_option maxHeartbeats 4000000 in
set_option maxRecDepth 100000 in
theorem s_X9_laysUntrue_c1_3 (l : Launch) (D : va_G) (K : Nat → ClassId) (ad : Nat → Nat) (v ar : sI) (al : sL) (hI : YI v ar) (z_1 : Int) (hz_1 : 0 ≤ z_1 ∧ z_1 ≤ 3) (z_3 : Int) (hz_3 : -2147483648 ≤ z_3 ∧ z_3 ≤ 2147483647) : Met l yX9_laysUntrue (wM yX9_laysUntrue cX9_laysUntrue 10 none) (rmD 1) (va_Pc [.ref (ad 0), .int (iI (z_1)), .int (iI (3)), .int (iI (z_3))] (wPre D K ad (yG ad K) 21 v ar al)) (va_Qv (fun u : sT => YI u.1 u.2.1 ∧ (∀ i j : Nat, (i, j) ∉ ([] : List (Nat × Nat)) → u.1 i j = v i j) ∧ (∀ i : Nat, i ∉ ([19, 20] : List Nat) → u.2.1 i = ar i) ∧ (∀ i : Nat, i ∉ ([] : List Nat) → u.2.2 i = al i)) (wB D ad (yG ad K) 21) (inW ad 21)) 0 0 (inW ad 21) := by
  refine s_metV (by decide) (Nat.le_of_ble_eq_true rfl) ?_
  intro p e s m below meth c ls args Q hE hB hl kr
  have hE : CallFix p m c cX9_laysUntrue 10 s args tbG "TaleCourtModel" := hE
  obtain ⟨hP, hK, hN⟩ := hB
  have hS : va_S (inW ad 21) s.heap s.heap [] := va_S.rf
  have hl : lv_has ls 10 [(0, .ref (ad 0)), (1, .int (iI (z_1))), (2, .int (iI (3))), (3, .int (iI (z_3)))] := hl
  refine lv_iconst (v := iI (1)) hE.1 hE.2.1 dX9_laysUntrue_0 (by decide) ?_
  refine lv_aload_n hE.1 hE.2.1 dX9_laysUntrue_1 rfl (lv_at hl 0 rfl) ?_
  refine x_get (x := .ref (ad 7)) hE hK hP 0 (by decide) (yG_9 rfl) rfl hin9 17 (by decide) mw_1351 rfl dX9_laysUntrue_2 ?_
  refine lv_iconst (v := iI (2)) hE.1 hE.2.1 dX9_laysUntrue_5 (by decide) ?_
  refine x_iald (j := iI (2)) hE hK hP 7 (by decide) (yG_10 rfl) (iI_in (n := 30) (by omega)) dX9_laysUntrue_6 ?_
  obtain ⟨z2, hz2, ez2⟩ := YI_h2 hI 2 (by decide)
  refine x_top (y := iI (z2)) (by rw [show (iI (2)).toNatClampNeg = 2 from by decide]; exact ez2) ?_
  refine lv_ishl hE.1 hE.2.1 dX9_laysUntrue_7 ?_
  obtain ⟨z3, hz3, ez3⟩ := iI_shl9 (a := z2) (by omega)
  refine x_top ez3 ?_
  refine lv_istore (lv' := [(4, .int (iI (z3))), (0, .ref (ad 0)), (1, .int (iI (z_1))), (2, .int (iI (3))), (3, .int (iI (z_3)))]) hE.1 hE.2.1 dX9_laysUntrue_8 hl (by decide) rfl (fun ls hl => ?_)
  refine lv_iconst (v := iI (0)) hE.1 hE.2.1 dX9_laysUntrue_10 (by decide) ?_
  refine lv_istore (lv' := [(5, .int (iI (0))), (4, .int (iI (z3))), (0, .ref (ad 0)), (1, .int (iI (z_1))), (2, .int (iI (3))), (3, .int (iI (z_3)))]) hE.1 hE.2.1 dX9_laysUntrue_11 hl (by decide) rfl (fun ls hl => ?_)
  have loop4 : ∀ (k4 : Nat) (y4_5 : Int) (vl4 arl4 : sI) (all4 : sL) (H : Heap) (locs : List Loc) (ls : Array Slot), (512 - y4_5).toNat = k4 → (0 ≤ y4_5 ∧ y4_5 ≤ 512) → YI vl4 arl4 → (∀ i j : Nat, (i, j) ∉ ([] : List (Nat × Nat)) → vl4 i j = v i j) → (∀ i : Nat, i ∉ ([19] : List Nat) → arl4 i = ar i) → (∀ i : Nat, i ∉ ([] : List Nat) → all4 i = al i) → va_P D xcl (wW ad (yG ad K) 21 vl4 arl4 all4) H → va_S (inW ad 21) s.heap H locs → lv_has ls 10 [(5, .int (iI (y4_5))), (4, .int (iI (z3))), (0, .ref (ad 0)), (1, .int (iI (z_1))), (2, .int (iI (3))), (3, .int (iI (z_3)))] → W p l e (rmD 1) s m args below meth c H locs 0 0 Q (F0 m 13 ls []) := by
    intro k4
    induction k4 using Nat.strongRecOn with
    | _ k4 ih4 =>
      intro y4_5  vl4 arl4 all4 H locs ls hk4 hb_y4_5 hI hfr4 hfa4 hfl4 hP hS hl
      refine lv_iload hE.1 hE.2.1 dX9_laysUntrue_13 (lv_at hl 0 rfl) ?_
      refine lv_iload hE.1 hE.2.1 dX9_laysUntrue_15 (lv_at hl 1 rfl) ?_
      refine s_icmp_ge (a := y4_5) (b := z3) (tgt := 45) hE.1 hE.2.1 (by omega) (by omega) dX9_laysUntrue_17 (by decide) (fun c5 => ?_) (fun c5 => ?_)
      · skip
        refine lv_iconst (v := iI (0)) hE.1 hE.2.1 dX9_laysUntrue_45 (by decide) ?_
        refine lv_istore (lv' := [(5, .int (iI (0))), (4, .int (iI (z3))), (0, .ref (ad 0)), (1, .int (iI (z_1))), (2, .int (iI (3))), (3, .int (iI (z_3)))]) hE.1 hE.2.1 dX9_laysUntrue_46 hl (by decide) rfl (fun ls hl => ?_)
        have loop6 : ∀ (k6 : Nat) (y6_5 : Int) (vl6 arl6 : sI) (all6 : sL) (H : Heap) (locs : List Loc) (ls : Array Slot), (512 - y6_5).toNat = k6 → (0 ≤ y6_5 ∧ y6_5 ≤ 512) → YI vl6 arl6 → (∀ i j : Nat, (i, j) ∉ ([] : List (Nat × Nat)) → vl6 i j = vl4 i j) → (∀ i : Nat, i ∉ ([20] : List Nat) → arl6 i = arl4 i) → (∀ i : Nat, i ∉ ([] : List Nat) → all6 i = all4 i) → va_P D xcl (wW ad (yG ad K) 21 vl6 arl6 all6) H → va_S (inW ad 21) s.heap H locs → lv_has ls 10 [(5, .int (iI (y6_5))), (4, .int (iI (z3))), (0, .ref (ad 0)), (1, .int (iI (z_1))), (2, .int (iI (3))), (3, .int (iI (z_3)))] → W p l e (rmD 1) s m args below meth c H locs 0 0 Q (F0 m 48 ls []) := by
          intro k6
          induction k6 using Nat.strongRecOn with
          | _ k6 ih6 =>
            intro y6_5  vl6 arl6 all6 H locs ls hk6 hb_y6_5 hI hfr6 hfa6 hfl6 hP hS hl
            refine lv_iload hE.1 hE.2.1 dX9_laysUntrue_48 (lv_at hl 0 rfl) ?_
            refine lv_iload hE.1 hE.2.1 dX9_laysUntrue_50 (lv_at hl 1 rfl) ?_
            refine s_icmp_ge (a := y6_5) (b := z3) (tgt := 78) hE.1 hE.2.1 (by omega) (by omega) dX9_laysUntrue_52 (by decide) (fun c7 => ?_) (fun c7 => ?_)
            · skip
              refine lv_iconst (v := iI (0)) hE.1 hE.2.1 dX9_laysUntrue_78 (by decide) ?_
              refine lv_istore (lv' := [(5, .int (iI (0))), (4, .int (iI (z3))), (0, .ref (ad 0)), (1, .int (iI (z_1))), (2, .int (iI (3))), (3, .int (iI (z_3)))]) hE.1 hE.2.1 dX9_laysUntrue_79 hl (by decide) rfl (fun ls hl => ?_)
              have loop8 : ∀ (k8 : Nat) (y8_5 : Int) (vl8 arl8 : sI) (all8 : sL) (H : Heap) (locs : List Loc) (ls : Array Slot), (512 - y8_5).toNat = k8 → (0 ≤ y8_5 ∧ y8_5 ≤ 512) → YI vl8 arl8 → (∀ i j : Nat, (i, j) ∉ ([] : List (Nat × Nat)) → vl8 i j = vl6 i j) → (∀ i : Nat, i ∉ ([19, 20] : List Nat) → arl8 i = arl6 i) → (∀ i : Nat, i ∉ ([] : List Nat) → all8 i = all6 i) → va_P D xcl (wW ad (yG ad K) 21 vl8 arl8 all8) H → va_S (inW ad 21) s.heap H locs → lv_has ls 10 [(5, .int (iI (y8_5))), (4, .int (iI (z3))), (0, .ref (ad 0)), (1, .int (iI (z_1))), (2, .int (iI (3))), (3, .int (iI (z_3)))] → W p l e (rmD 1) s m args below meth c H locs 0 0 Q (F0 m 81 ls []) := by
                intro k8
                induction k8 using Nat.strongRecOn with
                | _ k8 ih8 =>
                  intro y8_5  vl8 arl8 all8 H locs ls hk8 hb_y8_5 hI hfr8 hfa8 hfl8 hP hS hl
                  refine lv_iload hE.1 hE.2.1 dX9_laysUntrue_81 (lv_at hl 0 rfl) ?_
                  refine lv_iload hE.1 hE.2.1 dX9_laysUntrue_83 (lv_at hl 1 rfl) ?_
                  refine s_icmp_ge (a := y8_5) (b := z3) (tgt := 306) hE.1 hE.2.1 (by omega) (by omega) dX9_laysUntrue_85 (by decide) (fun c9 => ?_) (fun c9 => ?_)
                  · skip
                    exact kr vl8 arl8 all8 _ _ _ _ ⟨hI, fun i j h => ((hfr8 i j (fun q => h (mem_sub (by decide) q))).trans ((hfr6 i j (fun q => h (mem_sub (by decide) q))).trans (hfr4 i j (fun q => h (mem_sub (by decide) q))))), fun i h => ((hfa8 i (fun q => h (mem_subn (by decide) q))).trans ((hfa6 i (fun q => h (mem_subn (by decide) q))).trans (hfa4 i (fun q => h (mem_subn (by decide) q))))), fun i h => ((hfl8 i (fun q => h (mem_subn (by decide) q))).trans ((hfl6 i (fun q => h (mem_subn (by decide) q))).trans (hfl4 i (fun q => h (mem_subn (by decide) q)))))⟩ hP hS dX9_laysUntrue_306
                  · skip
                    refine lv_iconst (v := iI (0)) hE.1 hE.2.1 dX9_laysUntrue_88 (by decide) ?_
                    refine lv_istore (lv' := [(6, .int (iI (0))), (5, .int (iI (y8_5))), (4, .int (iI (z3))), (0, .ref (ad 0)), (1, .int (iI (z_1))), (2, .int (iI (3))), (3, .int (iI (z_3)))]) hE.1 hE.2.1 dX9_laysUntrue_89 hl (by decide) rfl (fun ls hl => ?_)
                    have loop10 : ∀ (k10 : Nat) (y10_6 : Int) (vl10 arl10 : sI) (all10 : sL) (H : Heap) (locs : List Loc) (ls : Array Slot), (9 - y10_6).toNat = k10 → (0 ≤ y10_6 ∧ y10_6 ≤ 9) → YI vl10 arl10 → (∀ i j : Nat, (i, j) ∉ ([] : List (Nat × Nat)) → vl10 i j = vl8 i j) → (∀ i : Nat, i ∉ ([19, 20] : List Nat) → arl10 i = arl8 i) → (∀ i : Nat, i ∉ ([] : List Nat) → all10 i = all8 i) → va_P D xcl (wW ad (yG ad K) 21 vl10 arl10 all10) H → va_S (inW ad 21) s.heap H locs → lv_has ls 10 [(6, .int (iI (y10_6))), (5, .int (iI (y8_5))), (4, .int (iI (z3))), (0, .ref (ad 0)), (1, .int (iI (z_1))), (2, .int (iI (3))), (3, .int (iI (z_3)))] → W p l e (rmD 1) s m args below meth c H locs 0 0 Q (F0 m 91 ls []) := by
                      intro k10
                      induction k10 using Nat.strongRecOn with
                      | _ k10 ih10 =>
                        intro y10_6  vl10 arl10 all10 H locs ls hk10 hb_y10_6 hI hfr10 hfa10 hfl10 hP hS hl
                        refine lv_iload hE.1 hE.2.1 dX9_laysUntrue_91 (lv_at hl 0 rfl) ?_
                        refine lv_aload_n hE.1 hE.2.1 dX9_laysUntrue_93 rfl (lv_at hl 3 rfl) ?_
                        refine x_get (x := .ref (ad 7)) hE hK hP 0 (by decide) (yG_9 rfl) rfl hin9 17 (by decide) mw_1351 rfl dX9_laysUntrue_94 ?_
                        refine lv_iconst (v := iI (2)) hE.1 hE.2.1 dX9_laysUntrue_97 (by decide) ?_
                        refine x_iald (j := iI (2)) hE hK hP 7 (by decide) (yG_10 rfl) (iI_in (n := 30) (by omega)) dX9_laysUntrue_98 ?_
                        refine x_top (y := iI (z2)) (by rw [show (iI (2)).toNatClampNeg = 2 from by decide]; exact ((congrFun (hfa10 7 (by decide)) 2).trans ((congrFun (hfa8 7 (by decide)) 2).trans ((congrFun (hfa6 7 (by decide)) 2).trans ((congrFun (hfa4 7 (by decide)) 2).trans ez2))))) ?_
                        refine s_icmp_ge (a := y10_6) (b := z2) (tgt := 300) hE.1 hE.2.1 (by omega) (by omega) dX9_laysUntrue_99 (by decide) (fun c12 => ?_) (fun c12 => ?_)
                        · skip
                          refine lv_iinc (v := iI (y8_5 + 1)) (lv' := [(5, .int (iI (y8_5 + 1))), (6, .int (iI (y10_6))), (4, .int (iI (z3))), (0, .ref (ad 0)), (1, .int (iI (z_1))), (2, .int (iI (3))), (3, .int (iI (z_3)))]) hE.1 hE.2.1 dX9_laysUntrue_300 hl (k := 1) rfl ((iI_add (y8_5) (1)).trans (congrArg iI (by omega))) (by decide) rfl (fun ls hl => ?_)
                          refine lv_goto (tgt := 81) hE.1 hE.2.1 dX9_laysUntrue_303 (by decide) ?_
                          exact ih8 _ (by omega) (y8_5 + 1)  vl10 arl10 all10 _ _ _ rfl (by omega)  hI (fun i j h => ((hfr10 i j (fun q => h (mem_sub (by decide) q))).trans (hfr8 i j h))) (fun i h => ((hfa10 i (fun q => h (mem_subn (by decide) q))).trans (hfa8 i h))) (fun i h => ((hfl10 i (fun q => h (mem_subn (by decide) q))).trans (hfl8 i h))) hP hS (lv_sub hl [0, 2, 3, 4, 5, 6] rfl)
                        · skip
                          refine lv_iload hE.1 hE.2.1 dX9_laysUntrue_102 (lv_at hl 1 rfl) ?_
                          refine lv_iload hE.1 hE.2.1 dX9_laysUntrue_104 (lv_at hl 0 rfl) ?_
                          refine x_sp (nn := 2) (As := [.int (iI (y8_5)), .int (iI (y10_6))]) (rest := []) hE (s_X9_isBit l (y8_5) (by omega) (y10_6) (by omega)) tt_blind (fun _ _ _ => trivial) rfl mw_1683 mw_1684 mw_123 mw_1685 (by decide +kernel) ⟨by decide, by decide⟩ hl.1 rfl (Nat.le_of_ble_eq_true rfl) ⟨Nat.zero_le _, Nat.zero_le _⟩ dX9_laysUntrue_106 (fun r13 hr13 => ?_)
                          obtain ⟨z13, hz13, rfl⟩ := hr13
                          refine s_if_eq (a := z13) (tgt := 115) hE.1 hE.2.1 (by omega) dX9_laysUntrue_109 (by decide) (fun c14 => ?_) (fun c14 => ?_)
                          · skip
                            refine lv_aload_n hE.1 hE.2.1 dX9_laysUntrue_115 rfl (lv_at hl 3 rfl) ?_
                            refine x_get (x := .ref (ad 19)) hE hK hP 0 (by decide) (yG_9 rfl) rfl hin9 47 (by decide) mw_1381 rfl dX9_laysUntrue_116 ?_
                            refine lv_iload hE.1 hE.2.1 dX9_laysUntrue_119 (lv_at hl 1 rfl) ?_
                            refine x_iald (j := iI (y8_5)) hE hK hP 19 (by decide) (yG_10 rfl) (iI_in (n := 512) (by omega)) dX9_laysUntrue_121 ?_
                            obtain ⟨z16, hz16, ez16⟩ := iI_of (arl10 19 (iI (y8_5)).toNatClampNeg)
                            refine x_top ez16 ?_
                            refine lv_istore (lv' := [(7, .int (iI (z16))), (6, .int (iI (y10_6))), (5, .int (iI (y8_5))), (4, .int (iI (z3))), (0, .ref (ad 0)), (1, .int (iI (z_1))), (2, .int (iI (3))), (3, .int (iI (z_3)))]) hE.1 hE.2.1 dX9_laysUntrue_122 hl (by decide) rfl (fun ls hl => ?_)
                            refine lv_iconst (v := iI (0)) hE.1 hE.2.1 dX9_laysUntrue_124 (by decide) ?_
                            refine lv_istore (lv' := [(8, .int (iI (0))), (7, .int (iI (z16))), (6, .int (iI (y10_6))), (5, .int (iI (y8_5))), (4, .int (iI (z3))), (0, .ref (ad 0)), (1, .int (iI (z_1))), (2, .int (iI (3))), (3, .int (iI (z_3)))]) hE.1 hE.2.1 dX9_laysUntrue_125 hl (by decide) rfl (fun ls hl => ?_)
                            have loop17 : ∀ (k17 : Nat) (y17_8 : Int) (y17_7 : Int) (vl17 : sI) (all17 : sL) (H : Heap) (locs : List Loc) (ls : Array Slot), (60 - y17_8).toNat = k17 → (0 ≤ y17_8 ∧ y17_8 ≤ 62 ∧ y17_8 % 3 = 0) → (-2147483648 ≤ y17_7 ∧ y17_7 ≤ 2147483647) → YI vl17 arl10 → (∀ i j : Nat, (i, j) ∉ ([] : List (Nat × Nat)) → vl17 i j = vl10 i j) → (∀ i : Nat, i ∉ ([] : List Nat) → all17 i = all10 i) → va_P D xcl (wW ad (yG ad K) 21 vl17 arl10 all17) H → va_S (inW ad 21) s.heap H locs → lv_has ls 10 [(8, .int (iI (y17_8))), (7, .int (iI (y17_7))), (6, .int (iI (y10_6))), (5, .int (iI (y8_5))), (4, .int (iI (z3))), (0, .ref (ad 0)), (1, .int (iI (z_1))), (2, .int (iI (3))), (3, .int (iI (z_3)))] → W p l e (rmD 1) s m args below meth c H locs 0 0 Q (F0 m 127 ls []) := by
                              intro k17
                              induction k17 using Nat.strongRecOn with
                              | _ k17 ih17 =>
                                intro y17_8 y17_7  vl17 all17 H locs ls hk17 hb_y17_8 hb_y17_7 hI hfr17 hfl17 hP hS hl
                                refine lv_iload hE.1 hE.2.1 dX9_laysUntrue_127 (lv_at hl 0 rfl) ?_
                                refine lv_aload_n hE.1 hE.2.1 dX9_laysUntrue_129 rfl (lv_at hl 5 rfl) ?_
                                refine x_get (x := .ref (ad 2)) hE hK hP 0 (by decide) (yG_9 rfl) rfl hin9 2 (by decide) mw_1336 rfl dX9_laysUntrue_130 ?_
                                refine lv_iload_n hE.1 hE.2.1 dX9_laysUntrue_133 rfl (lv_at hl 6 rfl) ?_
                                refine x_iald (j := iI (z_1)) hE hK hP 2 (by decide) (yG_10 rfl) (iI_in (n := 4) (by omega)) dX9_laysUntrue_134 ?_
                                obtain ⟨z19, hz19, ez19⟩ := YI_a2 hI ((iI (z_1)).toNatClampNeg)
                                refine x_top ez19 ?_
                                refine s_icmp_ge (a := y17_8) (b := z19) (tgt := 223) hE.1 hE.2.1 (by omega) (by omega) dX9_laysUntrue_135 (by decide) (fun c20 => ?_) (fun c20 => ?_)
                                · skip
                                  refine lv_iload hE.1 hE.2.1 dX9_laysUntrue_223 (lv_at hl 3 rfl) ?_
                                  refine lv_iconst (v := iI (1)) hE.1 hE.2.1 dX9_laysUntrue_225 (by decide) ?_
                                  refine lv_iload hE.1 hE.2.1 dX9_laysUntrue_226 (lv_at hl 2 rfl) ?_
                                  refine lv_ishl hE.1 hE.2.1 dX9_laysUntrue_228 ?_
                                  obtain ⟨z21, hz21, ez21⟩ := iI_shl8 (a := y10_6) (by omega)
                                  refine x_top ez21 ?_
                                  refine lv_ior hE.1 hE.2.1 dX9_laysUntrue_229 ?_
                                  obtain ⟨z22, hz22, ez22⟩ := iI_or9 (a := y8_5) (b := z21) (by omega) (by omega)
                                  refine x_top ez22 ?_
                                  refine lv_istore (lv' := [(8, .int (iI (z22))), (7, .int (iI (y17_7))), (6, .int (iI (y10_6))), (5, .int (iI (y8_5))), (4, .int (iI (z3))), (0, .ref (ad 0)), (1, .int (iI (z_1))), (2, .int (iI (3))), (3, .int (iI (z_3)))]) hE.1 hE.2.1 dX9_laysUntrue_230 hl (by decide) rfl (fun ls hl => ?_)
                                  refine lv_iload hE.1 hE.2.1 dX9_laysUntrue_232 (lv_at hl 1 rfl) ?_
                                  refine lv_aload_n hE.1 hE.2.1 dX9_laysUntrue_234 rfl (lv_at hl 5 rfl) ?_
                                  refine x_get (x := .ref (ad 19)) hE hK hP 0 (by decide) (yG_9 rfl) rfl hin9 47 (by decide) mw_1381 rfl dX9_laysUntrue_235 ?_
                                  refine lv_iload hE.1 hE.2.1 dX9_laysUntrue_238 (lv_at hl 0 rfl) ?_
                                  refine x_iald (j := iI (z22)) hE hK hP 19 (by decide) (yG_10 rfl) (iI_in (n := 512) (by omega)) dX9_laysUntrue_240 ?_
                                  obtain ⟨z24, hz24, ez24⟩ := iI_of (arl10 19 (iI (z22)).toNatClampNeg)
                                  refine x_top ez24 ?_
                                  refine s_icmp_ge (a := y17_7) (b := z24) (tgt := 261) hE.1 hE.2.1 (by omega) (by omega) dX9_laysUntrue_241 (by decide) (fun c25 => ?_) (fun c25 => ?_)
                                  · skip
                                    refine lv_aload_n hE.1 hE.2.1 dX9_laysUntrue_261 rfl (lv_at hl 5 rfl) ?_
                                    refine x_get (x := .ref (ad 20)) hE hK hP 0 (by decide) (yG_9 rfl) rfl hin9 48 (by decide) mw_1382 rfl dX9_laysUntrue_262 ?_
                                    refine lv_iload hE.1 hE.2.1 dX9_laysUntrue_265 (lv_at hl 0 rfl) ?_
                                    refine lv_dup2_11 hE.1 hE.2.1 dX9_laysUntrue_267 rfl rfl ?_
                                    refine x_iald (j := iI (z22)) hE hK hP 20 (by decide) (yG_10 rfl) (iI_in (n := 512) (by omega)) dX9_laysUntrue_268 ?_
                                    obtain ⟨z27, hz27, ez27⟩ := iI_of (arl10 20 (iI (z22)).toNatClampNeg)
                                    refine x_top ez27 ?_
                                    refine lv_iload hE.1 hE.2.1 dX9_laysUntrue_269 (lv_at hl 1 rfl) ?_
                                    refine lv_aload_n hE.1 hE.2.1 dX9_laysUntrue_271 rfl (lv_at hl 5 rfl) ?_
                                    refine x_get (x := .ref (ad 19)) hE hK hP 0 (by decide) (yG_9 rfl) rfl hin9 47 (by decide) mw_1381 rfl dX9_laysUntrue_272 ?_
                                    refine lv_iload hE.1 hE.2.1 dX9_laysUntrue_275 (lv_at hl 0 rfl) ?_
                                    refine x_iald (j := iI (z22)) hE hK hP 19 (by decide) (yG_10 rfl) (iI_in (n := 512) (by omega)) dX9_laysUntrue_277 ?_
                                    refine x_top ez24 ?_
                                    refine s_icmp_ne (a := y17_7) (b := z24) (tgt := 291) hE.1 hE.2.1 (by omega) (by omega) dX9_laysUntrue_278 (by decide) (fun c29 => ?_) (fun c29 => ?_)
                                    · skip
                                      refine lv_iconst (v := iI (0)) hE.1 hE.2.1 dX9_laysUntrue_291 (by decide) ?_
                                      refine lv_iadd hE.1 hE.2.1 dX9_laysUntrue_292 ?_
                                      refine x_top (y := iI (z27)) ((iI_add (z27) (0)).trans (congrArg iI (by omega))) ?_
                                      refine x_iast (j := iI (z22)) hE hK hN hP hS 20 (by decide) (fun _ => yG_10 rfl) (iI_in (n := 512) (by omega)) dX9_laysUntrue_293 (fun ar30 H locs ha30 hP hS => ?_)
                                      have hI := YI_ast hI ha30 (by decide)
                                      refine lv_iinc (v := iI (y10_6 + 1)) (lv' := [(6, .int (iI (y10_6 + 1))), (8, .int (iI (z22))), (7, .int (iI (y17_7))), (5, .int (iI (y8_5))), (4, .int (iI (z3))), (0, .ref (ad 0)), (1, .int (iI (z_1))), (2, .int (iI (3))), (3, .int (iI (z_3)))]) hE.1 hE.2.1 dX9_laysUntrue_294 hl (k := 2) rfl ((iI_add (y10_6) (1)).trans (congrArg iI (by omega))) (by decide) rfl (fun ls hl => ?_)
                                      refine lv_goto (tgt := 91) hE.1 hE.2.1 dX9_laysUntrue_297 (by decide) ?_
                                      exact ih10 _ (by omega) (y10_6 + 1)  vl17 ar30 all17 _ _ _ rfl (by omega)  hI (fun i j h => ((hfr17 i j (fun q => h (mem_sub (by decide) q))).trans (hfr10 i j h))) (fun i h => ((upx_ne ha30 i (fun q => h (by rw [q]; decide))).trans (hfa10 i h))) (fun i h => ((hfl17 i (fun q => h (mem_subn (by decide) q))).trans (hfl10 i h))) hP hS (lv_sub hl [0, 3, 4, 5, 6, 7, 8] rfl)
                                    · skip
                                      refine lv_aload_n hE.1 hE.2.1 dX9_laysUntrue_281 rfl (lv_at hl 5 rfl) ?_
                                      refine x_get (x := .ref (ad 20)) hE hK hP 0 (by decide) (yG_9 rfl) rfl hin9 48 (by decide) mw_1382 rfl dX9_laysUntrue_282 ?_
                                      refine lv_iload hE.1 hE.2.1 dX9_laysUntrue_285 (lv_at hl 3 rfl) ?_
                                      refine x_iald (j := iI (y8_5)) hE hK hP 20 (by decide) (yG_10 rfl) (iI_in (n := 512) (by omega)) dX9_laysUntrue_287 ?_
                                      obtain ⟨z32, hz32, ez32⟩ := iI_of (arl10 20 (iI (y8_5)).toNatClampNeg)
                                      refine x_top ez32 ?_
                                      refine lv_goto (tgt := 292) hE.1 hE.2.1 dX9_laysUntrue_288 (by decide) ?_
                                      refine lv_iadd hE.1 hE.2.1 dX9_laysUntrue_292 ?_
                                      obtain ⟨z33, hz33, ez33⟩ := iI_of (iI (z27) + iI (z32))
                                      refine x_top ez33 ?_
                                      refine x_iast (j := iI (z22)) hE hK hN hP hS 20 (by decide) (fun _ => yG_10 rfl) (iI_in (n := 512) (by omega)) dX9_laysUntrue_293 (fun ar34 H locs ha34 hP hS => ?_)
                                      have hI := YI_ast hI ha34 (by decide)
                                      refine lv_iinc (v := iI (y10_6 + 1)) (lv' := [(6, .int (iI (y10_6 + 1))), (8, .int (iI (z22))), (7, .int (iI (y17_7))), (5, .int (iI (y8_5))), (4, .int (iI (z3))), (0, .ref (ad 0)), (1, .int (iI (z_1))), (2, .int (iI (3))), (3, .int (iI (z_3)))]) hE.1 hE.2.1 dX9_laysUntrue_294 hl (k := 2) rfl ((iI_add (y10_6) (1)).trans (congrArg iI (by omega))) (by decide) rfl (fun ls hl => ?_)
                                      refine lv_goto (tgt := 91) hE.1 hE.2.1 dX9_laysUntrue_297 (by decide) ?_
                                      exact ih10 _ (by omega) (y10_6 + 1)  vl17 ar34 all17 _ _ _ rfl (by omega)  hI (fun i j h => ((hfr17 i j (fun q => h (mem_sub (by decide) q))).trans (hfr10 i j h))) (fun i h => ((upx_ne ha34 i (fun q => h (by rw [q]; decide))).trans (hfa10 i h))) (fun i h => ((hfl17 i (fun q => h (mem_subn (by decide) q))).trans (hfl10 i h))) hP hS (lv_sub hl [0, 3, 4, 5, 6, 7, 8] rfl)
                                  · skip
                                    refine lv_aload_n hE.1 hE.2.1 dX9_laysUntrue_244 rfl (lv_at hl 5 rfl) ?_
                                    refine x_get (x := .ref (ad 19)) hE hK hP 0 (by decide) (yG_9 rfl) rfl hin9 47 (by decide) mw_1381 rfl dX9_laysUntrue_245 ?_
                                    refine lv_iload hE.1 hE.2.1 dX9_laysUntrue_248 (lv_at hl 0 rfl) ?_
                                    refine lv_iload hE.1 hE.2.1 dX9_laysUntrue_250 (lv_at hl 1 rfl) ?_
                                    refine x_iast (j := iI (z22)) hE hK hN hP hS 19 (by decide) (fun _ => yG_10 rfl) (iI_in (n := 512) (by omega)) dX9_laysUntrue_252 (fun ar35 H locs ha35 hP hS => ?_)
                                    have hI := YI_ast hI ha35 (by decide)
                                    refine lv_aload_n hE.1 hE.2.1 dX9_laysUntrue_253 rfl (lv_at hl 5 rfl) ?_
                                    refine x_get (x := .ref (ad 20)) hE hK hP 0 (by decide) (yG_9 rfl) rfl hin9 48 (by decide) mw_1382 rfl dX9_laysUntrue_254 ?_
                                    refine lv_iload hE.1 hE.2.1 dX9_laysUntrue_257 (lv_at hl 0 rfl) ?_
                                    refine lv_iconst (v := iI (0)) hE.1 hE.2.1 dX9_laysUntrue_259 (by decide) ?_
                                    refine x_iast (j := iI (z22)) hE hK hN hP hS 20 (by decide) (fun _ => yG_10 rfl) (iI_in (n := 512) (by omega)) dX9_laysUntrue_260 (fun ar36 H locs ha36 hP hS => ?_)
                                    have hI := YI_ast hI ha36 (by decide)
                                    refine lv_aload_n hE.1 hE.2.1 dX9_laysUntrue_261 rfl (lv_at hl 5 rfl) ?_
                                    refine x_get (x := .ref (ad 20)) hE hK hP 0 (by decide) (yG_9 rfl) rfl hin9 48 (by decide) mw_1382 rfl dX9_laysUntrue_262 ?_
                                    refine lv_iload hE.1 hE.2.1 dX9_laysUntrue_265 (lv_at hl 0 rfl) ?_
                                    refine lv_dup2_11 hE.1 hE.2.1 dX9_laysUntrue_267 rfl rfl ?_
                                    refine x_iald (j := iI (z22)) hE hK hP 20 (by decide) (yG_10 rfl) (iI_in (n := 512) (by omega)) dX9_laysUntrue_268 ?_
                                    obtain ⟨z38, hz38, ez38⟩ := iI_of (ar36 20 (iI (z22)).toNatClampNeg)
                                    refine x_top ez38 ?_
                                    refine lv_iload hE.1 hE.2.1 dX9_laysUntrue_269 (lv_at hl 1 rfl) ?_
                                    refine lv_aload_n hE.1 hE.2.1 dX9_laysUntrue_271 rfl (lv_at hl 5 rfl) ?_
                                    refine x_get (x := .ref (ad 19)) hE hK hP 0 (by decide) (yG_9 rfl) rfl hin9 47 (by decide) mw_1381 rfl dX9_laysUntrue_272 ?_
                                    refine lv_iload hE.1 hE.2.1 dX9_laysUntrue_275 (lv_at hl 0 rfl) ?_
                                    refine x_iald (j := iI (z22)) hE hK hP 19 (by decide) (yG_10 rfl) (iI_in (n := 512) (by omega)) dX9_laysUntrue_277 ?_
                                    obtain ⟨z40, hz40, ez40⟩ := iI_of (ar36 19 (iI (z22)).toNatClampNeg)
                                    refine x_top ez40 ?_
                                    refine s_icmp_ne (a := y17_7) (b := z40) (tgt := 291) hE.1 hE.2.1 (by omega) (by omega) dX9_laysUntrue_278 (by decide) (fun c41 => ?_) (fun c41 => ?_)
                                    · skip
                                      refine lv_iconst (v := iI (0)) hE.1 hE.2.1 dX9_laysUntrue_291 (by decide) ?_
                                      refine lv_iadd hE.1 hE.2.1 dX9_laysUntrue_292 ?_
                                      refine x_top (y := iI (z38)) ((iI_add (z38) (0)).trans (congrArg iI (by omega))) ?_
                                      refine x_iast (j := iI (z22)) hE hK hN hP hS 20 (by decide) (fun _ => yG_10 rfl) (iI_in (n := 512) (by omega)) dX9_laysUntrue_293 (fun ar42 H locs ha42 hP hS => ?_)
                                      have hI := YI_ast hI ha42 (by decide)
                                      refine lv_iinc (v := iI (y10_6 + 1)) (lv' := [(6, .int (iI (y10_6 + 1))), (8, .int (iI (z22))), (7, .int (iI (y17_7))), (5, .int (iI (y8_5))), (4, .int (iI (z3))), (0, .ref (ad 0)), (1, .int (iI (z_1))), (2, .int (iI (3))), (3, .int (iI (z_3)))]) hE.1 hE.2.1 dX9_laysUntrue_294 hl (k := 2) rfl ((iI_add (y10_6) (1)).trans (congrArg iI (by omega))) (by decide) rfl (fun ls hl => ?_)
                                      refine lv_goto (tgt := 91) hE.1 hE.2.1 dX9_laysUntrue_297 (by decide) ?_
                                      exact ih10 _ (by omega) (y10_6 + 1)  vl17 ar42 all17 _ _ _ rfl (by omega)  hI (fun i j h => ((hfr17 i j (fun q => h (mem_sub (by decide) q))).trans (hfr10 i j h))) (fun i h => (((upx_ne ha42 i (fun q => h (by rw [q]; decide))).trans ((upx_ne ha36 i (fun q => h (by rw [q]; decide))).trans (upx_ne ha35 i (fun q => h (by rw [q]; decide))))).trans (hfa10 i h))) (fun i h => ((hfl17 i (fun q => h (mem_subn (by decide) q))).trans (hfl10 i h))) hP hS (lv_sub hl [0, 3, 4, 5, 6, 7, 8] rfl)
                                    · skip
                                      refine lv_aload_n hE.1 hE.2.1 dX9_laysUntrue_281 rfl (lv_at hl 5 rfl) ?_
                                      refine x_get (x := .ref (ad 20)) hE hK hP 0 (by decide) (yG_9 rfl) rfl hin9 48 (by decide) mw_1382 rfl dX9_laysUntrue_282 ?_
                                      refine lv_iload hE.1 hE.2.1 dX9_laysUntrue_285 (lv_at hl 3 rfl) ?_
                                      refine x_iald (j := iI (y8_5)) hE hK hP 20 (by decide) (yG_10 rfl) (iI_in (n := 512) (by omega)) dX9_laysUntrue_287 ?_
                                      obtain ⟨z44, hz44, ez44⟩ := iI_of (ar36 20 (iI (y8_5)).toNatClampNeg)
                                      refine x_top ez44 ?_
                                      refine lv_goto (tgt := 292) hE.1 hE.2.1 dX9_laysUntrue_288 (by decide) ?_
                                      refine lv_iadd hE.1 hE.2.1 dX9_laysUntrue_292 ?_
                                      obtain ⟨z45, hz45, ez45⟩ := iI_of (iI (z38) + iI (z44))
                                      refine x_top ez45 ?_
                                      refine x_iast (j := iI (z22)) hE hK hN hP hS 20 (by decide) (fun _ => yG_10 rfl) (iI_in (n := 512) (by omega)) dX9_laysUntrue_293 (fun ar46 H locs ha46 hP hS => ?_)
                                      have hI := YI_ast hI ha46 (by decide)
                                      refine lv_iinc (v := iI (y10_6 + 1)) (lv' := [(6, .int (iI (y10_6 + 1))), (8, .int (iI (z22))), (7, .int (iI (y17_7))), (5, .int (iI (y8_5))), (4, .int (iI (z3))), (0, .ref (ad 0)), (1, .int (iI (z_1))), (2, .int (iI (3))), (3, .int (iI (z_3)))]) hE.1 hE.2.1 dX9_laysUntrue_294 hl (k := 2) rfl ((iI_add (y10_6) (1)).trans (congrArg iI (by omega))) (by decide) rfl (fun ls hl => ?_)
                                      refine lv_goto (tgt := 91) hE.1 hE.2.1 dX9_laysUntrue_297 (by decide) ?_
                                      exact ih10 _ (by omega) (y10_6 + 1)  vl17 ar46 all17 _ _ _ rfl (by omega)  hI (fun i j h => ((hfr17 i j (fun q => h (mem_sub (by decide) q))).trans (hfr10 i j h))) (fun i h => (((upx_ne ha46 i (fun q => h (by rw [q]; decide))).trans ((upx_ne ha36 i (fun q => h (by rw [q]; decide))).trans (upx_ne ha35 i (fun q => h (by rw [q]; decide))))).trans (hfa10 i h))) (fun i h => ((hfl17 i (fun q => h (mem_subn (by decide) q))).trans (hfl10 i h))) hP hS (lv_sub hl [0, 3, 4, 5, 6, 7, 8] rfl)
                                · skip
                                  refine lv_iload_n hE.1 hE.2.1 dX9_laysUntrue_138 rfl (lv_at hl 7 rfl) ?_
                                  refine lv_iconst (v := iI (2)) hE.1 hE.2.1 dX9_laysUntrue_139 (by decide) ?_
                                  refine s_icmp_eq (a := 3) (b := 2) (tgt := 157) hE.1 hE.2.1 (by omega) (by omega) dX9_laysUntrue_140 (by decide) (fun c47 => False.elim (by omega)) (fun _ => ?_)
                                  refine lv_iload_n hE.1 hE.2.1 dX9_laysUntrue_143 rfl (lv_at hl 8 rfl) ?_
                                  refine lv_aload_n hE.1 hE.2.1 dX9_laysUntrue_144 rfl (lv_at hl 5 rfl) ?_
                                  refine lv_iload_n hE.1 hE.2.1 dX9_laysUntrue_145 rfl (lv_at hl 6 rfl) ?_
                                  refine lv_iload hE.1 hE.2.1 dX9_laysUntrue_146 (lv_at hl 0 rfl) ?_
                                  refine x_vp (nn := 2) (As := [.int (iI (z_1)), .int (iI (y17_8))]) (rest := [.int (iI (z_3))]) hE (s_X9_cellOf l D K ad vl17 arl10 all17 hI  (z_1) (by omega) (y17_8) (by omega)) wPre_blind (wPre_now hK hN hP) (x_recv hK hP 0 (by decide) (yG_9 rfl) rfl) rfl mw_1814 mw_1816 mw_89 mw_123 mw_1817 (by decide +kernel) ⟨by decide, by decide⟩ hl.1 rfl (Nat.le_of_ble_eq_true rfl) ⟨Nat.zero_le _, Nat.zero_le _⟩ dX9_laysUntrue_148 (fun r48 hr48 => ?_)
                                  obtain ⟨z48, hz48, rfl⟩ := hr48
                                  refine x_sp (nn := 2) (As := [.int (iI (z_3)), .int (iI (z48))]) (rest := []) hE (s_X9_isBit l (z_3) (by omega) (z48) (by omega)) tt_blind (fun _ _ _ => trivial) rfl mw_1683 mw_1684 mw_123 mw_1685 (by decide +kernel) ⟨by decide, by decide⟩ hl.1 rfl (Nat.le_of_ble_eq_true rfl) ⟨Nat.zero_le _, Nat.zero_le _⟩ dX9_laysUntrue_151 (fun r49 hr49 => ?_)
                                  obtain ⟨z49, hz49, rfl⟩ := hr49
                                  refine s_if_ne (a := z49) (tgt := 161) hE.1 hE.2.1 (by omega) dX9_laysUntrue_154 (by decide) (fun c50 => ?_) (fun c50 => ?_)
                                  · skip
                                    refine lv_iconst (v := iI (0)) hE.1 hE.2.1 dX9_laysUntrue_161 (by decide) ?_
                                    refine lv_istore (lv' := [(9, .int (iI (0))), (8, .int (iI (y17_8))), (7, .int (iI (y17_7))), (6, .int (iI (y10_6))), (5, .int (iI (y8_5))), (4, .int (iI (z3))), (0, .ref (ad 0)), (1, .int (iI (z_1))), (2, .int (iI (3))), (3, .int (iI (z_3)))]) hE.1 hE.2.1 dX9_laysUntrue_162 hl (by decide) rfl (fun ls hl => ?_)
                                    refine lv_iload hE.1 hE.2.1 dX9_laysUntrue_164 (lv_at hl 2 rfl) ?_
                                    refine lv_iload hE.1 hE.2.1 dX9_laysUntrue_166 (lv_at hl 0 rfl) ?_
                                    refine s_if_eq (a := 0) (tgt := 210) hE.1 hE.2.1 (by omega) dX9_laysUntrue_168 (by decide) (fun _ => ?_) (fun c51 => False.elim (by omega))
                                    refine lv_iconst (v := iI (0)) hE.1 hE.2.1 dX9_laysUntrue_210 (by decide) ?_
                                    refine lv_iadd hE.1 hE.2.1 dX9_laysUntrue_211 ?_
                                    refine x_top (y := iI (y17_7)) ((iI_add (y17_7) (0)).trans (congrArg iI (by omega))) ?_
                                    refine lv_istore (lv' := [(7, .int (iI (y17_7))), (9, .int (iI (0))), (8, .int (iI (y17_8))), (6, .int (iI (y10_6))), (5, .int (iI (y8_5))), (4, .int (iI (z3))), (0, .ref (ad 0)), (1, .int (iI (z_1))), (2, .int (iI (3))), (3, .int (iI (z_3)))]) hE.1 hE.2.1 dX9_laysUntrue_212 hl (by decide) rfl (fun ls hl => ?_)
                                    refine lv_iload hE.1 hE.2.1 dX9_laysUntrue_214 (lv_at hl 2 rfl) ?_
                                    refine lv_iload_n hE.1 hE.2.1 dX9_laysUntrue_216 rfl (lv_at hl 8 rfl) ?_
                                    refine lv_iadd hE.1 hE.2.1 dX9_laysUntrue_217 ?_
                                    refine x_top (y := iI (y17_8 + 3)) ((iI_add (y17_8) (3)).trans (congrArg iI (by omega))) ?_
                                    refine lv_istore (lv' := [(8, .int (iI (y17_8 + 3))), (7, .int (iI (y17_7))), (9, .int (iI (0))), (6, .int (iI (y10_6))), (5, .int (iI (y8_5))), (4, .int (iI (z3))), (0, .ref (ad 0)), (1, .int (iI (z_1))), (2, .int (iI (3))), (3, .int (iI (z_3)))]) hE.1 hE.2.1 dX9_laysUntrue_218 hl (by decide) rfl (fun ls hl => ?_)
                                    refine lv_goto (tgt := 127) hE.1 hE.2.1 dX9_laysUntrue_220 (by decide) ?_
                                    exact ih17 _ (by omega) (y17_8 + 3) (y17_7)  vl17  all17 _ _ _ rfl (by omega) (by omega)  hI (fun i j h => (hfr17 i j h)) (fun i h => (hfl17 i h)) hP hS (lv_sub hl [0, 1, 3, 4, 5, 6, 7, 8, 9] rfl)
                                  · skip
                                    refine lv_iconst (v := iI (1)) hE.1 hE.2.1 dX9_laysUntrue_157 (by decide) ?_
                                    refine lv_goto (tgt := 162) hE.1 hE.2.1 dX9_laysUntrue_158 (by decide) ?_
                                    refine lv_istore (lv' := [(9, .int (iI (1))), (8, .int (iI (y17_8))), (7, .int (iI (y17_7))), (6, .int (iI (y10_6))), (5, .int (iI (y8_5))), (4, .int (iI (z3))), (0, .ref (ad 0)), (1, .int (iI (z_1))), (2, .int (iI (3))), (3, .int (iI (z_3)))]) hE.1 hE.2.1 dX9_laysUntrue_162 hl (by decide) rfl (fun ls hl => ?_)
                                    refine lv_iload hE.1 hE.2.1 dX9_laysUntrue_164 (lv_at hl 2 rfl) ?_
                                    refine lv_iload hE.1 hE.2.1 dX9_laysUntrue_166 (lv_at hl 0 rfl) ?_
                                    refine s_if_eq (a := 1) (tgt := 210) hE.1 hE.2.1 (by omega) dX9_laysUntrue_168 (by decide) (fun c52 => False.elim (by omega)) (fun _ => ?_)
                                    refine lv_aload_n hE.1 hE.2.1 dX9_laysUntrue_171 rfl (lv_at hl 6 rfl) ?_
                                    refine lv_iload_n hE.1 hE.2.1 dX9_laysUntrue_172 rfl (lv_at hl 7 rfl) ?_
                                    refine lv_iload hE.1 hE.2.1 dX9_laysUntrue_173 (lv_at hl 1 rfl) ?_
                                    refine lv_iload_n hE.1 hE.2.1 dX9_laysUntrue_175 rfl (lv_at hl 8 rfl) ?_
                                    refine lv_iadd hE.1 hE.2.1 dX9_laysUntrue_176 ?_
                                    refine x_top (y := iI (y17_8 + 3)) ((iI_add (y17_8) (3)).trans (congrArg iI (by omega))) ?_
                                    refine lv_iconst (v := iI (2)) hE.1 hE.2.1 dX9_laysUntrue_177 (by decide) ?_
                                    refine lv_isub hE.1 hE.2.1 dX9_laysUntrue_178 ?_
                                    refine x_top (y := iI (y17_8 + 1)) ((iI_sub (y17_8 + 3) (2)).trans (congrArg iI (by omega))) ?_
                                    refine x_vp (nn := 2) (As := [.int (iI (z_1)), .int (iI (y17_8 + 1))]) (rest := [.int (iI (y17_7))]) hE (s_X9_cellOf l D K ad vl17 arl10 all17 hI  (z_1) (by omega) (y17_8 + 1) (by omega)) wPre_blind (wPre_now hK hN hP) (x_recv hK hP 0 (by decide) (yG_9 rfl) rfl) rfl mw_1814 mw_1816 mw_89 mw_123 mw_1817 (by decide +kernel) ⟨by decide, by decide⟩ hl.1 rfl (Nat.le_of_ble_eq_true rfl) ⟨Nat.zero_le _, Nat.zero_le _⟩ dX9_laysUntrue_179 (fun r53 hr53 => ?_)
                                    obtain ⟨z53, hz53, rfl⟩ := hr53
                                    refine lv_iload hE.1 hE.2.1 dX9_laysUntrue_182 (lv_at hl 3 rfl) ?_
                                    refine s_icmp_ne (a := z53) (b := y10_6) (tgt := 210) hE.1 hE.2.1 (by omega) (by omega) dX9_laysUntrue_184 (by decide) (fun c54 => ?_) (fun c54 => ?_)
                                    · skip
                                      refine lv_iconst (v := iI (0)) hE.1 hE.2.1 dX9_laysUntrue_210 (by decide) ?_
                                      refine lv_iadd hE.1 hE.2.1 dX9_laysUntrue_211 ?_
                                      refine x_top (y := iI (y17_7)) ((iI_add (y17_7) (0)).trans (congrArg iI (by omega))) ?_
                                      refine lv_istore (lv' := [(7, .int (iI (y17_7))), (9, .int (iI (1))), (8, .int (iI (y17_8))), (6, .int (iI (y10_6))), (5, .int (iI (y8_5))), (4, .int (iI (z3))), (0, .ref (ad 0)), (1, .int (iI (z_1))), (2, .int (iI (3))), (3, .int (iI (z_3)))]) hE.1 hE.2.1 dX9_laysUntrue_212 hl (by decide) rfl (fun ls hl => ?_)
                                      refine lv_iload hE.1 hE.2.1 dX9_laysUntrue_214 (lv_at hl 2 rfl) ?_
                                      refine lv_iload_n hE.1 hE.2.1 dX9_laysUntrue_216 rfl (lv_at hl 8 rfl) ?_
                                      refine lv_iadd hE.1 hE.2.1 dX9_laysUntrue_217 ?_
                                      refine x_top (y := iI (y17_8 + 3)) ((iI_add (y17_8) (3)).trans (congrArg iI (by omega))) ?_
                                      refine lv_istore (lv' := [(8, .int (iI (y17_8 + 3))), (7, .int (iI (y17_7))), (9, .int (iI (1))), (6, .int (iI (y10_6))), (5, .int (iI (y8_5))), (4, .int (iI (z3))), (0, .ref (ad 0)), (1, .int (iI (z_1))), (2, .int (iI (3))), (3, .int (iI (z_3)))]) hE.1 hE.2.1 dX9_laysUntrue_218 hl (by decide) rfl (fun ls hl => ?_)
                                      refine lv_goto (tgt := 127) hE.1 hE.2.1 dX9_laysUntrue_220 (by decide) ?_
                                      exact ih17 _ (by omega) (y17_8 + 3) (y17_7)  vl17  all17 _ _ _ rfl (by omega) (by omega)  hI (fun i j h => (hfr17 i j h)) (fun i h => (hfl17 i h)) hP hS (lv_sub hl [0, 1, 3, 4, 5, 6, 7, 8, 9] rfl)
                                    · skip
                                      refine lv_iload hE.1 hE.2.1 dX9_laysUntrue_187 (lv_at hl 4 rfl) ?_
                                      refine lv_aload_n hE.1 hE.2.1 dX9_laysUntrue_189 rfl (lv_at hl 6 rfl) ?_
                                      refine lv_iload_n hE.1 hE.2.1 dX9_laysUntrue_190 rfl (lv_at hl 7 rfl) ?_
                                      refine lv_iload hE.1 hE.2.1 dX9_laysUntrue_191 (lv_at hl 1 rfl) ?_
                                      refine lv_iload_n hE.1 hE.2.1 dX9_laysUntrue_193 rfl (lv_at hl 8 rfl) ?_
                                      refine lv_iadd hE.1 hE.2.1 dX9_laysUntrue_194 ?_
                                      refine x_top (y := iI (y17_8 + 3)) ((iI_add (y17_8) (3)).trans (congrArg iI (by omega))) ?_
                                      refine lv_iconst (v := iI (1)) hE.1 hE.2.1 dX9_laysUntrue_195 (by decide) ?_
                                      refine lv_isub hE.1 hE.2.1 dX9_laysUntrue_196 ?_
                                      refine x_top (y := iI (y17_8 + 2)) ((iI_sub (y17_8 + 3) (1)).trans (congrArg iI (by omega))) ?_
                                      refine x_vp (nn := 2) (As := [.int (iI (z_1)), .int (iI (y17_8 + 2))]) (rest := [.int (iI (y8_5)), .int (iI (y17_7))]) hE (s_X9_cellOf l D K ad vl17 arl10 all17 hI  (z_1) (by omega) (y17_8 + 2) (by omega)) wPre_blind (wPre_now hK hN hP) (x_recv hK hP 0 (by decide) (yG_9 rfl) rfl) rfl mw_1814 mw_1816 mw_89 mw_123 mw_1817 (by decide +kernel) ⟨by decide, by decide⟩ hl.1 rfl (Nat.le_of_ble_eq_true rfl) ⟨Nat.zero_le _, Nat.zero_le _⟩ dX9_laysUntrue_197 (fun r55 hr55 => ?_)
                                      obtain ⟨z55, hz55, rfl⟩ := hr55
                                      refine x_sp (nn := 2) (As := [.int (iI (y8_5)), .int (iI (z55))]) (rest := [.int (iI (y17_7))]) hE (s_X9_isBit l (y8_5) (by omega) (z55) (by omega)) tt_blind (fun _ _ _ => trivial) rfl mw_1683 mw_1684 mw_123 mw_1685 (by decide +kernel) ⟨by decide, by decide⟩ hl.1 rfl (Nat.le_of_ble_eq_true rfl) ⟨Nat.zero_le _, Nat.zero_le _⟩ dX9_laysUntrue_200 (fun r56 hr56 => ?_)
                                      obtain ⟨z56, hz56, rfl⟩ := hr56
                                      refine s_if_eq (a := z56) (tgt := 210) hE.1 hE.2.1 (by omega) dX9_laysUntrue_203 (by decide) (fun c57 => ?_) (fun c57 => ?_)
                                      · skip
                                        refine lv_iconst (v := iI (0)) hE.1 hE.2.1 dX9_laysUntrue_210 (by decide) ?_
                                        refine lv_iadd hE.1 hE.2.1 dX9_laysUntrue_211 ?_
                                        refine x_top (y := iI (y17_7)) ((iI_add (y17_7) (0)).trans (congrArg iI (by omega))) ?_
                                        refine lv_istore (lv' := [(7, .int (iI (y17_7))), (9, .int (iI (1))), (8, .int (iI (y17_8))), (6, .int (iI (y10_6))), (5, .int (iI (y8_5))), (4, .int (iI (z3))), (0, .ref (ad 0)), (1, .int (iI (z_1))), (2, .int (iI (3))), (3, .int (iI (z_3)))]) hE.1 hE.2.1 dX9_laysUntrue_212 hl (by decide) rfl (fun ls hl => ?_)
                                        refine lv_iload hE.1 hE.2.1 dX9_laysUntrue_214 (lv_at hl 2 rfl) ?_
                                        refine lv_iload_n hE.1 hE.2.1 dX9_laysUntrue_216 rfl (lv_at hl 8 rfl) ?_
                                        refine lv_iadd hE.1 hE.2.1 dX9_laysUntrue_217 ?_
                                        refine x_top (y := iI (y17_8 + 3)) ((iI_add (y17_8) (3)).trans (congrArg iI (by omega))) ?_
                                        refine lv_istore (lv' := [(8, .int (iI (y17_8 + 3))), (7, .int (iI (y17_7))), (9, .int (iI (1))), (6, .int (iI (y10_6))), (5, .int (iI (y8_5))), (4, .int (iI (z3))), (0, .ref (ad 0)), (1, .int (iI (z_1))), (2, .int (iI (3))), (3, .int (iI (z_3)))]) hE.1 hE.2.1 dX9_laysUntrue_218 hl (by decide) rfl (fun ls hl => ?_)
                                        refine lv_goto (tgt := 127) hE.1 hE.2.1 dX9_laysUntrue_220 (by decide) ?_
                                        exact ih17 _ (by omega) (y17_8 + 3) (y17_7)  vl17  all17 _ _ _ rfl (by omega) (by omega)  hI (fun i j h => (hfr17 i j h)) (fun i h => (hfl17 i h)) hP hS (lv_sub hl [0, 1, 3, 4, 5, 6, 7, 8, 9] rfl)
                                      · skip
                                        refine lv_iconst (v := iI (1)) hE.1 hE.2.1 dX9_laysUntrue_206 (by decide) ?_
                                        refine lv_goto (tgt := 211) hE.1 hE.2.1 dX9_laysUntrue_207 (by decide) ?_
                                        refine lv_iadd hE.1 hE.2.1 dX9_laysUntrue_211 ?_
                                        obtain ⟨z58, hz58, ez58⟩ := iI_of (iI (y17_7) + iI (1))
                                        refine x_top ez58 ?_
                                        refine lv_istore (lv' := [(7, .int (iI (z58))), (9, .int (iI (1))), (8, .int (iI (y17_8))), (6, .int (iI (y10_6))), (5, .int (iI (y8_5))), (4, .int (iI (z3))), (0, .ref (ad 0)), (1, .int (iI (z_1))), (2, .int (iI (3))), (3, .int (iI (z_3)))]) hE.1 hE.2.1 dX9_laysUntrue_212 hl (by decide) rfl (fun ls hl => ?_)
                                        refine lv_iload hE.1 hE.2.1 dX9_laysUntrue_214 (lv_at hl 2 rfl) ?_
                                        refine lv_iload_n hE.1 hE.2.1 dX9_laysUntrue_216 rfl (lv_at hl 8 rfl) ?_
                                        refine lv_iadd hE.1 hE.2.1 dX9_laysUntrue_217 ?_
                                        refine x_top (y := iI (y17_8 + 3)) ((iI_add (y17_8) (3)).trans (congrArg iI (by omega))) ?_
                                        refine lv_istore (lv' := [(8, .int (iI (y17_8 + 3))), (7, .int (iI (z58))), (9, .int (iI (1))), (6, .int (iI (y10_6))), (5, .int (iI (y8_5))), (4, .int (iI (z3))), (0, .ref (ad 0)), (1, .int (iI (z_1))), (2, .int (iI (3))), (3, .int (iI (z_3)))]) hE.1 hE.2.1 dX9_laysUntrue_218 hl (by decide) rfl (fun ls hl => ?_)
                                        refine lv_goto (tgt := 127) hE.1 hE.2.1 dX9_laysUntrue_220 (by decide) ?_
                                        exact ih17 _ (by omega) (y17_8 + 3) (z58)  vl17  all17 _ _ _ rfl (by omega) (by omega)  hI (fun i j h => (hfr17 i j h)) (fun i h => (hfl17 i h)) hP hS (lv_sub hl [0, 1, 3, 4, 5, 6, 7, 8, 9] rfl)
                            exact loop17 _ (0) (z16)  vl10  all10 _ _ _ rfl (by omega) (by omega)  hI (fun _ _ _ => rfl) (fun _ _ => rfl) hP hS hl
                          · skip
                            refine lv_goto (tgt := 294) hE.1 hE.2.1 dX9_laysUntrue_112 (by decide) ?_
                            refine lv_iinc (v := iI (y10_6 + 1)) (lv' := [(6, .int (iI (y10_6 + 1))), (5, .int (iI (y8_5))), (4, .int (iI (z3))), (0, .ref (ad 0)), (1, .int (iI (z_1))), (2, .int (iI (3))), (3, .int (iI (z_3)))]) hE.1 hE.2.1 dX9_laysUntrue_294 hl (k := 0) rfl ((iI_add (y10_6) (1)).trans (congrArg iI (by omega))) (by decide) rfl (fun ls hl => ?_)
                            refine lv_goto (tgt := 91) hE.1 hE.2.1 dX9_laysUntrue_297 (by decide) ?_
                            exact ih10 _ (by omega) (y10_6 + 1)  vl10 arl10 all10 _ _ _ rfl (by omega)  hI (fun i j h => (hfr10 i j h)) (fun i h => (hfa10 i h)) (fun i h => (hfl10 i h)) hP hS (lv_sub hl [0, 1, 2, 3, 4, 5, 6] rfl)
                    exact loop10 _ (0)  vl8 arl8 all8 _ _ _ rfl (by omega)  hI (fun _ _ _ => rfl) (fun _ _ => rfl) (fun _ _ => rfl) hP hS hl
              exact loop8 _ (0)  vl6 arl6 all6 _ _ _ rfl (by omega)  hI (fun _ _ _ => rfl) (fun _ _ => rfl) (fun _ _ => rfl) hP hS hl
            · skip
              refine lv_aload_n hE.1 hE.2.1 dX9_laysUntrue_55 rfl (lv_at hl 2 rfl) ?_
              refine x_get (x := .ref (ad 20)) hE hK hP 0 (by decide) (yG_9 rfl) rfl hin9 48 (by decide) mw_1382 rfl dX9_laysUntrue_56 ?_
              refine lv_iload hE.1 hE.2.1 dX9_laysUntrue_59 (lv_at hl 0 rfl) ?_
              refine lv_iload hE.1 hE.2.1 dX9_laysUntrue_61 (lv_at hl 0 rfl) ?_
              refine s_if_ne (a := y6_5) (tgt := 70) hE.1 hE.2.1 (by omega) dX9_laysUntrue_63 (by decide) (fun c59 => ?_) (fun c59 => ?_)
              · skip
                refine lv_iconst (v := iI (0)) hE.1 hE.2.1 dX9_laysUntrue_70 (by decide) ?_
                refine x_iast (j := iI (y6_5)) hE hK hN hP hS 20 (by decide) (fun _ => yG_10 rfl) (iI_in (n := 512) (by omega)) dX9_laysUntrue_71 (fun ar60 H locs ha60 hP hS => ?_)
                have hI := YI_ast hI ha60 (by decide)
                refine lv_iinc (v := iI (y6_5 + 1)) (lv' := [(5, .int (iI (y6_5 + 1))), (4, .int (iI (z3))), (0, .ref (ad 0)), (1, .int (iI (z_1))), (2, .int (iI (3))), (3, .int (iI (z_3)))]) hE.1 hE.2.1 dX9_laysUntrue_72 hl (k := 0) rfl ((iI_add (y6_5) (1)).trans (congrArg iI (by omega))) (by decide) rfl (fun ls hl => ?_)
                refine lv_goto (tgt := 48) hE.1 hE.2.1 dX9_laysUntrue_75 (by decide) ?_
                exact ih6 _ (by omega) (y6_5 + 1)  vl6 ar60 all6 _ _ _ rfl (by omega)  hI (fun i j h => (hfr6 i j h)) (fun i h => ((upx_ne ha60 i (fun q => h (by rw [q]; decide))).trans (hfa6 i h))) (fun i h => (hfl6 i h)) hP hS (lv_sub hl [0, 1, 2, 3, 4, 5] rfl)
              · skip
                refine lv_iconst (v := iI (1)) hE.1 hE.2.1 dX9_laysUntrue_66 (by decide) ?_
                refine lv_goto (tgt := 71) hE.1 hE.2.1 dX9_laysUntrue_67 (by decide) ?_
                refine x_iast (j := iI (y6_5)) hE hK hN hP hS 20 (by decide) (fun _ => yG_10 rfl) (iI_in (n := 512) (by omega)) dX9_laysUntrue_71 (fun ar61 H locs ha61 hP hS => ?_)
                have hI := YI_ast hI ha61 (by decide)
                refine lv_iinc (v := iI (y6_5 + 1)) (lv' := [(5, .int (iI (y6_5 + 1))), (4, .int (iI (z3))), (0, .ref (ad 0)), (1, .int (iI (z_1))), (2, .int (iI (3))), (3, .int (iI (z_3)))]) hE.1 hE.2.1 dX9_laysUntrue_72 hl (k := 0) rfl ((iI_add (y6_5) (1)).trans (congrArg iI (by omega))) (by decide) rfl (fun ls hl => ?_)
                refine lv_goto (tgt := 48) hE.1 hE.2.1 dX9_laysUntrue_75 (by decide) ?_
                exact ih6 _ (by omega) (y6_5 + 1)  vl6 ar61 all6 _ _ _ rfl (by omega)  hI (fun i j h => (hfr6 i j h)) (fun i h => ((upx_ne ha61 i (fun q => h (by rw [q]; decide))).trans (hfa6 i h))) (fun i h => (hfl6 i h)) hP hS (lv_sub hl [0, 1, 2, 3, 4, 5] rfl)
        exact loop6 _ (0)  vl4 arl4 all4 _ _ _ rfl (by omega)  hI (fun _ _ _ => rfl) (fun _ _ => rfl) (fun _ _ => rfl) hP hS hl
      · skip
        refine lv_aload_n hE.1 hE.2.1 dX9_laysUntrue_20 rfl (lv_at hl 2 rfl) ?_
        refine x_get (x := .ref (ad 19)) hE hK hP 0 (by decide) (yG_9 rfl) rfl hin9 47 (by decide) mw_1381 rfl dX9_laysUntrue_21 ?_
        refine lv_iload hE.1 hE.2.1 dX9_laysUntrue_24 (lv_at hl 0 rfl) ?_
        refine lv_iload hE.1 hE.2.1 dX9_laysUntrue_26 (lv_at hl 0 rfl) ?_
        refine s_if_ne (a := y4_5) (tgt := 35) hE.1 hE.2.1 (by omega) dX9_laysUntrue_28 (by decide) (fun c62 => ?_) (fun c62 => ?_)
        · skip
          refine lv_sipush (v := iI (1000)) hE.1 hE.2.1 dX9_laysUntrue_35 (by decide) ?_
          refine x_iast (j := iI (y4_5)) hE hK hN hP hS 19 (by decide) (fun _ => yG_10 rfl) (iI_in (n := 512) (by omega)) dX9_laysUntrue_38 (fun ar63 H locs ha63 hP hS => ?_)
          have hI := YI_ast hI ha63 (by decide)
          refine lv_iinc (v := iI (y4_5 + 1)) (lv' := [(5, .int (iI (y4_5 + 1))), (4, .int (iI (z3))), (0, .ref (ad 0)), (1, .int (iI (z_1))), (2, .int (iI (3))), (3, .int (iI (z_3)))]) hE.1 hE.2.1 dX9_laysUntrue_39 hl (k := 0) rfl ((iI_add (y4_5) (1)).trans (congrArg iI (by omega))) (by decide) rfl (fun ls hl => ?_)
          refine lv_goto (tgt := 13) hE.1 hE.2.1 dX9_laysUntrue_42 (by decide) ?_
          exact ih4 _ (by omega) (y4_5 + 1)  vl4 ar63 all4 _ _ _ rfl (by omega)  hI (fun i j h => (hfr4 i j h)) (fun i h => ((upx_ne ha63 i (fun q => h (by rw [q]; decide))).trans (hfa4 i h))) (fun i h => (hfl4 i h)) hP hS (lv_sub hl [0, 1, 2, 3, 4, 5] rfl)
        · skip
          refine lv_iconst (v := iI (0)) hE.1 hE.2.1 dX9_laysUntrue_31 (by decide) ?_
          refine lv_goto (tgt := 38) hE.1 hE.2.1 dX9_laysUntrue_32 (by decide) ?_
          refine x_iast (j := iI (y4_5)) hE hK hN hP hS 19 (by decide) (fun _ => yG_10 rfl) (iI_in (n := 512) (by omega)) dX9_laysUntrue_38 (fun ar64 H locs ha64 hP hS => ?_)
          have hI := YI_ast hI ha64 (by decide)
          refine lv_iinc (v := iI (y4_5 + 1)) (lv' := [(5, .int (iI (y4_5 + 1))), (4, .int (iI (z3))), (0, .ref (ad 0)), (1, .int (iI (z_1))), (2, .int (iI (3))), (3, .int (iI (z_3)))]) hE.1 hE.2.1 dX9_laysUntrue_39 hl (k := 0) rfl ((iI_add (y4_5) (1)).trans (congrArg iI (by omega))) (by decide) rfl (fun ls hl => ?_)
          refine lv_goto (tgt := 13) hE.1 hE.2.1 dX9_laysUntrue_42 (by decide) ?_
          exact ih4 _ (by omega) (y4_5 + 1)  vl4 ar64 all4 _ _ _ rfl (by omega)  hI (fun i j h => (hfr4 i j h)) (fun i h => ((upx_ne ha64 i (fun q => h (by rw [q]; decide))).trans (hfa4 i h))) (fun i h => (hfl4 i h)) hP hS (lv_sub hl [0, 1, 2, 3, 4, 5] rfl)
  exact loop4 _ (0)  v ar al _ _ _ rfl (by omega)  hI (fun _ _ _ => rfl) (fun _ _ => rfl) (fun _ _ => rfl) hP hS hl

theorem dX9_liarsOf_0 : decode cX9_liarsOf 0 = .ok (.iconst (-1), 1) := by decide +kernel
theorem dX9_liarsOf_1 : decode cX9_liarsOf 1 = .ok (.istore_n 2, 1) := by decide +kernel
theorem dX9_liarsOf_2 : decode cX9_liarsOf 2 = .ok (.iconst 0, 1) := by decide +kernel
theorem dX9_liarsOf_3 : decode cX9_liarsOf 3 = .ok (.istore_n 3, 1) := by decide +kernel
theorem dX9_liarsOf_4 : decode cX9_liarsOf 4 = .ok (.iload_n 3, 1) := by decide +kernel
theorem dX9_liarsOf_5 : decode cX9_liarsOf 5 = .ok (.sipush 256, 3) := by decide +kernel
theorem dX9_liarsOf_8 : decode cX9_liarsOf 8 = .ok (.if_icmp .ge 55, 3) := by decide +kernel
theorem dX9_liarsOf_11 : decode cX9_liarsOf 11 = .ok (.iload_n 2, 1) := by decide +kernel
theorem dX9_liarsOf_12 : decode cX9_liarsOf 12 = .ok (.iconst (-1), 1) := by decide +kernel
theorem dX9_liarsOf_13 : decode cX9_liarsOf 13 = .ok (.if_icmp .eq 17, 3) := by decide +kernel
theorem dX9_liarsOf_16 : decode cX9_liarsOf 16 = .ok (.iload_n 3, 1) := by decide +kernel
theorem dX9_liarsOf_17 : decode cX9_liarsOf 17 = .ok (.invokestatic 433, 3) := by decide +kernel
theorem dX9_liarsOf_20 : decode cX9_liarsOf 20 = .ok (.iload_n 2, 1) := by decide +kernel
theorem dX9_liarsOf_21 : decode cX9_liarsOf 21 = .ok (.invokestatic 433, 3) := by decide +kernel
theorem dX9_liarsOf_24 : decode cX9_liarsOf 24 = .ok (.if_icmp .lt 6, 3) := by decide +kernel
theorem dX9_liarsOf_27 : decode cX9_liarsOf 27 = .ok (.goto 30, 3) := by decide +kernel
theorem dX9_liarsOf_30 : decode cX9_liarsOf 30 = .ok (.aload_n 0, 1) := by decide +kernel
theorem dX9_liarsOf_31 : decode cX9_liarsOf 31 = .ok (.iload_n 1, 1) := by decide +kernel
theorem dX9_liarsOf_32 : decode cX9_liarsOf 32 = .ok (.iconst 3, 1) := by decide +kernel
theorem dX9_liarsOf_33 : decode cX9_liarsOf 33 = .ok (.iload_n 3, 1) := by decide +kernel
theorem dX9_liarsOf_34 : decode cX9_liarsOf 34 = .ok (.invokevirtual 430, 3) := by decide +kernel
theorem dX9_liarsOf_37 : decode cX9_liarsOf 37 = .ok (.aload_n 0, 1) := by decide +kernel
theorem dX9_liarsOf_38 : decode cX9_liarsOf 38 = .ok (.getfield 75, 3) := by decide +kernel
theorem dX9_liarsOf_41 : decode cX9_liarsOf 41 = .ok (.iconst 1, 1) := by decide +kernel
theorem dX9_liarsOf_42 : decode cX9_liarsOf 42 = .ok (.aload_n 0, 1) := by decide +kernel
theorem dX9_liarsOf_43 : decode cX9_liarsOf 43 = .ok (.getfield 34, 3) := by decide +kernel
theorem dX9_liarsOf_46 : decode cX9_liarsOf 46 = .ok (.iconst 2, 1) := by decide +kernel
theorem dX9_liarsOf_47 : decode cX9_liarsOf 47 = .ok (.iaload, 1) := by decide +kernel
theorem dX9_liarsOf_48 : decode cX9_liarsOf 48 = .ok (.ishl, 1) := by decide +kernel
theorem dX9_liarsOf_49 : decode cX9_liarsOf 49 = .ok (.iconst 1, 1) := by decide +kernel
theorem dX9_liarsOf_50 : decode cX9_liarsOf 50 = .ok (.isub, 1) := by decide +kernel
theorem dX9_liarsOf_51 : decode cX9_liarsOf 51 = .ok (.iaload, 1) := by decide +kernel
theorem dX9_liarsOf_52 : decode cX9_liarsOf 52 = .ok (.ifCond .ne 5, 3) := by decide +kernel
theorem dX9_liarsOf_55 : decode cX9_liarsOf 55 = .ok (.iload_n 3, 1) := by decide +kernel
theorem dX9_liarsOf_56 : decode cX9_liarsOf 56 = .ok (.istore_n 2, 1) := by decide +kernel
theorem dX9_liarsOf_57 : decode cX9_liarsOf 57 = .ok (.iinc 3 1, 3) := by decide +kernel
theorem dX9_liarsOf_60 : decode cX9_liarsOf 60 = .ok (.goto (-56), 3) := by decide +kernel
theorem dX9_liarsOf_63 : decode cX9_liarsOf 63 = .ok (.iload_n 2, 1) := by decide +kernel
theorem dX9_liarsOf_64 : decode cX9_liarsOf 64 = .ok (.ireturn, 1) := by decide +kernel
set_option maxHeartbeats 4000000 in
set_option maxRecDepth 100000 in
theorem s_X9_liarsOf (l : Launch) (D : va_G) (K : Nat → ClassId) (ad : Nat → Nat) (v ar : sI) (al : sL) (hI : YI v ar) (z_1 : Int) (hz_1 : 0 ≤ z_1 ∧ z_1 ≤ 3) : Met l yX9_liarsOf (wM yX9_liarsOf cX9_liarsOf 4 (some .int)) (rmD 2) (va_Pc [.ref (ad 0), .int (iI (z_1))] (wPre D K ad (yG ad K) 21 v ar al)) (va_Qi (fun (r : Int32) (u : sT) => (∃ z : Int, (-2147483648 ≤ z ∧ z ≤ 2147483647) ∧ r = iI z) ∧ YI u.1 u.2.1 ∧ (∀ i j : Nat, (i, j) ∉ ([] : List (Nat × Nat)) → u.1 i j = v i j) ∧ (∀ i : Nat, i ∉ ([19, 20] : List Nat) → u.2.1 i = ar i) ∧ (∀ i : Nat, i ∉ ([] : List Nat) → u.2.2 i = al i)) (wB D ad (yG ad K) 21) (inW ad 21)) 0 0 (inW ad 21) := by
  refine s_metI (by decide) (Nat.le_of_ble_eq_true rfl) ?_
  intro p e s m below meth c ls args Q hE hB hl kr
  have hE : CallFix p m c cX9_liarsOf 4 s args tbG "TaleCourtModel" := hE
  obtain ⟨hP, hK, hN⟩ := hB
  have hS : va_S (inW ad 21) s.heap s.heap [] := va_S.rf
  have hl : lv_has ls 4 [(0, .ref (ad 0)), (1, .int (iI (z_1)))] := hl
  refine lv_iconst (v := iI (-1)) hE.1 hE.2.1 dX9_liarsOf_0 (by decide) ?_
  refine lv_istore_n (lv' := [(2, .int (iI (-1))), (0, .ref (ad 0)), (1, .int (iI (z_1)))]) hE.1 hE.2.1 dX9_liarsOf_1 rfl hl (by decide) rfl (fun ls hl => ?_)
  refine lv_iconst (v := iI (0)) hE.1 hE.2.1 dX9_liarsOf_2 (by decide) ?_
  refine lv_istore_n (lv' := [(3, .int (iI (0))), (2, .int (iI (-1))), (0, .ref (ad 0)), (1, .int (iI (z_1)))]) hE.1 hE.2.1 dX9_liarsOf_3 rfl hl (by decide) rfl (fun ls hl => ?_)
  have loop1 : ∀ (k1 : Nat) (y1_3 : Int) (y1_2 : Int) (vl1 arl1 : sI) (all1 : sL) (H : Heap) (locs : List Loc) (ls : Array Slot), (256 - y1_3).toNat = k1 → (0 ≤ y1_3 ∧ y1_3 ≤ 256) → (-2147483648 ≤ y1_2 ∧ y1_2 ≤ 2147483647) → YI vl1 arl1 → (∀ i j : Nat, (i, j) ∉ ([] : List (Nat × Nat)) → vl1 i j = v i j) → (∀ i : Nat, i ∉ ([19, 20] : List Nat) → arl1 i = ar i) → (∀ i : Nat, i ∉ ([] : List Nat) → all1 i = al i) → va_P D xcl (wW ad (yG ad K) 21 vl1 arl1 all1) H → va_S (inW ad 21) s.heap H locs → lv_has ls 4 [(3, .int (iI (y1_3))), (2, .int (iI (y1_2))), (0, .ref (ad 0)), (1, .int (iI (z_1)))] → W p l e (rmD 2) s m args below meth c H locs 0 0 Q (F0 m 4 ls []) := by
    intro k1
    induction k1 using Nat.strongRecOn with
    | _ k1 ih1 =>
      intro y1_3 y1_2  vl1 arl1 all1 H locs ls hk1 hb_y1_3 hb_y1_2 hI hfr1 hfa1 hfl1 hP hS hl
      refine lv_iload_n hE.1 hE.2.1 dX9_liarsOf_4 rfl (lv_at hl 0 rfl) ?_
      refine lv_sipush (v := iI (256)) hE.1 hE.2.1 dX9_liarsOf_5 (by decide) ?_
      refine s_icmp_ge (a := y1_3) (b := 256) (tgt := 63) hE.1 hE.2.1 (by omega) (by omega) dX9_liarsOf_8 (by decide) (fun c2 => ?_) (fun c2 => ?_)
      · skip
        refine lv_iload_n hE.1 hE.2.1 dX9_liarsOf_63 rfl (lv_at hl 1 rfl) ?_
        exact kr _ vl1 arl1 all1 _ _ _ _ rfl ⟨⟨y1_2, by omega, rfl⟩, hI, fun i j h => (hfr1 i j (fun q => h (mem_sub (by decide) q))), fun i h => (hfa1 i (fun q => h (mem_subn (by decide) q))), fun i h => (hfl1 i (fun q => h (mem_subn (by decide) q)))⟩ hP hS dX9_liarsOf_64
      · skip
        refine lv_iload_n hE.1 hE.2.1 dX9_liarsOf_11 rfl (lv_at hl 1 rfl) ?_
        refine lv_iconst (v := iI (-1)) hE.1 hE.2.1 dX9_liarsOf_12 (by decide) ?_
        refine s_icmp_eq (a := y1_2) (b := -1) (tgt := 30) hE.1 hE.2.1 (by omega) (by omega) dX9_liarsOf_13 (by decide) (fun c3 => ?_) (fun c3 => ?_)
        · skip
          refine lv_aload_n hE.1 hE.2.1 dX9_liarsOf_30 rfl (lv_at hl 2 rfl) ?_
          refine lv_iload_n hE.1 hE.2.1 dX9_liarsOf_31 rfl (lv_at hl 3 rfl) ?_
          refine lv_iconst (v := iI (3)) hE.1 hE.2.1 dX9_liarsOf_32 (by decide) ?_
          refine lv_iload_n hE.1 hE.2.1 dX9_liarsOf_33 rfl (lv_at hl 0 rfl) ?_
          refine x_vv (nn := 3) (As := [.int (iI (z_1)), .int (iI (3)), .int (iI (y1_3))]) (rest := []) hE hK hN hP hS (s_X9_laysUntrue_c1_3 l D K ad vl1 arl1 all1 hI  (z_1) (by omega) (y1_3) (by omega)) (x_recv hK hP 0 (by decide) (yG_9 rfl) rfl) rfl mw_1994 mw_1996 mw_107 mw_123 mw_1997 (by decide +kernel) ⟨by decide, by decide⟩ hl.1 rfl (Nat.le_of_ble_eq_true rfl) ⟨Nat.zero_le _, Nat.zero_le _⟩ dX9_liarsOf_34 (fun v4 ar4 al4 H locs hq4 hP hS => ?_)
          obtain ⟨hI, hq4, hqa4, hql4⟩ := hq4
          have hI : YI v4 ar4 := hI
          refine lv_aload_n hE.1 hE.2.1 dX9_liarsOf_37 rfl (lv_at hl 2 rfl) ?_
          refine x_get (x := .ref (ad 19)) hE hK hP 0 (by decide) (yG_9 rfl) rfl hin9 47 (by decide) mw_1381 rfl dX9_liarsOf_38 ?_
          refine lv_iconst (v := iI (1)) hE.1 hE.2.1 dX9_liarsOf_41 (by decide) ?_
          refine lv_aload_n hE.1 hE.2.1 dX9_liarsOf_42 rfl (lv_at hl 2 rfl) ?_
          refine x_get (x := .ref (ad 7)) hE hK hP 0 (by decide) (yG_9 rfl) rfl hin9 17 (by decide) mw_1351 rfl dX9_liarsOf_43 ?_
          refine lv_iconst (v := iI (2)) hE.1 hE.2.1 dX9_liarsOf_46 (by decide) ?_
          refine x_iald (j := iI (2)) hE hK hP 7 (by decide) (yG_10 rfl) (iI_in (n := 30) (by omega)) dX9_liarsOf_47 ?_
          obtain ⟨z6, hz6, ez6⟩ := YI_h2 hI 2 (by decide)
          refine x_top (y := iI (z6)) (by rw [show (iI (2)).toNatClampNeg = 2 from by decide]; exact ez6) ?_
          refine lv_ishl hE.1 hE.2.1 dX9_liarsOf_48 ?_
          obtain ⟨z7, hz7, ez7⟩ := iI_shl9 (a := z6) (by omega)
          refine x_top ez7 ?_
          refine lv_iconst (v := iI (1)) hE.1 hE.2.1 dX9_liarsOf_49 (by decide) ?_
          refine lv_isub hE.1 hE.2.1 dX9_liarsOf_50 ?_
          refine x_top (y := iI (z7 - 1)) ((iI_sub (z7) (1)).trans (congrArg iI (by omega))) ?_
          refine x_iald (j := iI (z7 - 1)) hE hK hP 19 (by decide) (yG_10 rfl) (iI_in (n := 512) (by omega)) dX9_liarsOf_51 ?_
          obtain ⟨z9, hz9, ez9⟩ := iI_of (ar4 19 (iI (z7 - 1)).toNatClampNeg)
          refine x_top ez9 ?_
          refine s_if_ne (a := z9) (tgt := 57) hE.1 hE.2.1 (by omega) dX9_liarsOf_52 (by decide) (fun c10 => ?_) (fun c10 => ?_)
          · skip
            refine lv_iinc (v := iI (y1_3 + 1)) (lv' := [(3, .int (iI (y1_3 + 1))), (2, .int (iI (y1_2))), (0, .ref (ad 0)), (1, .int (iI (z_1)))]) hE.1 hE.2.1 dX9_liarsOf_57 hl (k := 0) rfl ((iI_add (y1_3) (1)).trans (congrArg iI (by omega))) (by decide) rfl (fun ls hl => ?_)
            refine lv_goto (tgt := 4) hE.1 hE.2.1 dX9_liarsOf_60 (by decide) ?_
            exact ih1 _ (by omega) (y1_3 + 1) (y1_2)  v4 ar4 al4 _ _ _ rfl (by omega) (by omega)  hI (fun i j h => ((hq4 i j (fun q => h (mem_sub (by decide) q))).trans (hfr1 i j h))) (fun i h => ((hqa4 i (fun q => h (mem_subn (by decide) q))).trans (hfa1 i h))) (fun i h => ((hql4 i (fun q => h (mem_subn (by decide) q))).trans (hfl1 i h))) hP hS (lv_sub hl [0, 1, 2, 3] rfl)
          · skip
            refine lv_iload_n hE.1 hE.2.1 dX9_liarsOf_55 rfl (lv_at hl 0 rfl) ?_
            refine lv_istore_n (lv' := [(2, .int (iI (y1_3))), (3, .int (iI (y1_3))), (0, .ref (ad 0)), (1, .int (iI (z_1)))]) hE.1 hE.2.1 dX9_liarsOf_56 rfl hl (by decide) rfl (fun ls hl => ?_)
            refine lv_iinc (v := iI (y1_3 + 1)) (lv' := [(3, .int (iI (y1_3 + 1))), (2, .int (iI (y1_3))), (0, .ref (ad 0)), (1, .int (iI (z_1)))]) hE.1 hE.2.1 dX9_liarsOf_57 hl (k := 1) rfl ((iI_add (y1_3) (1)).trans (congrArg iI (by omega))) (by decide) rfl (fun ls hl => ?_)
            refine lv_goto (tgt := 4) hE.1 hE.2.1 dX9_liarsOf_60 (by decide) ?_
            exact ih1 _ (by omega) (y1_3 + 1) (y1_3)  v4 ar4 al4 _ _ _ rfl (by omega) (by omega)  hI (fun i j h => ((hq4 i j (fun q => h (mem_sub (by decide) q))).trans (hfr1 i j h))) (fun i h => ((hqa4 i (fun q => h (mem_subn (by decide) q))).trans (hfa1 i h))) (fun i h => ((hql4 i (fun q => h (mem_subn (by decide) q))).trans (hfl1 i h))) hP hS (lv_sub hl [0, 1, 2, 3] rfl)
        · skip
          refine lv_iload_n hE.1 hE.2.1 dX9_liarsOf_16 rfl (lv_at hl 0 rfl) ?_
          refine x_sp (nn := 1) (As := [.int (iI (y1_3))]) (rest := []) hE (s_X9_sizeOf l (y1_3) (by omega)) tt_blind (fun _ _ _ => trivial) rfl mw_2014 mw_2015 mw_123 mw_2016 (by decide +kernel) ⟨by decide, by decide⟩ hl.1 rfl (Nat.le_of_ble_eq_true rfl) ⟨Nat.zero_le _, Nat.zero_le _⟩ dX9_liarsOf_17 (fun r11 hr11 => ?_)
          obtain ⟨z11, hz11, rfl⟩ := hr11
          refine lv_iload_n hE.1 hE.2.1 dX9_liarsOf_20 rfl (lv_at hl 1 rfl) ?_
          refine x_sp (nn := 1) (As := [.int (iI (y1_2))]) (rest := [.int (iI (z11))]) hE (s_X9_sizeOf l (y1_2) (by omega)) tt_blind (fun _ _ _ => trivial) rfl mw_2014 mw_2015 mw_123 mw_2016 (by decide +kernel) ⟨by decide, by decide⟩ hl.1 rfl (Nat.le_of_ble_eq_true rfl) ⟨Nat.zero_le _, Nat.zero_le _⟩ dX9_liarsOf_21 (fun r12 hr12 => ?_)
          obtain ⟨z12, hz12, rfl⟩ := hr12
          refine s_icmp_lt (a := z11) (b := z12) (tgt := 30) hE.1 hE.2.1 (by omega) (by omega) dX9_liarsOf_24 (by decide) (fun c13 => ?_) (fun c13 => ?_)
          · skip
            refine lv_aload_n hE.1 hE.2.1 dX9_liarsOf_30 rfl (lv_at hl 2 rfl) ?_
            refine lv_iload_n hE.1 hE.2.1 dX9_liarsOf_31 rfl (lv_at hl 3 rfl) ?_
            refine lv_iconst (v := iI (3)) hE.1 hE.2.1 dX9_liarsOf_32 (by decide) ?_
            refine lv_iload_n hE.1 hE.2.1 dX9_liarsOf_33 rfl (lv_at hl 0 rfl) ?_
            refine x_vv (nn := 3) (As := [.int (iI (z_1)), .int (iI (3)), .int (iI (y1_3))]) (rest := []) hE hK hN hP hS (s_X9_laysUntrue_c1_3 l D K ad vl1 arl1 all1 hI  (z_1) (by omega) (y1_3) (by omega)) (x_recv hK hP 0 (by decide) (yG_9 rfl) rfl) rfl mw_1994 mw_1996 mw_107 mw_123 mw_1997 (by decide +kernel) ⟨by decide, by decide⟩ hl.1 rfl (Nat.le_of_ble_eq_true rfl) ⟨Nat.zero_le _, Nat.zero_le _⟩ dX9_liarsOf_34 (fun v14 ar14 al14 H locs hq14 hP hS => ?_)
            obtain ⟨hI, hq14, hqa14, hql14⟩ := hq14
            have hI : YI v14 ar14 := hI
            refine lv_aload_n hE.1 hE.2.1 dX9_liarsOf_37 rfl (lv_at hl 2 rfl) ?_
            refine x_get (x := .ref (ad 19)) hE hK hP 0 (by decide) (yG_9 rfl) rfl hin9 47 (by decide) mw_1381 rfl dX9_liarsOf_38 ?_
            refine lv_iconst (v := iI (1)) hE.1 hE.2.1 dX9_liarsOf_41 (by decide) ?_
            refine lv_aload_n hE.1 hE.2.1 dX9_liarsOf_42 rfl (lv_at hl 2 rfl) ?_
            refine x_get (x := .ref (ad 7)) hE hK hP 0 (by decide) (yG_9 rfl) rfl hin9 17 (by decide) mw_1351 rfl dX9_liarsOf_43 ?_
            refine lv_iconst (v := iI (2)) hE.1 hE.2.1 dX9_liarsOf_46 (by decide) ?_
            refine x_iald (j := iI (2)) hE hK hP 7 (by decide) (yG_10 rfl) (iI_in (n := 30) (by omega)) dX9_liarsOf_47 ?_
            obtain ⟨z16, hz16, ez16⟩ := YI_h2 hI 2 (by decide)
            refine x_top (y := iI (z16)) (by rw [show (iI (2)).toNatClampNeg = 2 from by decide]; exact ez16) ?_
            refine lv_ishl hE.1 hE.2.1 dX9_liarsOf_48 ?_
            obtain ⟨z17, hz17, ez17⟩ := iI_shl9 (a := z16) (by omega)
            refine x_top ez17 ?_
            refine lv_iconst (v := iI (1)) hE.1 hE.2.1 dX9_liarsOf_49 (by decide) ?_
            refine lv_isub hE.1 hE.2.1 dX9_liarsOf_50 ?_
            refine x_top (y := iI (z17 - 1)) ((iI_sub (z17) (1)).trans (congrArg iI (by omega))) ?_
            refine x_iald (j := iI (z17 - 1)) hE hK hP 19 (by decide) (yG_10 rfl) (iI_in (n := 512) (by omega)) dX9_liarsOf_51 ?_
            obtain ⟨z19, hz19, ez19⟩ := iI_of (ar14 19 (iI (z17 - 1)).toNatClampNeg)
            refine x_top ez19 ?_
            refine s_if_ne (a := z19) (tgt := 57) hE.1 hE.2.1 (by omega) dX9_liarsOf_52 (by decide) (fun c20 => ?_) (fun c20 => ?_)
            · skip
              refine lv_iinc (v := iI (y1_3 + 1)) (lv' := [(3, .int (iI (y1_3 + 1))), (2, .int (iI (y1_2))), (0, .ref (ad 0)), (1, .int (iI (z_1)))]) hE.1 hE.2.1 dX9_liarsOf_57 hl (k := 0) rfl ((iI_add (y1_3) (1)).trans (congrArg iI (by omega))) (by decide) rfl (fun ls hl => ?_)
              refine lv_goto (tgt := 4) hE.1 hE.2.1 dX9_liarsOf_60 (by decide) ?_
              exact ih1 _ (by omega) (y1_3 + 1) (y1_2)  v14 ar14 al14 _ _ _ rfl (by omega) (by omega)  hI (fun i j h => ((hq14 i j (fun q => h (mem_sub (by decide) q))).trans (hfr1 i j h))) (fun i h => ((hqa14 i (fun q => h (mem_subn (by decide) q))).trans (hfa1 i h))) (fun i h => ((hql14 i (fun q => h (mem_subn (by decide) q))).trans (hfl1 i h))) hP hS (lv_sub hl [0, 1, 2, 3] rfl)
            · skip
              refine lv_iload_n hE.1 hE.2.1 dX9_liarsOf_55 rfl (lv_at hl 0 rfl) ?_
              refine lv_istore_n (lv' := [(2, .int (iI (y1_3))), (3, .int (iI (y1_3))), (0, .ref (ad 0)), (1, .int (iI (z_1)))]) hE.1 hE.2.1 dX9_liarsOf_56 rfl hl (by decide) rfl (fun ls hl => ?_)
              refine lv_iinc (v := iI (y1_3 + 1)) (lv' := [(3, .int (iI (y1_3 + 1))), (2, .int (iI (y1_3))), (0, .ref (ad 0)), (1, .int (iI (z_1)))]) hE.1 hE.2.1 dX9_liarsOf_57 hl (k := 1) rfl ((iI_add (y1_3) (1)).trans (congrArg iI (by omega))) (by decide) rfl (fun ls hl => ?_)
              refine lv_goto (tgt := 4) hE.1 hE.2.1 dX9_liarsOf_60 (by decide) ?_
              exact ih1 _ (by omega) (y1_3 + 1) (y1_3)  v14 ar14 al14 _ _ _ rfl (by omega) (by omega)  hI (fun i j h => ((hq14 i j (fun q => h (mem_sub (by decide) q))).trans (hfr1 i j h))) (fun i h => ((hqa14 i (fun q => h (mem_subn (by decide) q))).trans (hfa1 i h))) (fun i h => ((hql14 i (fun q => h (mem_subn (by decide) q))).trans (hfl1 i h))) hP hS (lv_sub hl [0, 1, 2, 3] rfl)
          · skip
            refine lv_goto (tgt := 57) hE.1 hE.2.1 dX9_liarsOf_27 (by decide) ?_
            refine lv_iinc (v := iI (y1_3 + 1)) (lv' := [(3, .int (iI (y1_3 + 1))), (2, .int (iI (y1_2))), (0, .ref (ad 0)), (1, .int (iI (z_1)))]) hE.1 hE.2.1 dX9_liarsOf_57 hl (k := 0) rfl ((iI_add (y1_3) (1)).trans (congrArg iI (by omega))) (by decide) rfl (fun ls hl => ?_)
            refine lv_goto (tgt := 4) hE.1 hE.2.1 dX9_liarsOf_60 (by decide) ?_
            exact ih1 _ (by omega) (y1_3 + 1) (y1_2)  vl1 arl1 all1 _ _ _ rfl (by omega) (by omega)  hI (fun i j h => (hfr1 i j h)) (fun i h => (hfa1 i h)) (fun i h => (hfl1 i h)) hP hS (lv_sub hl [0, 1, 2, 3] rfl)
  exact loop1 _ (0) (-1)  v ar al _ _ _ rfl (by omega) (by omega)  hI (fun _ _ _ => rfl) (fun _ _ => rfl) (fun _ _ => rfl) hP hS hl

theorem dX9_liars_0 : decode cX9_liars 0 = .ok (.aload_n 0, 1) := by decide +kernel
theorem dX9_liars_1 : decode cX9_liars 1 = .ok (.iconst 0, 1) := by decide +kernel
theorem dX9_liars_2 : decode cX9_liars 2 = .ok (.putfield 81, 3) := by decide +kernel
theorem dX9_liars_5 : decode cX9_liars 5 = .ok (.aload_n 0, 1) := by decide +kernel
theorem dX9_liars_6 : decode cX9_liars 6 = .ok (.iload_n 1, 1) := by decide +kernel
theorem dX9_liars_7 : decode cX9_liars 7 = .ok (.iconst 3, 1) := by decide +kernel
theorem dX9_liars_8 : decode cX9_liars 8 = .ok (.invokevirtual 427, 3) := by decide +kernel
theorem dX9_liars_11 : decode cX9_liars 11 = .ok (.istore_n 2, 1) := by decide +kernel
theorem dX9_liars_12 : decode cX9_liars 12 = .ok (.iload_n 2, 1) := by decide +kernel
theorem dX9_liars_13 : decode cX9_liars 13 = .ok (.ifCond .eq 7, 3) := by decide +kernel
theorem dX9_liars_16 : decode cX9_liars 16 = .ok (.iload_n 2, 1) := by decide +kernel
theorem dX9_liars_17 : decode cX9_liars 17 = .ok (.goto 11, 3) := by decide +kernel
theorem dX9_liars_20 : decode cX9_liars 20 = .ok (.aload_n 0, 1) := by decide +kernel
theorem dX9_liars_21 : decode cX9_liars 21 = .ok (.iload_n 1, 1) := by decide +kernel
theorem dX9_liars_22 : decode cX9_liars 22 = .ok (.invokevirtual 436, 3) := by decide +kernel
theorem dX9_liars_25 : decode cX9_liars 25 = .ok (.invokestatic 433, 3) := by decide +kernel
theorem dX9_liars_28 : decode cX9_liars 28 = .ok (.ireturn, 1) := by decide +kernel
set_option maxHeartbeats 4000000 in
set_option maxRecDepth 100000 in
theorem s_X9_liars (l : Launch) (D : va_G) (K : Nat → ClassId) (ad : Nat → Nat) (v ar : sI) (al : sL) (hI : YI v ar) (z_1 : Int) (hz_1 : -2147483648 ≤ z_1 ∧ z_1 ≤ 2147483647) : Met l yX9_liars (wM yX9_liars cX9_liars 3 (some .int)) (rmD 4) (va_Pc [.ref (ad 0), .int (iI (z_1))] (wPre D K ad (yG ad K) 21 v ar al)) (va_Qi (fun (r : Int32) (u : sT) => (∃ z : Int, (-2147483648 ≤ z ∧ z ≤ 2147483647) ∧ r = iI z) ∧ YI u.1 u.2.1 ∧ (∀ i j : Nat, (i, j) ∉ ([(0, 0)] : List (Nat × Nat)) → u.1 i j = v i j) ∧ (∀ i : Nat, i ∉ ([19, 20] : List Nat) → u.2.1 i = ar i) ∧ (∀ i : Nat, i ∉ ([] : List Nat) → u.2.2 i = al i)) (wB D ad (yG ad K) 21) (inW ad 21)) 0 0 (inW ad 21) := by
  refine s_metI (by decide) (Nat.le_of_ble_eq_true rfl) ?_
  intro p e s m below meth c ls args Q hE hB hl kr
  have hE : CallFix p m c cX9_liars 3 s args tbG "TaleCourtModel" := hE
  obtain ⟨hP, hK, hN⟩ := hB
  have hS : va_S (inW ad 21) s.heap s.heap [] := va_S.rf
  have hl : lv_has ls 3 [(0, .ref (ad 0)), (1, .int (iI (z_1)))] := hl
  obtain ⟨z1, hz1, ez1⟩ := iI_of (ar 6 0)
  obtain ⟨z2, hz2, ez2⟩ := YI_h2 hI 2 (by decide)
  obtain ⟨z3, hz3, ez3⟩ := YI_h5 hI 5 (by decide)
  obtain ⟨z4, hz4, ez4⟩ := YI_h0 hI 0 (by decide)
  have ht0 := YI_t0 hI ez1 (by omega) ez2 (by omega) ez3 (by omega) ez4 (by omega)
  refine lv_aload_n hE.1 hE.2.1 dX9_liars_0 rfl (lv_at hl 0 rfl) ?_
  refine lv_iconst (v := iI (0)) hE.1 hE.2.1 dX9_liars_1 (by decide) ?_
  refine x_put (x := iI (0)) hE hK hN hP hS 0 (by decide) (yG_9 rfl) rfl hin9 tyX9 tyX9_ok nmX9 0 (by decide) mw_1334 rfl rfl rfl (Nat.le_of_ble_eq_true rfl) (yG_9 rfl) dX9_liars_2 (fun v5 H locs hv5 hP hS => ?_)
  have hI := YI_putN hI hv5 (by decide)
  refine lv_aload_n hE.1 hE.2.1 dX9_liars_5 rfl (lv_at hl 0 rfl) ?_
  refine lv_iload_n hE.1 hE.2.1 dX9_liars_6 rfl (lv_at hl 1 rfl) ?_
  refine lv_iconst (v := iI (3)) hE.1 hE.2.1 dX9_liars_7 (by decide) ?_
  refine x_vp (nn := 2) (As := [.int (iI (z_1)), .int (iI (3))]) (rest := []) hE (s_X9_whyNotTold_c1_3 l D K ad v5 ar al hI  (z_1) (by omega)) wPre_blind (wPre_now hK hN hP) (x_recv hK hP 0 (by decide) (yG_9 rfl) rfl) rfl mw_1990 mw_1992 mw_106 mw_123 mw_1993 (by decide +kernel) ⟨by decide, by decide⟩ hl.1 rfl (Nat.le_of_ble_eq_true rfl) ⟨Nat.zero_le _, Nat.zero_le _⟩ dX9_liars_8 (fun r6 hr6 => ?_)
  obtain ⟨z6, hz6, rfl⟩ := hr6
  refine lv_istore_n (lv' := [(2, .int (iI (z6))), (0, .ref (ad 0)), (1, .int (iI (z_1)))]) hE.1 hE.2.1 dX9_liars_11 rfl hl (by decide) rfl (fun ls hl => ?_)
  refine lv_iload_n hE.1 hE.2.1 dX9_liars_12 rfl (lv_at hl 0 rfl) ?_
  refine s_if_eq (a := z6) (tgt := 20) hE.1 hE.2.1 (by omega) dX9_liars_13 (by decide) (fun c7 => ?_) (fun c7 => ?_)
  · skip
    refine lv_aload_n hE.1 hE.2.1 dX9_liars_20 rfl (lv_at hl 1 rfl) ?_
    refine lv_iload_n hE.1 hE.2.1 dX9_liars_21 rfl (lv_at hl 2 rfl) ?_
    refine x_vi (nn := 1) (As := [.int (iI (z_1))]) (rest := []) hE hK hN hP hS (s_X9_liarsOf l D K ad v5 ar al hI  (z_1) (by omega)) (x_recv hK hP 0 (by decide) (yG_9 rfl) rfl) rfl mw_2010 mw_2012 mw_108 mw_123 mw_2013 (by decide +kernel) ⟨by decide, by decide⟩ hl.1 rfl (Nat.le_of_ble_eq_true rfl) ⟨Nat.zero_le _, Nat.zero_le _⟩ dX9_liars_22 (fun r8 v8 ar8 al8 H locs hq8 hP hS => ?_)
    obtain ⟨⟨z8, hz8, rfl⟩, hI, hq8, hqa8, hql8⟩ := hq8
    have hI : YI v8 ar8 := hI
    refine x_sp (nn := 1) (As := [.int (iI (z8))]) (rest := []) hE (s_X9_sizeOf l (z8) (by omega)) tt_blind (fun _ _ _ => trivial) rfl mw_2014 mw_2015 mw_123 mw_2016 (by decide +kernel) ⟨by decide, by decide⟩ hl.1 rfl (Nat.le_of_ble_eq_true rfl) ⟨Nat.zero_le _, Nat.zero_le _⟩ dX9_liars_25 (fun r9 hr9 => ?_)
    obtain ⟨z9, hz9, rfl⟩ := hr9
    exact kr _ v8 ar8 al8 _ _ _ _ rfl ⟨⟨z9, by omega, rfl⟩, hI, fun i j h => ((hq8 i j (fun q => h (mem_sub (by decide) q))).trans (up_oth hv5 (fun q => h (by rcases q with ⟨rfl, rfl⟩; decide)))), fun i h => (hqa8 i (fun q => h (mem_subn (by decide) q))), fun i h => (hql8 i (fun q => h (mem_subn (by decide) q)))⟩ hP hS dX9_liars_28
  · skip
    refine lv_iload_n hE.1 hE.2.1 dX9_liars_16 rfl (lv_at hl 0 rfl) ?_
    refine lv_goto (tgt := 28) hE.1 hE.2.1 dX9_liars_17 (by decide) ?_
    exact kr _ v5 ar al _ _ _ _ rfl ⟨⟨z6, by omega, rfl⟩, hI, fun i j h => (up_oth hv5 (fun q => h (by rcases q with ⟨rfl, rfl⟩; decide))), fun i h => rfl, fun i h => rfl⟩ hP hS dX9_liars_28

theorem dX9_who_0 : decode cX9_who 0 = .ok (.aload_n 0, 1) := by decide +kernel
theorem dX9_who_1 : decode cX9_who 1 = .ok (.iconst 0, 1) := by decide +kernel
theorem dX9_who_2 : decode cX9_who 2 = .ok (.putfield 81, 3) := by decide +kernel
theorem dX9_who_5 : decode cX9_who 5 = .ok (.aload_n 0, 1) := by decide +kernel
theorem dX9_who_6 : decode cX9_who 6 = .ok (.iload_n 1, 1) := by decide +kernel
theorem dX9_who_7 : decode cX9_who 7 = .ok (.iconst 3, 1) := by decide +kernel
theorem dX9_who_8 : decode cX9_who 8 = .ok (.invokevirtual 427, 3) := by decide +kernel
theorem dX9_who_11 : decode cX9_who 11 = .ok (.istore_n 2, 1) := by decide +kernel
theorem dX9_who_12 : decode cX9_who 12 = .ok (.iload_n 2, 1) := by decide +kernel
theorem dX9_who_13 : decode cX9_who 13 = .ok (.ifCond .eq 7, 3) := by decide +kernel
theorem dX9_who_16 : decode cX9_who 16 = .ok (.iload_n 2, 1) := by decide +kernel
theorem dX9_who_17 : decode cX9_who 17 = .ok (.goto 8, 3) := by decide +kernel
theorem dX9_who_20 : decode cX9_who 20 = .ok (.aload_n 0, 1) := by decide +kernel
theorem dX9_who_21 : decode cX9_who 21 = .ok (.iload_n 1, 1) := by decide +kernel
theorem dX9_who_22 : decode cX9_who 22 = .ok (.invokevirtual 436, 3) := by decide +kernel
theorem dX9_who_25 : decode cX9_who 25 = .ok (.ireturn, 1) := by decide +kernel
set_option maxHeartbeats 4000000 in
set_option maxRecDepth 100000 in
theorem s_X9_who (l : Launch) (D : va_G) (K : Nat → ClassId) (ad : Nat → Nat) (v ar : sI) (al : sL) (hI : YI v ar) (z_1 : Int) (hz_1 : -2147483648 ≤ z_1 ∧ z_1 ≤ 2147483647) : Met l yX9_who (wM yX9_who cX9_who 3 (some .int)) (rmD 4) (va_Pc [.ref (ad 0), .int (iI (z_1))] (wPre D K ad (yG ad K) 21 v ar al)) (va_Qi (fun (r : Int32) (u : sT) => (∃ z : Int, (-2147483648 ≤ z ∧ z ≤ 2147483647) ∧ r = iI z) ∧ YI u.1 u.2.1 ∧ (∀ i j : Nat, (i, j) ∉ ([(0, 0)] : List (Nat × Nat)) → u.1 i j = v i j) ∧ (∀ i : Nat, i ∉ ([19, 20] : List Nat) → u.2.1 i = ar i) ∧ (∀ i : Nat, i ∉ ([] : List Nat) → u.2.2 i = al i)) (wB D ad (yG ad K) 21) (inW ad 21)) 0 0 (inW ad 21) := by
  refine s_metI (by decide) (Nat.le_of_ble_eq_true rfl) ?_
  intro p e s m below meth c ls args Q hE hB hl kr
  have hE : CallFix p m c cX9_who 3 s args tbG "TaleCourtModel" := hE
  obtain ⟨hP, hK, hN⟩ := hB
  have hS : va_S (inW ad 21) s.heap s.heap [] := va_S.rf
  have hl : lv_has ls 3 [(0, .ref (ad 0)), (1, .int (iI (z_1)))] := hl
  obtain ⟨z1, hz1, ez1⟩ := iI_of (ar 6 0)
  obtain ⟨z2, hz2, ez2⟩ := YI_h2 hI 2 (by decide)
  obtain ⟨z3, hz3, ez3⟩ := YI_h5 hI 5 (by decide)
  obtain ⟨z4, hz4, ez4⟩ := YI_h0 hI 0 (by decide)
  have ht0 := YI_t0 hI ez1 (by omega) ez2 (by omega) ez3 (by omega) ez4 (by omega)
  refine lv_aload_n hE.1 hE.2.1 dX9_who_0 rfl (lv_at hl 0 rfl) ?_
  refine lv_iconst (v := iI (0)) hE.1 hE.2.1 dX9_who_1 (by decide) ?_
  refine x_put (x := iI (0)) hE hK hN hP hS 0 (by decide) (yG_9 rfl) rfl hin9 tyX9 tyX9_ok nmX9 0 (by decide) mw_1334 rfl rfl rfl (Nat.le_of_ble_eq_true rfl) (yG_9 rfl) dX9_who_2 (fun v5 H locs hv5 hP hS => ?_)
  have hI := YI_putN hI hv5 (by decide)
  refine lv_aload_n hE.1 hE.2.1 dX9_who_5 rfl (lv_at hl 0 rfl) ?_
  refine lv_iload_n hE.1 hE.2.1 dX9_who_6 rfl (lv_at hl 1 rfl) ?_
  refine lv_iconst (v := iI (3)) hE.1 hE.2.1 dX9_who_7 (by decide) ?_
  refine x_vp (nn := 2) (As := [.int (iI (z_1)), .int (iI (3))]) (rest := []) hE (s_X9_whyNotTold_c1_3 l D K ad v5 ar al hI  (z_1) (by omega)) wPre_blind (wPre_now hK hN hP) (x_recv hK hP 0 (by decide) (yG_9 rfl) rfl) rfl mw_1990 mw_1992 mw_106 mw_123 mw_1993 (by decide +kernel) ⟨by decide, by decide⟩ hl.1 rfl (Nat.le_of_ble_eq_true rfl) ⟨Nat.zero_le _, Nat.zero_le _⟩ dX9_who_8 (fun r6 hr6 => ?_)
  obtain ⟨z6, hz6, rfl⟩ := hr6
  refine lv_istore_n (lv' := [(2, .int (iI (z6))), (0, .ref (ad 0)), (1, .int (iI (z_1)))]) hE.1 hE.2.1 dX9_who_11 rfl hl (by decide) rfl (fun ls hl => ?_)
  refine lv_iload_n hE.1 hE.2.1 dX9_who_12 rfl (lv_at hl 0 rfl) ?_
  refine s_if_eq (a := z6) (tgt := 20) hE.1 hE.2.1 (by omega) dX9_who_13 (by decide) (fun c7 => ?_) (fun c7 => ?_)
  · skip
    refine lv_aload_n hE.1 hE.2.1 dX9_who_20 rfl (lv_at hl 1 rfl) ?_
    refine lv_iload_n hE.1 hE.2.1 dX9_who_21 rfl (lv_at hl 2 rfl) ?_
    refine x_vi (nn := 1) (As := [.int (iI (z_1))]) (rest := []) hE hK hN hP hS (s_X9_liarsOf l D K ad v5 ar al hI  (z_1) (by omega)) (x_recv hK hP 0 (by decide) (yG_9 rfl) rfl) rfl mw_2010 mw_2012 mw_108 mw_123 mw_2013 (by decide +kernel) ⟨by decide, by decide⟩ hl.1 rfl (Nat.le_of_ble_eq_true rfl) ⟨Nat.zero_le _, Nat.zero_le _⟩ dX9_who_22 (fun r8 v8 ar8 al8 H locs hq8 hP hS => ?_)
    obtain ⟨⟨z8, hz8, rfl⟩, hI, hq8, hqa8, hql8⟩ := hq8
    have hI : YI v8 ar8 := hI
    exact kr _ v8 ar8 al8 _ _ _ _ rfl ⟨⟨z8, by omega, rfl⟩, hI, fun i j h => ((hq8 i j (fun q => h (mem_sub (by decide) q))).trans (up_oth hv5 (fun q => h (by rcases q with ⟨rfl, rfl⟩; decide)))), fun i h => (hqa8 i (fun q => h (mem_subn (by decide) q))), fun i h => (hql8 i (fun q => h (mem_subn (by decide) q)))⟩ hP hS dX9_who_25
  · skip
    refine lv_iload_n hE.1 hE.2.1 dX9_who_16 rfl (lv_at hl 0 rfl) ?_
    refine lv_goto (tgt := 25) hE.1 hE.2.1 dX9_who_17 (by decide) ?_
    exact kr _ v5 ar al _ _ _ _ rfl ⟨⟨z6, by omega, rfl⟩, hI, fun i j h => (up_oth hv5 (fun q => h (by rcases q with ⟨rfl, rfl⟩; decide))), fun i h => rfl, fun i h => rfl⟩ hP hS dX9_who_25
