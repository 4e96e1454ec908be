theorem dX9_isByte_0 : decode cX9_isByte 0 = .ok (.iload_n 1, 1) := by decide +kernel
theorem dX9_isByte_1 : decode cX9_isByte 1 = .ok (.aload_n 0, 1) := by decide +kernel
theorem dX9_isByte_2 : decode cX9_isByte 2 = .ok (.getfield 98, 3) := by decide +kernel
theorem dX9_isByte_5 : decode cX9_isByte 5 = .ok (.if_icmp .ge 27, 3) := by decide +kernel
theorem dX9_isByte_8 : decode cX9_isByte 8 = .ok (.aload_n 0, 1) := by decide +kernel
theorem dX9_isByte_9 : decode cX9_isByte 9 = .ok (.getfield 23, 3) := by decide +kernel
theorem dX9_isByte_12 : decode cX9_isByte 12 = .ok (.iload_n 1, 1) := by decide +kernel
theorem dX9_isByte_13 : decode cX9_isByte 13 = .ok (.baload, 1) := by decide +kernel
theorem dX9_isByte_14 : decode cX9_isByte 14 = .ok (.iload_n 2, 1) := by decide +kernel
theorem dX9_isByte_15 : decode cX9_isByte 15 = .ok (.if_icmp .lt 17, 3) := by decide +kernel
theorem dX9_isByte_18 : decode cX9_isByte 18 = .ok (.aload_n 0, 1) := by decide +kernel
theorem dX9_isByte_19 : decode cX9_isByte 19 = .ok (.getfield 23, 3) := by decide +kernel
theorem dX9_isByte_22 : decode cX9_isByte 22 = .ok (.iload_n 1, 1) := by decide +kernel
theorem dX9_isByte_23 : decode cX9_isByte 23 = .ok (.baload, 1) := by decide +kernel
theorem dX9_isByte_24 : decode cX9_isByte 24 = .ok (.iload_n 3, 1) := by decide +kernel
theorem dX9_isByte_25 : decode cX9_isByte 25 = .ok (.if_icmp .gt 7, 3) := by decide +kernel
theorem dX9_isByte_28 : decode cX9_isByte 28 = .ok (.iconst 1, 1) := by decide +kernel
theorem dX9_isByte_29 : decode cX9_isByte 29 = .ok (.goto 4, 3) := by decide +kernel
theorem dX9_isByte_32 : decode cX9_isByte 32 = .ok (.iconst 0, 1) := by decide +kernel
theorem dX9_isByte_33 : decode cX9_isByte 33 = .ok (.ireturn, 1) := by decide +kernel
set_option maxHeartbeats 4000000 in
set_option maxRecDepth 100000 in
theorem s_X9_isByte (l : Launch) (D : va_G) (K : Nat → ClassId) (ad : Nat → Nat) (v ar : sI) (al : sL) (hI : YI v ar) (w_1 : Int) (hw_1 : 0 ≤ w_1 ∧ w_1 ≤ 1600) (ew_1 : v 0 6 = iI w_1) (z_1 : Int) (hz_1 : 0 ≤ z_1 ∧ z_1 ≤ 1600) (z_2 : Int) (hz_2 : -2147483648 ≤ z_2 ∧ z_2 ≤ 2147483647) (z_3 : Int) (hz_3 : -2147483648 ≤ z_3 ∧ z_3 ≤ 2147483647) : Met l yX9_isByte (wM yX9_isByte cX9_isByte 4 (some .boolean)) (rmD 0) (va_Pc [.ref (ad 0), .int (iI (z_1)), .int (iI (z_2)), .int (iI (z_3))] (wPre D K ad (yG ad K) 21 v ar al)) (vp_Si (fun r => ∃ z : Int, (z = by01 (ar 5) w_1 z_1 z_2 z_3 ∧ (z = 0 ∨ (z = 1 ∧ z_1 < w_1))) ∧ r = iI z)) 0 0 (fun _ => False) := by
  refine s_metP (by decide) (Nat.le_of_ble_eq_true rfl) ?_
  intro p e s m below meth c ls args Q hE hB hl kr
  have hE : CallFix p m c cX9_isByte 4 s args tbG "TaleCourtModel" := hE
  obtain ⟨hP, hK, hN⟩ := hB
  have hl : lv_has ls 4 [(0, .ref (ad 0)), (1, .int (iI (z_1))), (2, .int (iI (z_2))), (3, .int (iI (z_3)))] := hl
  obtain ⟨tb, htb, et⟩ := by01_of (ar 5) w_1 z_1 z_2 z_3
  refine lv_iload_n hE.1 hE.2.1 dX9_isByte_0 rfl (lv_at hl 1 rfl) ?_
  refine lv_aload_n hE.1 hE.2.1 dX9_isByte_1 rfl (lv_at hl 0 rfl) ?_
  refine x_get (x := .int (v 0 6)) hE hK hP 0 (by decide) (yG_9 rfl) rfl hin9 6 (by decide) mw_1340 rfl dX9_isByte_2 ?_
  refine x_top (y := iI (w_1)) ew_1 ?_
  refine s_icmp_ge (a := z_1) (b := w_1) (tgt := 32) hE.1 hE.2.1 (by omega) (by omega) dX9_isByte_5 (by decide) (fun c1 => ?_) (fun c1 => ?_)
  · skip
    refine lv_iconst (v := iI (0)) hE.1 hE.2.1 dX9_isByte_32 (by decide) ?_
    exact kr _ _ _ (nar01 (by omega)) ⟨0, by omega, rfl⟩ dX9_isByte_33
  · skip
    refine lv_aload_n hE.1 hE.2.1 dX9_isByte_8 rfl (lv_at hl 0 rfl) ?_
    refine x_get (x := .ref (ad 5)) hE hK hP 0 (by decide) (yG_9 rfl) rfl hin9 5 (by decide) mw_1339 rfl dX9_isByte_9 ?_
    refine lv_iload_n hE.1 hE.2.1 dX9_isByte_12 rfl (lv_at hl 1 rfl) ?_
    refine x_bald (j := iI (z_1)) hE hK hP 5 (by decide) (yG_12 rfl) (iI_in (n := 1600) (by omega)) dX9_isByte_13 ?_
    refine x_top et ?_
    refine lv_iload_n hE.1 hE.2.1 dX9_isByte_14 rfl (lv_at hl 2 rfl) ?_
    refine s_icmp_lt (a := tb) (b := z_2) (tgt := 32) hE.1 hE.2.1 (by omega) (by omega) dX9_isByte_15 (by decide) (fun c3 => ?_) (fun c3 => ?_)
    · skip
      refine lv_iconst (v := iI (0)) hE.1 hE.2.1 dX9_isByte_32 (by decide) ?_
      exact kr _ _ _ (nar01 (by omega)) ⟨0, by omega, rfl⟩ dX9_isByte_33
    · skip
      refine lv_aload_n hE.1 hE.2.1 dX9_isByte_18 rfl (lv_at hl 0 rfl) ?_
      refine x_get (x := .ref (ad 5)) hE hK hP 0 (by decide) (yG_9 rfl) rfl hin9 5 (by decide) mw_1339 rfl dX9_isByte_19 ?_
      refine lv_iload_n hE.1 hE.2.1 dX9_isByte_22 rfl (lv_at hl 1 rfl) ?_
      refine x_bald (j := iI (z_1)) hE hK hP 5 (by decide) (yG_12 rfl) (iI_in (n := 1600) (by omega)) dX9_isByte_23 ?_
      refine x_top et ?_
      refine lv_iload_n hE.1 hE.2.1 dX9_isByte_24 rfl (lv_at hl 3 rfl) ?_
      refine s_icmp_gt (a := tb) (b := z_3) (tgt := 32) hE.1 hE.2.1 (by omega) (by omega) dX9_isByte_25 (by decide) (fun c5 => ?_) (fun c5 => ?_)
      · skip
        refine lv_iconst (v := iI (0)) hE.1 hE.2.1 dX9_isByte_32 (by decide) ?_
        exact kr _ _ _ (nar01 (by omega)) ⟨0, by omega, rfl⟩ dX9_isByte_33
      · skip
        refine lv_iconst (v := iI (1)) hE.1 hE.2.1 dX9_isByte_28 (by decide) ?_
        refine lv_goto (tgt := 33) hE.1 hE.2.1 dX9_isByte_29 (by decide) ?_
        exact kr _ _ _ (nar01 (by omega)) ⟨1, by omega, rfl⟩ dX9_isByte_33

theorem dX9_next_0 : decode cX9_next 0 = .ok (.aload_n 0, 1) := by decide +kernel
theorem dX9_next_1 : decode cX9_next 1 = .ok (.aload_n 0, 1) := by decide +kernel
theorem dX9_next_2 : decode cX9_next 2 = .ok (.getfield 105, 3) := by decide +kernel
theorem dX9_next_5 : decode cX9_next 5 = .ok (.bipush 32, 2) := by decide +kernel
theorem dX9_next_7 : decode cX9_next 7 = .ok (.bipush 32, 2) := by decide +kernel
theorem dX9_next_9 : decode cX9_next 9 = .ok (.invokevirtual 108, 3) := by decide +kernel
theorem dX9_next_12 : decode cX9_next 12 = .ok (.ifCond .ne 18, 3) := by decide +kernel
theorem dX9_next_15 : decode cX9_next 15 = .ok (.aload_n 0, 1) := by decide +kernel
theorem dX9_next_16 : decode cX9_next 16 = .ok (.aload_n 0, 1) := by decide +kernel
theorem dX9_next_17 : decode cX9_next 17 = .ok (.getfield 105, 3) := by decide +kernel
theorem dX9_next_20 : decode cX9_next 20 = .ok (.bipush 10, 2) := by decide +kernel
theorem dX9_next_22 : decode cX9_next 22 = .ok (.bipush 10, 2) := by decide +kernel
theorem dX9_next_24 : decode cX9_next 24 = .ok (.invokevirtual 108, 3) := by decide +kernel
theorem dX9_next_27 : decode cX9_next 27 = .ok (.ifCond .eq 16, 3) := by decide +kernel
theorem dX9_next_30 : decode cX9_next 30 = .ok (.aload_n 0, 1) := by decide +kernel
theorem dX9_next_31 : decode cX9_next 31 = .ok (.dup, 1) := by decide +kernel
theorem dX9_next_32 : decode cX9_next 32 = .ok (.getfield 105, 3) := by decide +kernel
theorem dX9_next_35 : decode cX9_next 35 = .ok (.iconst 1, 1) := by decide +kernel
theorem dX9_next_36 : decode cX9_next 36 = .ok (.iadd, 1) := by decide +kernel
theorem dX9_next_37 : decode cX9_next 37 = .ok (.putfield 105, 3) := by decide +kernel
theorem dX9_next_40 : decode cX9_next 40 = .ok (.goto (-40), 3) := by decide +kernel
theorem dX9_next_43 : decode cX9_next 43 = .ok (.aload_n 0, 1) := by decide +kernel
theorem dX9_next_44 : decode cX9_next 44 = .ok (.aload_n 0, 1) := by decide +kernel
theorem dX9_next_45 : decode cX9_next 45 = .ok (.getfield 105, 3) := by decide +kernel
theorem dX9_next_48 : decode cX9_next 48 = .ok (.putfield 112, 3) := by decide +kernel
theorem dX9_next_51 : decode cX9_next 51 = .ok (.aload_n 0, 1) := by decide +kernel
theorem dX9_next_52 : decode cX9_next 52 = .ok (.iconst 0, 1) := by decide +kernel
theorem dX9_next_53 : decode cX9_next 53 = .ok (.putfield 115, 3) := by decide +kernel
theorem dX9_next_56 : decode cX9_next 56 = .ok (.aload_n 0, 1) := by decide +kernel
theorem dX9_next_57 : decode cX9_next 57 = .ok (.lconst 0, 1) := by decide +kernel
theorem dX9_next_58 : decode cX9_next 58 = .ok (.putfield 118, 3) := by decide +kernel
theorem dX9_next_61 : decode cX9_next 61 = .ok (.aload_n 0, 1) := by decide +kernel
theorem dX9_next_62 : decode cX9_next 62 = .ok (.getfield 105, 3) := by decide +kernel
theorem dX9_next_65 : decode cX9_next 65 = .ok (.aload_n 0, 1) := by decide +kernel
theorem dX9_next_66 : decode cX9_next 66 = .ok (.getfield 98, 3) := by decide +kernel
theorem dX9_next_69 : decode cX9_next 69 = .ok (.if_icmp .ne 11, 3) := by decide +kernel
theorem dX9_next_72 : decode cX9_next 72 = .ok (.aload_n 0, 1) := by decide +kernel
theorem dX9_next_73 : decode cX9_next 73 = .ok (.iconst 0, 1) := by decide +kernel
theorem dX9_next_74 : decode cX9_next 74 = .ok (.putfield 122, 3) := by decide +kernel
theorem dX9_next_77 : decode cX9_next 77 = .ok (.goto 230, 3) := by decide +kernel
theorem dX9_next_80 : decode cX9_next 80 = .ok (.aload_n 0, 1) := by decide +kernel
theorem dX9_next_81 : decode cX9_next 81 = .ok (.aload_n 0, 1) := by decide +kernel
theorem dX9_next_82 : decode cX9_next 82 = .ok (.getfield 105, 3) := by decide +kernel
theorem dX9_next_85 : decode cX9_next 85 = .ok (.bipush 97, 2) := by decide +kernel
theorem dX9_next_87 : decode cX9_next 87 = .ok (.bipush 122, 2) := by decide +kernel
theorem dX9_next_89 : decode cX9_next 89 = .ok (.invokevirtual 108, 3) := by decide +kernel
theorem dX9_next_92 : decode cX9_next 92 = .ok (.ifCond .eq 96, 3) := by decide +kernel
theorem dX9_next_95 : decode cX9_next 95 = .ok (.aload_n 0, 1) := by decide +kernel
theorem dX9_next_96 : decode cX9_next 96 = .ok (.iconst 1, 1) := by decide +kernel
theorem dX9_next_97 : decode cX9_next 97 = .ok (.putfield 122, 3) := by decide +kernel
theorem dX9_next_100 : decode cX9_next 100 = .ok (.iconst 0, 1) := by decide +kernel
theorem dX9_next_101 : decode cX9_next 101 = .ok (.istore_n 1, 1) := by decide +kernel
theorem dX9_next_102 : decode cX9_next 102 = .ok (.aload_n 0, 1) := by decide +kernel
theorem dX9_next_103 : decode cX9_next 103 = .ok (.aload_n 0, 1) := by decide +kernel
theorem dX9_next_104 : decode cX9_next 104 = .ok (.getfield 105, 3) := by decide +kernel
theorem dX9_next_107 : decode cX9_next 107 = .ok (.bipush 97, 2) := by decide +kernel
theorem dX9_next_109 : decode cX9_next 109 = .ok (.bipush 122, 2) := by decide +kernel
theorem dX9_next_111 : decode cX9_next 111 = .ok (.invokevirtual 108, 3) := by decide +kernel
theorem dX9_next_114 : decode cX9_next 114 = .ok (.ifCond .eq 71, 3) := by decide +kernel
theorem dX9_next_117 : decode cX9_next 117 = .ok (.aload_n 0, 1) := by decide +kernel
theorem dX9_next_118 : decode cX9_next 118 = .ok (.iload_n 1, 1) := by decide +kernel
theorem dX9_next_119 : decode cX9_next 119 = .ok (.bipush 11, 2) := by decide +kernel
theorem dX9_next_121 : decode cX9_next 121 = .ok (.if_icmp .le 9, 3) := by decide +kernel
theorem dX9_next_124 : decode cX9_next 124 = .ok (.ldc2_w 125, 3) := by decide +kernel
theorem dX9_next_127 : decode cX9_next 127 = .ok (.goto 26, 3) := by decide +kernel
theorem dX9_next_130 : decode cX9_next 130 = .ok (.ldc2_w 127, 3) := by decide +kernel
theorem dX9_next_133 : decode cX9_next 133 = .ok (.aload_n 0, 1) := by decide +kernel
theorem dX9_next_134 : decode cX9_next 134 = .ok (.getfield 118, 3) := by decide +kernel
theorem dX9_next_137 : decode cX9_next 137 = .ok (.lmul, 1) := by decide +kernel
theorem dX9_next_138 : decode cX9_next 138 = .ok (.aload_n 0, 1) := by decide +kernel
theorem dX9_next_139 : decode cX9_next 139 = .ok (.getfield 23, 3) := by decide +kernel
theorem dX9_next_142 : decode cX9_next 142 = .ok (.aload_n 0, 1) := by decide +kernel
theorem dX9_next_143 : decode cX9_next 143 = .ok (.getfield 105, 3) := by decide +kernel
theorem dX9_next_146 : decode cX9_next 146 = .ok (.baload, 1) := by decide +kernel
theorem dX9_next_147 : decode cX9_next 147 = .ok (.i2l, 1) := by decide +kernel
theorem dX9_next_148 : decode cX9_next 148 = .ok (.ladd, 1) := by decide +kernel
theorem dX9_next_149 : decode cX9_next 149 = .ok (.ldc2_w 129, 3) := by decide +kernel
theorem dX9_next_152 : decode cX9_next 152 = .ok (.lsub, 1) := by decide +kernel
theorem dX9_next_153 : decode cX9_next 153 = .ok (.putfield 118, 3) := by decide +kernel
theorem dX9_next_156 : decode cX9_next 156 = .ok (.iload_n 1, 1) := by decide +kernel
theorem dX9_next_157 : decode cX9_next 157 = .ok (.bipush 11, 2) := by decide +kernel
theorem dX9_next_159 : decode cX9_next 159 = .ok (.if_icmp .le 10, 3) := by decide +kernel
theorem dX9_next_162 : decode cX9_next 162 = .ok (.aload_n 0, 1) := by decide +kernel
theorem dX9_next_163 : decode cX9_next 163 = .ok (.ldc2_w 125, 3) := by decide +kernel
theorem dX9_next_166 : decode cX9_next 166 = .ok (.putfield 118, 3) := by decide +kernel
theorem dX9_next_169 : decode cX9_next 169 = .ok (.aload_n 0, 1) := by decide +kernel
theorem dX9_next_170 : decode cX9_next 170 = .ok (.dup, 1) := by decide +kernel
theorem dX9_next_171 : decode cX9_next 171 = .ok (.getfield 105, 3) := by decide +kernel
theorem dX9_next_174 : decode cX9_next 174 = .ok (.iconst 1, 1) := by decide +kernel
theorem dX9_next_175 : decode cX9_next 175 = .ok (.iadd, 1) := by decide +kernel
theorem dX9_next_176 : decode cX9_next 176 = .ok (.putfield 105, 3) := by decide +kernel
theorem dX9_next_179 : decode cX9_next 179 = .ok (.iinc 1 1, 3) := by decide +kernel
theorem dX9_next_182 : decode cX9_next 182 = .ok (.goto (-80), 3) := by decide +kernel
theorem dX9_next_185 : decode cX9_next 185 = .ok (.goto 122, 3) := by decide +kernel
theorem dX9_next_188 : decode cX9_next 188 = .ok (.aload_n 0, 1) := by decide +kernel
theorem dX9_next_189 : decode cX9_next 189 = .ok (.aload_n 0, 1) := by decide +kernel
theorem dX9_next_190 : decode cX9_next 190 = .ok (.getfield 105, 3) := by decide +kernel
theorem dX9_next_193 : decode cX9_next 193 = .ok (.bipush 48, 2) := by decide +kernel
theorem dX9_next_195 : decode cX9_next 195 = .ok (.bipush 57, 2) := by decide +kernel
theorem dX9_next_197 : decode cX9_next 197 = .ok (.invokevirtual 108, 3) := by decide +kernel
theorem dX9_next_200 : decode cX9_next 200 = .ok (.ifCond .eq 74, 3) := by decide +kernel
theorem dX9_next_203 : decode cX9_next 203 = .ok (.aload_n 0, 1) := by decide +kernel
theorem dX9_next_204 : decode cX9_next 204 = .ok (.iconst 2, 1) := by decide +kernel
theorem dX9_next_205 : decode cX9_next 205 = .ok (.putfield 122, 3) := by decide +kernel
theorem dX9_next_208 : decode cX9_next 208 = .ok (.aload_n 0, 1) := by decide +kernel
theorem dX9_next_209 : decode cX9_next 209 = .ok (.aload_n 0, 1) := by decide +kernel
theorem dX9_next_210 : decode cX9_next 210 = .ok (.getfield 105, 3) := by decide +kernel
theorem dX9_next_213 : decode cX9_next 213 = .ok (.bipush 48, 2) := by decide +kernel
theorem dX9_next_215 : decode cX9_next 215 = .ok (.bipush 57, 2) := by decide +kernel
theorem dX9_next_217 : decode cX9_next 217 = .ok (.invokevirtual 108, 3) := by decide +kernel
theorem dX9_next_220 : decode cX9_next 220 = .ok (.ifCond .eq 87, 3) := by decide +kernel
theorem dX9_next_223 : decode cX9_next 223 = .ok (.aload_n 0, 1) := by decide +kernel
theorem dX9_next_224 : decode cX9_next 224 = .ok (.aload_n 0, 1) := by decide +kernel
theorem dX9_next_225 : decode cX9_next 225 = .ok (.getfield 115, 3) := by decide +kernel
theorem dX9_next_228 : decode cX9_next 228 = .ok (.ldc 131, 2) := by decide +kernel
theorem dX9_next_230 : decode cX9_next 230 = .ok (.if_icmp .le 8, 3) := by decide +kernel
theorem dX9_next_233 : decode cX9_next 233 = .ok (.ldc 132, 2) := by decide +kernel
theorem dX9_next_235 : decode cX9_next 235 = .ok (.goto 23, 3) := by decide +kernel
theorem dX9_next_238 : decode cX9_next 238 = .ok (.bipush 10, 2) := by decide +kernel
theorem dX9_next_240 : decode cX9_next 240 = .ok (.aload_n 0, 1) := by decide +kernel
theorem dX9_next_241 : decode cX9_next 241 = .ok (.getfield 115, 3) := by decide +kernel
theorem dX9_next_244 : decode cX9_next 244 = .ok (.imul, 1) := by decide +kernel
theorem dX9_next_245 : decode cX9_next 245 = .ok (.aload_n 0, 1) := by decide +kernel
theorem dX9_next_246 : decode cX9_next 246 = .ok (.getfield 23, 3) := by decide +kernel
theorem dX9_next_249 : decode cX9_next 249 = .ok (.aload_n 0, 1) := by decide +kernel
theorem dX9_next_250 : decode cX9_next 250 = .ok (.getfield 105, 3) := by decide +kernel
theorem dX9_next_253 : decode cX9_next 253 = .ok (.baload, 1) := by decide +kernel
theorem dX9_next_254 : decode cX9_next 254 = .ok (.iadd, 1) := by decide +kernel
theorem dX9_next_255 : decode cX9_next 255 = .ok (.bipush 48, 2) := by decide +kernel
theorem dX9_next_257 : decode cX9_next 257 = .ok (.isub, 1) := by decide +kernel
theorem dX9_next_258 : decode cX9_next 258 = .ok (.putfield 115, 3) := by decide +kernel
theorem dX9_next_261 : decode cX9_next 261 = .ok (.aload_n 0, 1) := by decide +kernel
theorem dX9_next_262 : decode cX9_next 262 = .ok (.dup, 1) := by decide +kernel
theorem dX9_next_263 : decode cX9_next 263 = .ok (.getfield 105, 3) := by decide +kernel
theorem dX9_next_266 : decode cX9_next 266 = .ok (.iconst 1, 1) := by decide +kernel
theorem dX9_next_267 : decode cX9_next 267 = .ok (.iadd, 1) := by decide +kernel
theorem dX9_next_268 : decode cX9_next 268 = .ok (.putfield 105, 3) := by decide +kernel
theorem dX9_next_271 : decode cX9_next 271 = .ok (.goto (-63), 3) := by decide +kernel
theorem dX9_next_274 : decode cX9_next 274 = .ok (.aload_n 0, 1) := by decide +kernel
theorem dX9_next_275 : decode cX9_next 275 = .ok (.aload_n 0, 1) := by decide +kernel
theorem dX9_next_276 : decode cX9_next 276 = .ok (.getfield 23, 3) := by decide +kernel
theorem dX9_next_279 : decode cX9_next 279 = .ok (.aload_n 0, 1) := by decide +kernel
theorem dX9_next_280 : decode cX9_next 280 = .ok (.getfield 105, 3) := by decide +kernel
theorem dX9_next_283 : decode cX9_next 283 = .ok (.baload, 1) := by decide +kernel
theorem dX9_next_284 : decode cX9_next 284 = .ok (.bipush 59, 2) := by decide +kernel
theorem dX9_next_286 : decode cX9_next 286 = .ok (.if_icmp .ne 7, 3) := by decide +kernel
theorem dX9_next_289 : decode cX9_next 289 = .ok (.iconst 3, 1) := by decide +kernel
theorem dX9_next_290 : decode cX9_next 290 = .ok (.goto 4, 3) := by decide +kernel
theorem dX9_next_293 : decode cX9_next 293 = .ok (.iconst 4, 1) := by decide +kernel
theorem dX9_next_294 : decode cX9_next 294 = .ok (.putfield 122, 3) := by decide +kernel
theorem dX9_next_297 : decode cX9_next 297 = .ok (.aload_n 0, 1) := by decide +kernel
theorem dX9_next_298 : decode cX9_next 298 = .ok (.dup, 1) := by decide +kernel
theorem dX9_next_299 : decode cX9_next 299 = .ok (.getfield 105, 3) := by decide +kernel
theorem dX9_next_302 : decode cX9_next 302 = .ok (.iconst 1, 1) := by decide +kernel
theorem dX9_next_303 : decode cX9_next 303 = .ok (.iadd, 1) := by decide +kernel
theorem dX9_next_304 : decode cX9_next 304 = .ok (.putfield 105, 3) := by decide +kernel
theorem dX9_next_307 : decode cX9_next 307 = .ok (.return_, 1) := by decide +kernel
set_option maxHeartbeats 4000000 in
set_option maxRecDepth 100000 in
theorem s_X9_next (l : Launch) (D : va_G) (K : Nat → ClassId) (ad : Nat → Nat) (v ar : sI) (al : sL) (hI : YI v ar) (w_1 : Int) (hw_1 : 0 ≤ w_1 ∧ w_1 ≤ 1600) (ew_1 : v 0 6 = iI w_1) (w_2 : Int) (hw_2 : 0 ≤ w_2 ∧ w_2 ≤ 1600) (ew_2 : v 0 7 = iI w_2) (hyp : w_2 ≤ w_1) : Met l yX9_next (wM yX9_next cX9_next 2 none) (rmD 1) (va_Pc [.ref (ad 0)] (wPre D K ad (yG ad K) 21 v ar al)) (va_Qv (fun u : sT => YI u.1 u.2.1 ∧ (∀ i j : Nat, (i, j) ∉ ([(0, 7), (0, 8), (0, 9), (0, 10)] : List (Nat × Nat)) → u.1 i j = v i j) ∧ (∀ i : Nat, i ∉ ([] : List Nat) → u.2.1 i = ar i) ∧ (∀ i : Nat, i ∉ ([0] : List Nat) → u.2.2 i = al i) ∧ (∃ x_1 x_2 : Int, (0 ≤ x_1 ∧ x_1 ≤ 1600 ∧ 0 ≤ x_2 ∧ x_2 ≤ 4 ∧ (w_2 ≤ x_1 ∧ x_1 ≤ w_1 ∧ 0 ≤ x_2 ∧ x_2 ≤ 4 ∧ (x_2 = 0 ∨ w_2 + 1 ≤ x_1))) ∧ u.1 0 7 = iI x_1 ∧ u.1 0 8 = iI x_2)) (wB D ad (yG ad K) 21) (inW ad 21)) 0 0 (inW ad 21) := by
  refine s_metV (by decide) (Nat.le_of_ble_eq_true rfl) ?_
  intro p e s m below meth c ls args Q hE hB hl kr
  have hE : CallFix p m c cX9_next 2 s args tbG "TaleCourtModel" := hE
  obtain ⟨hP, hK, hN⟩ := hB
  have hS : va_S (inW ad 21) s.heap s.heap [] := va_S.rf
  have hl : lv_has ls 2 [(0, .ref (ad 0))] := hl
  have loop1 : ∀ (k1 : Nat) (yf1_0 : Int) (vl1 : sI) (all1 : sL) (H : Heap) (locs : List Loc) (ls : Array Slot), (1600 - yf1_0).toNat = k1 → (0 ≤ yf1_0 ∧ yf1_0 ≤ 1600 ∧ (yf1_0 ≤ w_1 ∧ w_2 ≤ yf1_0)) → (vl1 0 7 = iI yf1_0) → YI vl1 ar → (∀ i j : Nat, (i, j) ∉ ([(0, 7)] : List (Nat × Nat)) → vl1 i j = v i j) → (∀ i : Nat, i ∉ ([] : List Nat) → all1 i = al i) → va_P D xcl (wW ad (yG ad K) 21 vl1 ar all1) H → va_S (inW ad 21) s.heap H locs → lv_has ls 2 [(0, .ref (ad 0))] → W p l e (rmD 1) s m args below meth c H locs 0 0 Q (F0 m 0 ls []) := by
    intro k1
    induction k1 using Nat.strongRecOn with
    | _ k1 ih1 =>
      intro  yf1_0 vl1 all1 H locs ls hk1  hyf1 eyf1_0 hI hfr1 hfl1 hP hS hl
      refine lv_aload_n hE.1 hE.2.1 dX9_next_0 rfl (lv_at hl 0 rfl) ?_
      refine lv_aload_n hE.1 hE.2.1 dX9_next_1 rfl (lv_at hl 0 rfl) ?_
      refine x_get (x := .int (vl1 0 7)) hE hK hP 0 (by decide) (yG_9 rfl) rfl hin9 7 (by decide) mw_1341 rfl dX9_next_2 ?_
      refine x_top (y := iI (yf1_0)) eyf1_0 ?_
      refine lv_bipush (v := iI (32)) hE.1 hE.2.1 dX9_next_5 (by decide) ?_
      refine lv_bipush (v := iI (32)) hE.1 hE.2.1 dX9_next_7 (by decide) ?_
      refine x_vp (nn := 3) (As := [.int (iI (yf1_0)), .int (iI (32)), .int (iI (32))]) (rest := []) hE (s_X9_isByte l D K ad vl1 ar all1 hI (w_1) (by omega) ((hfr1 0 6 (by decide)).trans ew_1) (yf1_0) (by omega) (32) (by omega) (32) (by omega)) wPre_blind (wPre_now hK hN hP) (x_recv hK hP 0 (by decide) (yG_9 rfl) rfl) rfl mw_1540 mw_1542 mw_51 mw_123 mw_1543 (by decide +kernel) ⟨by decide, by decide⟩ hl.1 rfl (Nat.le_of_ble_eq_true rfl) ⟨Nat.zero_le _, Nat.zero_le _⟩ dX9_next_9 (fun r2 hr2 => ?_)
      obtain ⟨z2, hz2, rfl⟩ := hr2
      refine s_if_ne (a := z2) (tgt := 30) hE.1 hE.2.1 (by omega) dX9_next_12 (by decide) (fun c3 => ?_) (fun c3 => ?_)
      · skip
        refine lv_aload_n hE.1 hE.2.1 dX9_next_30 rfl (lv_at hl 0 rfl) ?_
        refine lv_dup hE.1 hE.2.1 dX9_next_31 rfl ?_
        refine x_get (x := .int (vl1 0 7)) hE hK hP 0 (by decide) (yG_9 rfl) rfl hin9 7 (by decide) mw_1341 rfl dX9_next_32 ?_
        refine x_top (y := iI (yf1_0)) eyf1_0 ?_
        refine lv_iconst (v := iI (1)) hE.1 hE.2.1 dX9_next_35 (by decide) ?_
        refine lv_iadd hE.1 hE.2.1 dX9_next_36 ?_
        refine x_top (y := iI (yf1_0 + 1)) ((iI_add (yf1_0) (1)).trans (congrArg iI (by omega))) ?_
        refine x_put (x := iI (yf1_0 + 1)) hE hK hN hP hS 0 (by decide) (yG_9 rfl) rfl hin9 tyX9 tyX9_ok nmX9 7 (by decide) mw_1341 rfl rfl rfl (Nat.le_of_ble_eq_true rfl) (yG_9 rfl) dX9_next_37 (fun v4 H locs hv4 hP hS => ?_)
        have hI := YI_putB (z := yf1_0 + 1) hI hv4 0 1600 (by omega) (by decide) (by omega)
        refine lv_goto (tgt := 0) hE.1 hE.2.1 dX9_next_40 (by decide) ?_
        exact ih1 _ (by omega)  (yf1_0 + 1) v4  all1 _ _ _ rfl  (by omega) (up_eq hv4) hI (fun i j h => ((up_oth hv4 (fun q => h (by rcases q with ⟨rfl, rfl⟩; decide))).trans (hfr1 i j h))) (fun i h => (hfl1 i h)) hP hS (lv_sub hl [0] rfl)
      · skip
        refine lv_aload_n hE.1 hE.2.1 dX9_next_15 rfl (lv_at hl 0 rfl) ?_
        refine lv_aload_n hE.1 hE.2.1 dX9_next_16 rfl (lv_at hl 0 rfl) ?_
        refine x_get (x := .int (vl1 0 7)) hE hK hP 0 (by decide) (yG_9 rfl) rfl hin9 7 (by decide) mw_1341 rfl dX9_next_17 ?_
        refine x_top (y := iI (yf1_0)) eyf1_0 ?_
        refine lv_bipush (v := iI (10)) hE.1 hE.2.1 dX9_next_20 (by decide) ?_
        refine lv_bipush (v := iI (10)) hE.1 hE.2.1 dX9_next_22 (by decide) ?_
        refine x_vp (nn := 3) (As := [.int (iI (yf1_0)), .int (iI (10)), .int (iI (10))]) (rest := []) hE (s_X9_isByte l D K ad vl1 ar all1 hI (w_1) (by omega) ((hfr1 0 6 (by decide)).trans ew_1) (yf1_0) (by omega) (10) (by omega) (10) (by omega)) wPre_blind (wPre_now hK hN hP) (x_recv hK hP 0 (by decide) (yG_9 rfl) rfl) rfl mw_1540 mw_1542 mw_51 mw_123 mw_1543 (by decide +kernel) ⟨by decide, by decide⟩ hl.1 rfl (Nat.le_of_ble_eq_true rfl) ⟨Nat.zero_le _, Nat.zero_le _⟩ dX9_next_24 (fun r5 hr5 => ?_)
        obtain ⟨z5, hz5, rfl⟩ := hr5
        refine s_if_eq (a := z5) (tgt := 43) hE.1 hE.2.1 (by omega) dX9_next_27 (by decide) (fun c6 => ?_) (fun c6 => ?_)
        · skip
          refine lv_aload_n hE.1 hE.2.1 dX9_next_43 rfl (lv_at hl 0 rfl) ?_
          refine lv_aload_n hE.1 hE.2.1 dX9_next_44 rfl (lv_at hl 0 rfl) ?_
          refine x_get (x := .int (vl1 0 7)) hE hK hP 0 (by decide) (yG_9 rfl) rfl hin9 7 (by decide) mw_1341 rfl dX9_next_45 ?_
          refine x_top (y := iI (yf1_0)) eyf1_0 ?_
          refine x_put (x := iI (yf1_0)) hE hK hN hP hS 0 (by decide) (yG_9 rfl) rfl hin9 tyX9 tyX9_ok nmX9 9 (by decide) mw_1343 rfl rfl rfl (Nat.le_of_ble_eq_true rfl) (yG_9 rfl) dX9_next_48 (fun v7 H locs hv7 hP hS => ?_)
          have hI := YI_putN hI hv7 (by decide)
          refine lv_aload_n hE.1 hE.2.1 dX9_next_51 rfl (lv_at hl 0 rfl) ?_
          refine lv_iconst (v := iI (0)) hE.1 hE.2.1 dX9_next_52 (by decide) ?_
          refine x_put (x := iI (0)) hE hK hN hP hS 0 (by decide) (yG_9 rfl) rfl hin9 tyX9 tyX9_ok nmX9 10 (by decide) mw_1344 rfl rfl rfl (Nat.le_of_ble_eq_true rfl) (yG_9 rfl) dX9_next_53 (fun v8 H locs hv8 hP hS => ?_)
          have hI := YI_putN hI hv8 (by decide)
          refine lv_aload_n hE.1 hE.2.1 dX9_next_56 rfl (lv_at hl 0 rfl) ?_
          refine lv_lconst (v := lI (0)) hE.1 hE.2.1 dX9_next_57 (by decide) ?_
          refine x_putl (x := lI (0)) hE hK hN hP hS 0 (by decide) (yG_9 rfl) rfl hin9 tyX9 tyX9_ok nmX9 11 (by decide) mw_1345 rfl rfl rfl (Nat.le_of_ble_eq_true rfl) (yG_9 rfl) dX9_next_58 (fun al9 H locs ha9 hP hS => ?_)
          refine lv_aload_n hE.1 hE.2.1 dX9_next_61 rfl (lv_at hl 0 rfl) ?_
          refine x_get (x := .int (v8 0 7)) hE hK hP 0 (by decide) (yG_9 rfl) rfl hin9 7 (by decide) mw_1341 rfl dX9_next_62 ?_
          refine x_top (y := iI (yf1_0)) ((up_oth hv8 (by decide)).trans ((up_oth hv7 (by decide)).trans eyf1_0)) ?_
          refine lv_aload_n hE.1 hE.2.1 dX9_next_65 rfl (lv_at hl 0 rfl) ?_
          refine x_get (x := .int (v8 0 6)) hE hK hP 0 (by decide) (yG_9 rfl) rfl hin9 6 (by decide) mw_1340 rfl dX9_next_66 ?_
          refine x_top (y := iI (w_1)) ((up_oth hv8 (by decide)).trans ((up_oth hv7 (by decide)).trans ((hfr1 0 6 (by decide)).trans ew_1))) ?_
          refine s_icmp_ne (a := yf1_0) (b := w_1) (tgt := 80) hE.1 hE.2.1 (by omega) (by omega) dX9_next_69 (by decide) (fun c10 => ?_) (fun c10 => ?_)
          · skip
            refine lv_aload_n hE.1 hE.2.1 dX9_next_80 rfl (lv_at hl 0 rfl) ?_
            refine lv_aload_n hE.1 hE.2.1 dX9_next_81 rfl (lv_at hl 0 rfl) ?_
            refine x_get (x := .int (v8 0 7)) hE hK hP 0 (by decide) (yG_9 rfl) rfl hin9 7 (by decide) mw_1341 rfl dX9_next_82 ?_
            refine x_top (y := iI (yf1_0)) ((up_oth hv8 (by decide)).trans ((up_oth hv7 (by decide)).trans eyf1_0)) ?_
            refine lv_bipush (v := iI (97)) hE.1 hE.2.1 dX9_next_85 (by decide) ?_
            refine lv_bipush (v := iI (122)) hE.1 hE.2.1 dX9_next_87 (by decide) ?_
            refine x_vp (nn := 3) (As := [.int (iI (yf1_0)), .int (iI (97)), .int (iI (122))]) (rest := []) hE (s_X9_isByte l D K ad v8 ar al9 hI (w_1) (by omega) ((up_oth hv8 (by decide)).trans ((up_oth hv7 (by decide)).trans ((hfr1 0 6 (by decide)).trans ew_1))) (yf1_0) (by omega) (97) (by omega) (122) (by omega)) wPre_blind (wPre_now hK hN hP) (x_recv hK hP 0 (by decide) (yG_9 rfl) rfl) rfl mw_1540 mw_1542 mw_51 mw_123 mw_1543 (by decide +kernel) ⟨by decide, by decide⟩ hl.1 rfl (Nat.le_of_ble_eq_true rfl) ⟨Nat.zero_le _, Nat.zero_le _⟩ dX9_next_89 (fun r11 hr11 => ?_)
            obtain ⟨z11, hz11, rfl⟩ := hr11
            refine s_if_eq (a := z11) (tgt := 188) hE.1 hE.2.1 (by omega) dX9_next_92 (by decide) (fun c12 => ?_) (fun c12 => ?_)
            · skip
              refine lv_aload_n hE.1 hE.2.1 dX9_next_188 rfl (lv_at hl 0 rfl) ?_
              refine lv_aload_n hE.1 hE.2.1 dX9_next_189 rfl (lv_at hl 0 rfl) ?_
              refine x_get (x := .int (v8 0 7)) hE hK hP 0 (by decide) (yG_9 rfl) rfl hin9 7 (by decide) mw_1341 rfl dX9_next_190 ?_
              refine x_top (y := iI (yf1_0)) ((up_oth hv8 (by decide)).trans ((up_oth hv7 (by decide)).trans eyf1_0)) ?_
              refine lv_bipush (v := iI (48)) hE.1 hE.2.1 dX9_next_193 (by decide) ?_
              refine lv_bipush (v := iI (57)) hE.1 hE.2.1 dX9_next_195 (by decide) ?_
              refine x_vp (nn := 3) (As := [.int (iI (yf1_0)), .int (iI (48)), .int (iI (57))]) (rest := []) hE (s_X9_isByte l D K ad v8 ar al9 hI (w_1) (by omega) ((up_oth hv8 (by decide)).trans ((up_oth hv7 (by decide)).trans ((hfr1 0 6 (by decide)).trans ew_1))) (yf1_0) (by omega) (48) (by omega) (57) (by omega)) wPre_blind (wPre_now hK hN hP) (x_recv hK hP 0 (by decide) (yG_9 rfl) rfl) rfl mw_1540 mw_1542 mw_51 mw_123 mw_1543 (by decide +kernel) ⟨by decide, by decide⟩ hl.1 rfl (Nat.le_of_ble_eq_true rfl) ⟨Nat.zero_le _, Nat.zero_le _⟩ dX9_next_197 (fun r13 hr13 => ?_)
              obtain ⟨z13, hz13, rfl⟩ := hr13
              refine s_if_eq (a := z13) (tgt := 274) hE.1 hE.2.1 (by omega) dX9_next_200 (by decide) (fun c14 => ?_) (fun c14 => ?_)
              · skip
                refine lv_aload_n hE.1 hE.2.1 dX9_next_274 rfl (lv_at hl 0 rfl) ?_
                refine lv_aload_n hE.1 hE.2.1 dX9_next_275 rfl (lv_at hl 0 rfl) ?_
                refine x_get (x := .ref (ad 5)) hE hK hP 0 (by decide) (yG_9 rfl) rfl hin9 5 (by decide) mw_1339 rfl dX9_next_276 ?_
                refine lv_aload_n hE.1 hE.2.1 dX9_next_279 rfl (lv_at hl 0 rfl) ?_
                refine x_get (x := .int (v8 0 7)) hE hK hP 0 (by decide) (yG_9 rfl) rfl hin9 7 (by decide) mw_1341 rfl dX9_next_280 ?_
                refine x_top (y := iI (yf1_0)) ((up_oth hv8 (by decide)).trans ((up_oth hv7 (by decide)).trans eyf1_0)) ?_
                refine x_bald (j := iI (yf1_0)) hE hK hP 5 (by decide) (yG_12 rfl) (iI_in (n := 1600) (by omega)) dX9_next_283 ?_
                obtain ⟨z17, hz17, ez17⟩ := iI_of (ar 5 (iI (yf1_0)).toNatClampNeg)
                refine x_top ez17 ?_
                refine lv_bipush (v := iI (59)) hE.1 hE.2.1 dX9_next_284 (by decide) ?_
                refine s_icmp_ne (a := z17) (b := 59) (tgt := 293) hE.1 hE.2.1 (by omega) (by omega) dX9_next_286 (by decide) (fun c18 => ?_) (fun c18 => ?_)
                · skip
                  refine lv_iconst (v := iI (4)) hE.1 hE.2.1 dX9_next_293 (by decide) ?_
                  refine x_put (x := iI (4)) hE hK hN hP hS 0 (by decide) (yG_9 rfl) rfl hin9 tyX9 tyX9_ok nmX9 8 (by decide) mw_1342 rfl rfl rfl (Nat.le_of_ble_eq_true rfl) (yG_9 rfl) dX9_next_294 (fun v19 H locs hv19 hP hS => ?_)
                  have hI := YI_putN hI hv19 (by decide)
                  refine lv_aload_n hE.1 hE.2.1 dX9_next_297 rfl (lv_at hl 0 rfl) ?_
                  refine lv_dup hE.1 hE.2.1 dX9_next_298 rfl ?_
                  refine x_get (x := .int (v19 0 7)) hE hK hP 0 (by decide) (yG_9 rfl) rfl hin9 7 (by decide) mw_1341 rfl dX9_next_299 ?_
                  refine x_top (y := iI (yf1_0)) ((up_oth hv19 (by decide)).trans ((up_oth hv8 (by decide)).trans ((up_oth hv7 (by decide)).trans eyf1_0))) ?_
                  refine lv_iconst (v := iI (1)) hE.1 hE.2.1 dX9_next_302 (by decide) ?_
                  refine lv_iadd hE.1 hE.2.1 dX9_next_303 ?_
                  refine x_top (y := iI (yf1_0 + 1)) ((iI_add (yf1_0) (1)).trans (congrArg iI (by omega))) ?_
                  refine x_put (x := iI (yf1_0 + 1)) hE hK hN hP hS 0 (by decide) (yG_9 rfl) rfl hin9 tyX9 tyX9_ok nmX9 7 (by decide) mw_1341 rfl rfl rfl (Nat.le_of_ble_eq_true rfl) (yG_9 rfl) dX9_next_304 (fun v20 H locs hv20 hP hS => ?_)
                  have hI := YI_putB (z := yf1_0 + 1) hI hv20 0 1600 (by omega) (by decide) (by omega)
                  exact kr v20 ar al9 _ _ _ _ ⟨hI, fun i j h => ((up_oth hv20 (fun q => h (by rcases q with ⟨rfl, rfl⟩; decide))).trans ((up_oth hv19 (fun q => h (by rcases q with ⟨rfl, rfl⟩; decide))).trans ((up_oth hv8 (fun q => h (by rcases q with ⟨rfl, rfl⟩; decide))).trans ((up_oth hv7 (fun q => h (by rcases q with ⟨rfl, rfl⟩; decide))).trans (hfr1 i j (fun q => h (mem_sub (by decide) q))))))), fun i h => rfl, fun i h => ((upx_ne ha9 i (fun q => h (by rw [q]; decide))).trans (hfl1 i (fun q => h (mem_subn (by decide) q)))), yf1_0 + 1, 4, by omega, (up_eq hv20), ((up_oth hv20 (by decide)).trans (up_eq hv19))⟩ hP hS dX9_next_307
                · skip
                  refine lv_iconst (v := iI (3)) hE.1 hE.2.1 dX9_next_289 (by decide) ?_
                  refine lv_goto (tgt := 294) hE.1 hE.2.1 dX9_next_290 (by decide) ?_
                  refine x_put (x := iI (3)) hE hK hN hP hS 0 (by decide) (yG_9 rfl) rfl hin9 tyX9 tyX9_ok nmX9 8 (by decide) mw_1342 rfl rfl rfl (Nat.le_of_ble_eq_true rfl) (yG_9 rfl) dX9_next_294 (fun v21 H locs hv21 hP hS => ?_)
                  have hI := YI_putN hI hv21 (by decide)
                  refine lv_aload_n hE.1 hE.2.1 dX9_next_297 rfl (lv_at hl 0 rfl) ?_
                  refine lv_dup hE.1 hE.2.1 dX9_next_298 rfl ?_
                  refine x_get (x := .int (v21 0 7)) hE hK hP 0 (by decide) (yG_9 rfl) rfl hin9 7 (by decide) mw_1341 rfl dX9_next_299 ?_
                  refine x_top (y := iI (yf1_0)) ((up_oth hv21 (by decide)).trans ((up_oth hv8 (by decide)).trans ((up_oth hv7 (by decide)).trans eyf1_0))) ?_
                  refine lv_iconst (v := iI (1)) hE.1 hE.2.1 dX9_next_302 (by decide) ?_
                  refine lv_iadd hE.1 hE.2.1 dX9_next_303 ?_
                  refine x_top (y := iI (yf1_0 + 1)) ((iI_add (yf1_0) (1)).trans (congrArg iI (by omega))) ?_
                  refine x_put (x := iI (yf1_0 + 1)) hE hK hN hP hS 0 (by decide) (yG_9 rfl) rfl hin9 tyX9 tyX9_ok nmX9 7 (by decide) mw_1341 rfl rfl rfl (Nat.le_of_ble_eq_true rfl) (yG_9 rfl) dX9_next_304 (fun v22 H locs hv22 hP hS => ?_)
                  have hI := YI_putB (z := yf1_0 + 1) hI hv22 0 1600 (by omega) (by decide) (by omega)
                  exact kr v22 ar al9 _ _ _ _ ⟨hI, fun i j h => ((up_oth hv22 (fun q => h (by rcases q with ⟨rfl, rfl⟩; decide))).trans ((up_oth hv21 (fun q => h (by rcases q with ⟨rfl, rfl⟩; decide))).trans ((up_oth hv8 (fun q => h (by rcases q with ⟨rfl, rfl⟩; decide))).trans ((up_oth hv7 (fun q => h (by rcases q with ⟨rfl, rfl⟩; decide))).trans (hfr1 i j (fun q => h (mem_sub (by decide) q))))))), fun i h => rfl, fun i h => ((upx_ne ha9 i (fun q => h (by rw [q]; decide))).trans (hfl1 i (fun q => h (mem_subn (by decide) q)))), yf1_0 + 1, 3, by omega, (up_eq hv22), ((up_oth hv22 (by decide)).trans (up_eq hv21))⟩ hP hS dX9_next_307
              · skip
                refine lv_aload_n hE.1 hE.2.1 dX9_next_203 rfl (lv_at hl 0 rfl) ?_
                refine lv_iconst (v := iI (2)) hE.1 hE.2.1 dX9_next_204 (by decide) ?_
                refine x_put (x := iI (2)) hE hK hN hP hS 0 (by decide) (yG_9 rfl) rfl hin9 tyX9 tyX9_ok nmX9 8 (by decide) mw_1342 rfl rfl rfl (Nat.le_of_ble_eq_true rfl) (yG_9 rfl) dX9_next_205 (fun v23 H locs hv23 hP hS => ?_)
                have hI := YI_putN hI hv23 (by decide)
                have loop24 : ∀ (k24 : Nat) (yf24_0 : Int) (vl24 : sI) (all24 : sL) (H : Heap) (locs : List Loc) (ls : Array Slot), (1600 - yf24_0).toNat = k24 → (0 ≤ yf24_0 ∧ yf24_0 ≤ 1600 ∧ (yf24_0 ≤ w_1 ∧ w_2 ≤ yf24_0 ∧ (w_2 + 1 ≤ yf24_0 ∨ by01 (ar 5) w_1 yf24_0 48 57 = 1))) → (vl24 0 7 = iI yf24_0) → YI vl24 ar → (∀ i j : Nat, (i, j) ∉ ([(0, 7), (0, 10)] : List (Nat × Nat)) → vl24 i j = v23 i j) → (∀ i : Nat, i ∉ ([] : List Nat) → all24 i = al9 i) → va_P D xcl (wW ad (yG ad K) 21 vl24 ar all24) H → va_S (inW ad 21) s.heap H locs → lv_has ls 2 [(0, .ref (ad 0))] → W p l e (rmD 1) s m args below meth c H locs 0 0 Q (F0 m 208 ls []) := by
                  intro k24
                  induction k24 using Nat.strongRecOn with
                  | _ k24 ih24 =>
                    intro  yf24_0 vl24 all24 H locs ls hk24  hyf24 eyf24_0 hI hfr24 hfl24 hP hS hl
                    refine lv_aload_n hE.1 hE.2.1 dX9_next_208 rfl (lv_at hl 0 rfl) ?_
                    refine lv_aload_n hE.1 hE.2.1 dX9_next_209 rfl (lv_at hl 0 rfl) ?_
                    refine x_get (x := .int (vl24 0 7)) hE hK hP 0 (by decide) (yG_9 rfl) rfl hin9 7 (by decide) mw_1341 rfl dX9_next_210 ?_
                    refine x_top (y := iI (yf24_0)) eyf24_0 ?_
                    refine lv_bipush (v := iI (48)) hE.1 hE.2.1 dX9_next_213 (by decide) ?_
                    refine lv_bipush (v := iI (57)) hE.1 hE.2.1 dX9_next_215 (by decide) ?_
                    refine x_vp (nn := 3) (As := [.int (iI (yf24_0)), .int (iI (48)), .int (iI (57))]) (rest := []) hE (s_X9_isByte l D K ad vl24 ar all24 hI (w_1) (by omega) ((hfr24 0 6 (by decide)).trans ((up_oth hv23 (by decide)).trans ((up_oth hv8 (by decide)).trans ((up_oth hv7 (by decide)).trans ((hfr1 0 6 (by decide)).trans ew_1))))) (yf24_0) (by omega) (48) (by omega) (57) (by omega)) wPre_blind (wPre_now hK hN hP) (x_recv hK hP 0 (by decide) (yG_9 rfl) rfl) rfl mw_1540 mw_1542 mw_51 mw_123 mw_1543 (by decide +kernel) ⟨by decide, by decide⟩ hl.1 rfl (Nat.le_of_ble_eq_true rfl) ⟨Nat.zero_le _, Nat.zero_le _⟩ dX9_next_217 (fun r25 hr25 => ?_)
                    obtain ⟨z25, hz25, rfl⟩ := hr25
                    refine s_if_eq (a := z25) (tgt := 307) hE.1 hE.2.1 (by omega) dX9_next_220 (by decide) (fun c26 => ?_) (fun c26 => ?_)
                    · skip
                      exact kr vl24 ar all24 _ _ _ _ ⟨hI, fun i j h => ((hfr24 i j (fun q => h (mem_sub (by decide) q))).trans ((up_oth hv23 (fun q => h (by rcases q with ⟨rfl, rfl⟩; decide))).trans ((up_oth hv8 (fun q => h (by rcases q with ⟨rfl, rfl⟩; decide))).trans ((up_oth hv7 (fun q => h (by rcases q with ⟨rfl, rfl⟩; decide))).trans (hfr1 i j (fun q => h (mem_sub (by decide) q))))))), fun i h => rfl, fun i h => ((hfl24 i (fun q => h (mem_subn (by decide) q))).trans ((upx_ne ha9 i (fun q => h (by rw [q]; decide))).trans (hfl1 i (fun q => h (mem_subn (by decide) q))))), yf24_0, 2, by omega, eyf24_0, ((hfr24 0 8 (by decide)).trans (up_eq hv23))⟩ hP hS dX9_next_307
                    · skip
                      refine lv_aload_n hE.1 hE.2.1 dX9_next_223 rfl (lv_at hl 0 rfl) ?_
                      refine lv_aload_n hE.1 hE.2.1 dX9_next_224 rfl (lv_at hl 0 rfl) ?_
                      obtain ⟨z27, hz27, ez27⟩ := iI_of (vl24 0 10)
                      refine x_get (x := .int (vl24 0 10)) hE hK hP 0 (by decide) (yG_9 rfl) rfl hin9 10 (by decide) mw_1344 rfl dX9_next_225 ?_
                      refine x_top (y := iI (z27)) ez27 ?_
                      refine lv_ldc (v := 100000) hE.1 hE.2.1 hE.2.2.2.1 (hE.2.2.2.2 _ mw_1547) dX9_next_228 ?_
                      refine x_top (y := iI (100000)) (by decide) ?_
                      refine s_icmp_le (a := z27) (b := 100000) (tgt := 238) hE.1 hE.2.1 (by omega) (by omega) dX9_next_230 (by decide) (fun c28 => ?_) (fun c28 => ?_)
                      · skip
                        refine lv_bipush (v := iI (10)) hE.1 hE.2.1 dX9_next_238 (by decide) ?_
                        refine lv_aload_n hE.1 hE.2.1 dX9_next_240 rfl (lv_at hl 0 rfl) ?_
                        refine x_get (x := .int (vl24 0 10)) hE hK hP 0 (by decide) (yG_9 rfl) rfl hin9 10 (by decide) mw_1344 rfl dX9_next_241 ?_
                        refine x_top (y := iI (z27)) ez27 ?_
                        refine lv_imul hE.1 hE.2.1 dX9_next_244 ?_
                        obtain ⟨z29, hz29, ez29⟩ := iI_of (iI (10) * iI (z27))
                        refine x_top ez29 ?_
                        refine lv_aload_n hE.1 hE.2.1 dX9_next_245 rfl (lv_at hl 0 rfl) ?_
                        refine x_get (x := .ref (ad 5)) hE hK hP 0 (by decide) (yG_9 rfl) rfl hin9 5 (by decide) mw_1339 rfl dX9_next_246 ?_
                        refine lv_aload_n hE.1 hE.2.1 dX9_next_249 rfl (lv_at hl 0 rfl) ?_
                        refine x_get (x := .int (vl24 0 7)) hE hK hP 0 (by decide) (yG_9 rfl) rfl hin9 7 (by decide) mw_1341 rfl dX9_next_250 ?_
                        refine x_top (y := iI (yf24_0)) eyf24_0 ?_
                        refine x_bald (j := iI (yf24_0)) hE hK hP 5 (by decide) (yG_12 rfl) (iI_in (n := 1600) (by omega)) dX9_next_253 ?_
                        obtain ⟨z32, hz32, ez32⟩ := iI_of (ar 5 (iI (yf24_0)).toNatClampNeg)
                        refine x_top ez32 ?_
                        refine lv_iadd hE.1 hE.2.1 dX9_next_254 ?_
                        obtain ⟨z33, hz33, ez33⟩ := iI_of (iI (z29) + iI (z32))
                        refine x_top ez33 ?_
                        refine lv_bipush (v := iI (48)) hE.1 hE.2.1 dX9_next_255 (by decide) ?_
                        refine lv_isub hE.1 hE.2.1 dX9_next_257 ?_
                        obtain ⟨z34, hz34, ez34⟩ := iI_of (iI (z33) - iI (48))
                        refine x_top ez34 ?_
                        refine x_put (x := iI (z34)) hE hK hN hP hS 0 (by decide) (yG_9 rfl) rfl hin9 tyX9 tyX9_ok nmX9 10 (by decide) mw_1344 rfl rfl rfl (Nat.le_of_ble_eq_true rfl) (yG_9 rfl) dX9_next_258 (fun v35 H locs hv35 hP hS => ?_)
                        have hI := YI_putN hI hv35 (by decide)
                        refine lv_aload_n hE.1 hE.2.1 dX9_next_261 rfl (lv_at hl 0 rfl) ?_
                        refine lv_dup hE.1 hE.2.1 dX9_next_262 rfl ?_
                        refine x_get (x := .int (v35 0 7)) hE hK hP 0 (by decide) (yG_9 rfl) rfl hin9 7 (by decide) mw_1341 rfl dX9_next_263 ?_
                        refine x_top (y := iI (yf24_0)) ((up_oth hv35 (by decide)).trans eyf24_0) ?_
                        refine lv_iconst (v := iI (1)) hE.1 hE.2.1 dX9_next_266 (by decide) ?_
                        refine lv_iadd hE.1 hE.2.1 dX9_next_267 ?_
                        refine x_top (y := iI (yf24_0 + 1)) ((iI_add (yf24_0) (1)).trans (congrArg iI (by omega))) ?_
                        refine x_put (x := iI (yf24_0 + 1)) hE hK hN hP hS 0 (by decide) (yG_9 rfl) rfl hin9 tyX9 tyX9_ok nmX9 7 (by decide) mw_1341 rfl rfl rfl (Nat.le_of_ble_eq_true rfl) (yG_9 rfl) dX9_next_268 (fun v36 H locs hv36 hP hS => ?_)
                        have hI := YI_putB (z := yf24_0 + 1) hI hv36 0 1600 (by omega) (by decide) (by omega)
                        refine lv_goto (tgt := 208) hE.1 hE.2.1 dX9_next_271 (by decide) ?_
                        exact ih24 _ (by omega)  (yf24_0 + 1) v36  all24 _ _ _ rfl  (by omega) (up_eq hv36) hI (fun i j h => (((up_oth hv36 (fun q => h (by rcases q with ⟨rfl, rfl⟩; decide))).trans (up_oth hv35 (fun q => h (by rcases q with ⟨rfl, rfl⟩; decide)))).trans (hfr24 i j h))) (fun i h => (hfl24 i h)) hP hS (lv_sub hl [0] rfl)
                      · skip
                        refine lv_ldc (v := 1000000) hE.1 hE.2.1 hE.2.2.2.1 (hE.2.2.2.2 _ mw_1548) dX9_next_233 ?_
                        refine x_top (y := iI (1000000)) (by decide) ?_
                        refine lv_goto (tgt := 258) hE.1 hE.2.1 dX9_next_235 (by decide) ?_
                        refine x_put (x := iI (1000000)) hE hK hN hP hS 0 (by decide) (yG_9 rfl) rfl hin9 tyX9 tyX9_ok nmX9 10 (by decide) mw_1344 rfl rfl rfl (Nat.le_of_ble_eq_true rfl) (yG_9 rfl) dX9_next_258 (fun v37 H locs hv37 hP hS => ?_)
                        have hI := YI_putN hI hv37 (by decide)
                        refine lv_aload_n hE.1 hE.2.1 dX9_next_261 rfl (lv_at hl 0 rfl) ?_
                        refine lv_dup hE.1 hE.2.1 dX9_next_262 rfl ?_
                        refine x_get (x := .int (v37 0 7)) hE hK hP 0 (by decide) (yG_9 rfl) rfl hin9 7 (by decide) mw_1341 rfl dX9_next_263 ?_
                        refine x_top (y := iI (yf24_0)) ((up_oth hv37 (by decide)).trans eyf24_0) ?_
                        refine lv_iconst (v := iI (1)) hE.1 hE.2.1 dX9_next_266 (by decide) ?_
                        refine lv_iadd hE.1 hE.2.1 dX9_next_267 ?_
                        refine x_top (y := iI (yf24_0 + 1)) ((iI_add (yf24_0) (1)).trans (congrArg iI (by omega))) ?_
                        refine x_put (x := iI (yf24_0 + 1)) hE hK hN hP hS 0 (by decide) (yG_9 rfl) rfl hin9 tyX9 tyX9_ok nmX9 7 (by decide) mw_1341 rfl rfl rfl (Nat.le_of_ble_eq_true rfl) (yG_9 rfl) dX9_next_268 (fun v38 H locs hv38 hP hS => ?_)
                        have hI := YI_putB (z := yf24_0 + 1) hI hv38 0 1600 (by omega) (by decide) (by omega)
                        refine lv_goto (tgt := 208) hE.1 hE.2.1 dX9_next_271 (by decide) ?_
                        exact ih24 _ (by omega)  (yf24_0 + 1) v38  all24 _ _ _ rfl  (by omega) (up_eq hv38) hI (fun i j h => (((up_oth hv38 (fun q => h (by rcases q with ⟨rfl, rfl⟩; decide))).trans (up_oth hv37 (fun q => h (by rcases q with ⟨rfl, rfl⟩; decide)))).trans (hfr24 i j h))) (fun i h => (hfl24 i h)) hP hS (lv_sub hl [0] rfl)
                exact loop24 _  (yf1_0) v23  al9 _ _ _ rfl  (by omega) ((up_oth hv23 (by decide)).trans ((up_oth hv8 (by decide)).trans ((up_oth hv7 (by decide)).trans eyf1_0))) hI (fun _ _ _ => rfl) (fun _ _ => rfl) hP hS hl
            · skip
              refine lv_aload_n hE.1 hE.2.1 dX9_next_95 rfl (lv_at hl 0 rfl) ?_
              refine lv_iconst (v := iI (1)) hE.1 hE.2.1 dX9_next_96 (by decide) ?_
              refine x_put (x := iI (1)) hE hK hN hP hS 0 (by decide) (yG_9 rfl) rfl hin9 tyX9 tyX9_ok nmX9 8 (by decide) mw_1342 rfl rfl rfl (Nat.le_of_ble_eq_true rfl) (yG_9 rfl) dX9_next_97 (fun v39 H locs hv39 hP hS => ?_)
              have hI := YI_putN hI hv39 (by decide)
              refine lv_iconst (v := iI (0)) hE.1 hE.2.1 dX9_next_100 (by decide) ?_
              refine lv_istore_n (lv' := [(1, .int (iI (0))), (0, .ref (ad 0))]) hE.1 hE.2.1 dX9_next_101 rfl hl (by decide) rfl (fun ls hl => ?_)
              have loop40 : ∀ (k40 : Nat) (y40_1 : Int) (yf40_0 : Int) (vl40 : sI) (all40 : sL) (H : Heap) (locs : List Loc) (ls : Array Slot), (1600 - yf40_0).toNat = k40 → (-2147483648 ≤ y40_1 ∧ y40_1 ≤ 2147483647) → (0 ≤ yf40_0 ∧ yf40_0 ≤ 1600 ∧ (yf40_0 ≤ w_1 ∧ w_2 ≤ yf40_0 ∧ (w_2 + 1 ≤ yf40_0 ∨ by01 (ar 5) w_1 yf40_0 97 122 = 1))) → (vl40 0 7 = iI yf40_0) → YI vl40 ar → (∀ i j : Nat, (i, j) ∉ ([(0, 7)] : List (Nat × Nat)) → vl40 i j = v39 i j) → (∀ i : Nat, i ∉ ([0] : List Nat) → all40 i = al9 i) → va_P D xcl (wW ad (yG ad K) 21 vl40 ar all40) H → va_S (inW ad 21) s.heap H locs → lv_has ls 2 [(1, .int (iI (y40_1))), (0, .ref (ad 0))] → W p l e (rmD 1) s m args below meth c H locs 0 0 Q (F0 m 102 ls []) := by
                intro k40
                induction k40 using Nat.strongRecOn with
                | _ k40 ih40 =>
                  intro y40_1 yf40_0 vl40 all40 H locs ls hk40 hb_y40_1 hyf40 eyf40_0 hI hfr40 hfl40 hP hS hl
                  refine lv_aload_n hE.1 hE.2.1 dX9_next_102 rfl (lv_at hl 1 rfl) ?_
                  refine lv_aload_n hE.1 hE.2.1 dX9_next_103 rfl (lv_at hl 1 rfl) ?_
                  refine x_get (x := .int (vl40 0 7)) hE hK hP 0 (by decide) (yG_9 rfl) rfl hin9 7 (by decide) mw_1341 rfl dX9_next_104 ?_
                  refine x_top (y := iI (yf40_0)) eyf40_0 ?_
                  refine lv_bipush (v := iI (97)) hE.1 hE.2.1 dX9_next_107 (by decide) ?_
                  refine lv_bipush (v := iI (122)) hE.1 hE.2.1 dX9_next_109 (by decide) ?_
                  refine x_vp (nn := 3) (As := [.int (iI (yf40_0)), .int (iI (97)), .int (iI (122))]) (rest := []) hE (s_X9_isByte l D K ad vl40 ar all40 hI (w_1) (by omega) ((hfr40 0 6 (by decide)).trans ((up_oth hv39 (by decide)).trans ((up_oth hv8 (by decide)).trans ((up_oth hv7 (by decide)).trans ((hfr1 0 6 (by decide)).trans ew_1))))) (yf40_0) (by omega) (97) (by omega) (122) (by omega)) wPre_blind (wPre_now hK hN hP) (x_recv hK hP 0 (by decide) (yG_9 rfl) rfl) rfl mw_1540 mw_1542 mw_51 mw_123 mw_1543 (by decide +kernel) ⟨by decide, by decide⟩ hl.1 rfl (Nat.le_of_ble_eq_true rfl) ⟨Nat.zero_le _, Nat.zero_le _⟩ dX9_next_111 (fun r41 hr41 => ?_)
                  obtain ⟨z41, hz41, rfl⟩ := hr41
                  refine s_if_eq (a := z41) (tgt := 185) hE.1 hE.2.1 (by omega) dX9_next_114 (by decide) (fun c42 => ?_) (fun c42 => ?_)
                  · skip
                    refine lv_goto (tgt := 307) hE.1 hE.2.1 dX9_next_185 (by decide) ?_
                    exact kr vl40 ar all40 _ _ _ _ ⟨hI, fun i j h => ((hfr40 i j (fun q => h (mem_sub (by decide) q))).trans ((up_oth hv39 (fun q => h (by rcases q with ⟨rfl, rfl⟩; decide))).trans ((up_oth hv8 (fun q => h (by rcases q with ⟨rfl, rfl⟩; decide))).trans ((up_oth hv7 (fun q => h (by rcases q with ⟨rfl, rfl⟩; decide))).trans (hfr1 i j (fun q => h (mem_sub (by decide) q))))))), fun i h => rfl, fun i h => ((hfl40 i (fun q => h (mem_subn (by decide) q))).trans ((upx_ne ha9 i (fun q => h (by rw [q]; decide))).trans (hfl1 i (fun q => h (mem_subn (by decide) q))))), yf40_0, 1, by omega, eyf40_0, ((hfr40 0 8 (by decide)).trans (up_eq hv39))⟩ hP hS dX9_next_307
                  · skip
                    refine lv_aload_n hE.1 hE.2.1 dX9_next_117 rfl (lv_at hl 1 rfl) ?_
                    refine lv_iload_n hE.1 hE.2.1 dX9_next_118 rfl (lv_at hl 0 rfl) ?_
                    refine lv_bipush (v := iI (11)) hE.1 hE.2.1 dX9_next_119 (by decide) ?_
                    refine s_icmp_le (a := y40_1) (b := 11) (tgt := 130) hE.1 hE.2.1 (by omega) (by omega) dX9_next_121 (by decide) (fun c43 => ?_) (fun c43 => ?_)
                    · skip
                      refine lv_ldc2 (v := 27) hE.1 hE.2.1 hE.2.2.2.1 (hE.2.2.2.2 _ mw_1545) dX9_next_130 ?_
                      refine x_topl (y := lI (27)) (by decide) ?_
                      refine lv_aload_n hE.1 hE.2.1 dX9_next_133 rfl (lv_at hl 1 rfl) ?_
                      refine x_get (x := .long (all40 0 0)) hE hK hP 0 (by decide) (yG_9 rfl) rfl hin9 11 (by decide) mw_1345 rfl dX9_next_134 ?_
                      obtain ⟨z44, hz44, ez44⟩ := lI_of (all40 0 0)
                      refine x_topl ez44 ?_
                      refine lv_lmul hE.1 hE.2.1 dX9_next_137 ?_
                      obtain ⟨z45, hz45, ez45⟩ := lI_of (lI (27) * lI (z44))
                      refine x_topl ez45 ?_
                      refine lv_aload_n hE.1 hE.2.1 dX9_next_138 rfl (lv_at hl 1 rfl) ?_
                      refine x_get (x := .ref (ad 5)) hE hK hP 0 (by decide) (yG_9 rfl) rfl hin9 5 (by decide) mw_1339 rfl dX9_next_139 ?_
                      refine lv_aload_n hE.1 hE.2.1 dX9_next_142 rfl (lv_at hl 1 rfl) ?_
                      refine x_get (x := .int (vl40 0 7)) hE hK hP 0 (by decide) (yG_9 rfl) rfl hin9 7 (by decide) mw_1341 rfl dX9_next_143 ?_
                      refine x_top (y := iI (yf40_0)) eyf40_0 ?_
                      refine x_bald (j := iI (yf40_0)) hE hK hP 5 (by decide) (yG_12 rfl) (iI_in (n := 1600) (by omega)) dX9_next_146 ?_
                      obtain ⟨z48, hz48, ez48⟩ := iI_of (ar 5 (iI (yf40_0)).toNatClampNeg)
                      refine x_top ez48 ?_
                      refine lv_i2l (v := lI (z48)) hE.1 hE.2.1 dX9_next_147 (iI_i2l (by omega)) ?_
                      refine lv_ladd hE.1 hE.2.1 dX9_next_148 ?_
                      obtain ⟨z49, hz49, ez49⟩ := lI_of (lI (z45) + lI (z48))
                      refine x_topl ez49 ?_
                      refine lv_ldc2 (v := 96) hE.1 hE.2.1 hE.2.2.2.1 (hE.2.2.2.2 _ mw_1546) dX9_next_149 ?_
                      refine x_topl (y := lI (96)) (by decide) ?_
                      refine lv_lsub hE.1 hE.2.1 dX9_next_152 ?_
                      obtain ⟨z50, hz50, ez50⟩ := lI_of (lI (z49) - lI (96))
                      refine x_topl ez50 ?_
                      refine x_putl (x := lI (z50)) hE hK hN hP hS 0 (by decide) (yG_9 rfl) rfl hin9 tyX9 tyX9_ok nmX9 11 (by decide) mw_1345 rfl rfl rfl (Nat.le_of_ble_eq_true rfl) (yG_9 rfl) dX9_next_153 (fun al51 H locs ha51 hP hS => ?_)
                      refine lv_iload_n hE.1 hE.2.1 dX9_next_156 rfl (lv_at hl 0 rfl) ?_
                      refine lv_bipush (v := iI (11)) hE.1 hE.2.1 dX9_next_157 (by decide) ?_
                      refine s_icmp_le (a := y40_1) (b := 11) (tgt := 169) hE.1 hE.2.1 (by omega) (by omega) dX9_next_159 (by decide) (fun _ => ?_) (fun c52 => False.elim (by omega))
                      refine lv_aload_n hE.1 hE.2.1 dX9_next_169 rfl (lv_at hl 1 rfl) ?_
                      refine lv_dup hE.1 hE.2.1 dX9_next_170 rfl ?_
                      refine x_get (x := .int (vl40 0 7)) hE hK hP 0 (by decide) (yG_9 rfl) rfl hin9 7 (by decide) mw_1341 rfl dX9_next_171 ?_
                      refine x_top (y := iI (yf40_0)) eyf40_0 ?_
                      refine lv_iconst (v := iI (1)) hE.1 hE.2.1 dX9_next_174 (by decide) ?_
                      refine lv_iadd hE.1 hE.2.1 dX9_next_175 ?_
                      refine x_top (y := iI (yf40_0 + 1)) ((iI_add (yf40_0) (1)).trans (congrArg iI (by omega))) ?_
                      refine x_put (x := iI (yf40_0 + 1)) hE hK hN hP hS 0 (by decide) (yG_9 rfl) rfl hin9 tyX9 tyX9_ok nmX9 7 (by decide) mw_1341 rfl rfl rfl (Nat.le_of_ble_eq_true rfl) (yG_9 rfl) dX9_next_176 (fun v53 H locs hv53 hP hS => ?_)
                      have hI := YI_putB (z := yf40_0 + 1) hI hv53 0 1600 (by omega) (by decide) (by omega)
                      refine lv_iinc (v := iI (y40_1 + 1)) (lv' := [(1, .int (iI (y40_1 + 1))), (0, .ref (ad 0))]) hE.1 hE.2.1 dX9_next_179 hl (k := 0) rfl ((iI_add (y40_1) (1)).trans (congrArg iI (by omega))) (by decide) rfl (fun ls hl => ?_)
                      refine lv_goto (tgt := 102) hE.1 hE.2.1 dX9_next_182 (by decide) ?_
                      exact ih40 _ (by omega) (y40_1 + 1) (yf40_0 + 1) v53  al51 _ _ _ rfl (by omega) (by omega) (up_eq hv53) hI (fun i j h => ((up_oth hv53 (fun q => h (by rcases q with ⟨rfl, rfl⟩; decide))).trans (hfr40 i j h))) (fun i h => ((upx_ne ha51 i (fun q => h (by rw [q]; decide))).trans (hfl40 i h))) hP hS (lv_sub hl [0, 1] rfl)
                    · skip
                      refine lv_ldc2 (v := (-1)) hE.1 hE.2.1 hE.2.2.2.1 (hE.2.2.2.2 _ mw_1544) dX9_next_124 ?_
                      refine x_topl (y := lI (-1)) (by decide) ?_
                      refine lv_goto (tgt := 153) hE.1 hE.2.1 dX9_next_127 (by decide) ?_
                      refine x_putl (x := lI (-1)) hE hK hN hP hS 0 (by decide) (yG_9 rfl) rfl hin9 tyX9 tyX9_ok nmX9 11 (by decide) mw_1345 rfl rfl rfl (Nat.le_of_ble_eq_true rfl) (yG_9 rfl) dX9_next_153 (fun al54 H locs ha54 hP hS => ?_)
                      refine lv_iload_n hE.1 hE.2.1 dX9_next_156 rfl (lv_at hl 0 rfl) ?_
                      refine lv_bipush (v := iI (11)) hE.1 hE.2.1 dX9_next_157 (by decide) ?_
                      refine s_icmp_le (a := y40_1) (b := 11) (tgt := 169) hE.1 hE.2.1 (by omega) (by omega) dX9_next_159 (by decide) (fun c55 => False.elim (by omega)) (fun _ => ?_)
                      refine lv_aload_n hE.1 hE.2.1 dX9_next_162 rfl (lv_at hl 1 rfl) ?_
                      refine lv_ldc2 (v := (-1)) hE.1 hE.2.1 hE.2.2.2.1 (hE.2.2.2.2 _ mw_1544) dX9_next_163 ?_
                      refine x_topl (y := lI (-1)) (by decide) ?_
                      refine x_putl (x := lI (-1)) hE hK hN hP hS 0 (by decide) (yG_9 rfl) rfl hin9 tyX9 tyX9_ok nmX9 11 (by decide) mw_1345 rfl rfl rfl (Nat.le_of_ble_eq_true rfl) (yG_9 rfl) dX9_next_166 (fun al56 H locs ha56 hP hS => ?_)
                      refine lv_aload_n hE.1 hE.2.1 dX9_next_169 rfl (lv_at hl 1 rfl) ?_
                      refine lv_dup hE.1 hE.2.1 dX9_next_170 rfl ?_
                      refine x_get (x := .int (vl40 0 7)) hE hK hP 0 (by decide) (yG_9 rfl) rfl hin9 7 (by decide) mw_1341 rfl dX9_next_171 ?_
                      refine x_top (y := iI (yf40_0)) eyf40_0 ?_
                      refine lv_iconst (v := iI (1)) hE.1 hE.2.1 dX9_next_174 (by decide) ?_
                      refine lv_iadd hE.1 hE.2.1 dX9_next_175 ?_
                      refine x_top (y := iI (yf40_0 + 1)) ((iI_add (yf40_0) (1)).trans (congrArg iI (by omega))) ?_
                      refine x_put (x := iI (yf40_0 + 1)) hE hK hN hP hS 0 (by decide) (yG_9 rfl) rfl hin9 tyX9 tyX9_ok nmX9 7 (by decide) mw_1341 rfl rfl rfl (Nat.le_of_ble_eq_true rfl) (yG_9 rfl) dX9_next_176 (fun v57 H locs hv57 hP hS => ?_)
                      have hI := YI_putB (z := yf40_0 + 1) hI hv57 0 1600 (by omega) (by decide) (by omega)
                      obtain ⟨z58, hz58, ez58⟩ := iI_of (iI (y40_1) + iI (1))
                      refine lv_iinc (v := iI (z58)) (lv' := [(1, .int (iI (z58))), (0, .ref (ad 0))]) hE.1 hE.2.1 dX9_next_179 hl (k := 0) rfl ez58 (by decide) rfl (fun ls hl => ?_)
                      refine lv_goto (tgt := 102) hE.1 hE.2.1 dX9_next_182 (by decide) ?_
                      exact ih40 _ (by omega) (z58) (yf40_0 + 1) v57  al56 _ _ _ rfl (by omega) (by omega) (up_eq hv57) hI (fun i j h => ((up_oth hv57 (fun q => h (by rcases q with ⟨rfl, rfl⟩; decide))).trans (hfr40 i j h))) (fun i h => (((upx_ne ha56 i (fun q => h (by rw [q]; decide))).trans (upx_ne ha54 i (fun q => h (by rw [q]; decide)))).trans (hfl40 i h))) hP hS (lv_sub hl [0, 1] rfl)
              exact loop40 _ (0) (yf1_0) v39  al9 _ _ _ rfl (by omega) (by omega) ((up_oth hv39 (by decide)).trans ((up_oth hv8 (by decide)).trans ((up_oth hv7 (by decide)).trans eyf1_0))) hI (fun _ _ _ => rfl) (fun _ _ => rfl) hP hS hl
          · skip
            refine lv_aload_n hE.1 hE.2.1 dX9_next_72 rfl (lv_at hl 0 rfl) ?_
            refine lv_iconst (v := iI (0)) hE.1 hE.2.1 dX9_next_73 (by decide) ?_
            refine x_put (x := iI (0)) hE hK hN hP hS 0 (by decide) (yG_9 rfl) rfl hin9 tyX9 tyX9_ok nmX9 8 (by decide) mw_1342 rfl rfl rfl (Nat.le_of_ble_eq_true rfl) (yG_9 rfl) dX9_next_74 (fun v59 H locs hv59 hP hS => ?_)
            have hI := YI_putN hI hv59 (by decide)
            refine lv_goto (tgt := 307) hE.1 hE.2.1 dX9_next_77 (by decide) ?_
            exact kr v59 ar al9 _ _ _ _ ⟨hI, fun i j h => ((up_oth hv59 (fun q => h (by rcases q with ⟨rfl, rfl⟩; decide))).trans ((up_oth hv8 (fun q => h (by rcases q with ⟨rfl, rfl⟩; decide))).trans ((up_oth hv7 (fun q => h (by rcases q with ⟨rfl, rfl⟩; decide))).trans (hfr1 i j (fun q => h (mem_sub (by decide) q)))))), fun i h => rfl, fun i h => ((upx_ne ha9 i (fun q => h (by rw [q]; decide))).trans (hfl1 i (fun q => h (mem_subn (by decide) q)))), yf1_0, 0, by omega, ((up_oth hv59 (by decide)).trans ((up_oth hv8 (by decide)).trans ((up_oth hv7 (by decide)).trans eyf1_0))), (up_eq hv59)⟩ hP hS dX9_next_307
        · skip
          refine lv_aload_n hE.1 hE.2.1 dX9_next_30 rfl (lv_at hl 0 rfl) ?_
          refine lv_dup hE.1 hE.2.1 dX9_next_31 rfl ?_
          refine x_get (x := .int (vl1 0 7)) hE hK hP 0 (by decide) (yG_9 rfl) rfl hin9 7 (by decide) mw_1341 rfl dX9_next_32 ?_
          refine x_top (y := iI (yf1_0)) eyf1_0 ?_
          refine lv_iconst (v := iI (1)) hE.1 hE.2.1 dX9_next_35 (by decide) ?_
          refine lv_iadd hE.1 hE.2.1 dX9_next_36 ?_
          refine x_top (y := iI (yf1_0 + 1)) ((iI_add (yf1_0) (1)).trans (congrArg iI (by omega))) ?_
          refine x_put (x := iI (yf1_0 + 1)) hE hK hN hP hS 0 (by decide) (yG_9 rfl) rfl hin9 tyX9 tyX9_ok nmX9 7 (by decide) mw_1341 rfl rfl rfl (Nat.le_of_ble_eq_true rfl) (yG_9 rfl) dX9_next_37 (fun v60 H locs hv60 hP hS => ?_)
          have hI := YI_putB (z := yf1_0 + 1) hI hv60 0 1600 (by omega) (by decide) (by omega)
          refine lv_goto (tgt := 0) hE.1 hE.2.1 dX9_next_40 (by decide) ?_
          exact ih1 _ (by omega)  (yf1_0 + 1) v60  all1 _ _ _ rfl  (by omega) (up_eq hv60) hI (fun i j h => ((up_oth hv60 (fun q => h (by rcases q with ⟨rfl, rfl⟩; decide))).trans (hfr1 i j h))) (fun i h => (hfl1 i h)) hP hS (lv_sub hl [0] rfl)
  exact loop1 _  (w_2) v  al _ _ _ rfl  (by omega) ew_2 hI (fun _ _ _ => rfl) (fun _ _ => rfl) hP hS hl

theorem dX9_fails_0 : decode cX9_fails 0 = .ok (.aload_n 0, 1) := by decide +kernel
theorem dX9_fails_1 : decode cX9_fails 1 = .ok (.getfield 133, 3) := by decide +kernel
theorem dX9_fails_4 : decode cX9_fails 4 = .ok (.ifCond .eq 4, 3) := by decide +kernel
theorem dX9_fails_7 : decode cX9_fails 7 = .ok (.return_, 1) := by decide +kernel
theorem dX9_fails_8 : decode cX9_fails 8 = .ok (.aload_n 0, 1) := by decide +kernel
theorem dX9_fails_9 : decode cX9_fails 9 = .ok (.iload_n 1, 1) := by decide +kernel
theorem dX9_fails_10 : decode cX9_fails 10 = .ok (.putfield 133, 3) := by decide +kernel
theorem dX9_fails_13 : decode cX9_fails 13 = .ok (.aload_n 0, 1) := by decide +kernel
theorem dX9_fails_14 : decode cX9_fails 14 = .ok (.aload_n 0, 1) := by decide +kernel
theorem dX9_fails_15 : decode cX9_fails 15 = .ok (.getfield 112, 3) := by decide +kernel
theorem dX9_fails_18 : decode cX9_fails 18 = .ok (.putfield 136, 3) := by decide +kernel
theorem dX9_fails_21 : decode cX9_fails 21 = .ok (.return_, 1) := by decide +kernel
set_option maxHeartbeats 4000000 in
set_option maxRecDepth 100000 in
theorem s_X9_fails (l : Launch) (D : va_G) (K : Nat → ClassId) (ad : Nat → Nat) (v ar : sI) (al : sL) (hI : YI v ar) (z_1 : Int) (hz_1 : 1 ≤ z_1 ∧ z_1 ≤ 3) : Met l yX9_fails (wM yX9_fails cX9_fails 2 none) (rmD 0) (va_Pc [.ref (ad 0), .int (iI (z_1))] (wPre D K ad (yG ad K) 21 v ar al)) (va_Qv (fun u : sT => YI u.1 u.2.1 ∧ (∀ i j : Nat, (i, j) ∉ ([(0, 12), (0, 13)] : List (Nat × Nat)) → u.1 i j = v i j) ∧ (∀ i : Nat, i ∉ ([] : List Nat) → u.2.1 i = ar i) ∧ (∀ i : Nat, i ∉ ([] : List Nat) → u.2.2 i = al i) ∧ (∃ x_1 : Int, (-2147483648 ≤ x_1 ∧ x_1 ≤ 2147483647 ∧ (x_1 ≠ 0)) ∧ u.1 0 12 = iI x_1)) (wB D ad (yG ad K) 21) (inW ad 21)) 0 0 (inW ad 21) := by
  refine s_metV (by decide) (Nat.le_of_ble_eq_true rfl) ?_
  intro p e s m below meth c ls args Q hE hB hl kr
  have hE : CallFix p m c cX9_fails 2 s args tbG "TaleCourtModel" := hE
  obtain ⟨hP, hK, hN⟩ := hB
  have hS : va_S (inW ad 21) s.heap s.heap [] := va_S.rf
  have hl : lv_has ls 2 [(0, .ref (ad 0)), (1, .int (iI (z_1)))] := hl
  refine lv_aload_n hE.1 hE.2.1 dX9_fails_0 rfl (lv_at hl 0 rfl) ?_
  obtain ⟨z1, hz1, ez1⟩ := iI_of (v 0 12)
  refine x_get (x := .int (v 0 12)) hE hK hP 0 (by decide) (yG_9 rfl) rfl hin9 12 (by decide) mw_1346 rfl dX9_fails_1 ?_
  refine x_top (y := iI (z1)) ez1 ?_
  refine s_if_eq (a := z1) (tgt := 8) hE.1 hE.2.1 (by omega) dX9_fails_4 (by decide) (fun c2 => ?_) (fun c2 => ?_)
  · skip
    refine lv_aload_n hE.1 hE.2.1 dX9_fails_8 rfl (lv_at hl 0 rfl) ?_
    refine lv_iload_n hE.1 hE.2.1 dX9_fails_9 rfl (lv_at hl 1 rfl) ?_
    refine x_put (x := iI (z_1)) hE hK hN hP hS 0 (by decide) (yG_9 rfl) rfl hin9 tyX9 tyX9_ok nmX9 12 (by decide) mw_1346 rfl rfl rfl (Nat.le_of_ble_eq_true rfl) (yG_9 rfl) dX9_fails_10 (fun v3 H locs hv3 hP hS => ?_)
    have hI := YI_putN hI hv3 (by decide)
    refine lv_aload_n hE.1 hE.2.1 dX9_fails_13 rfl (lv_at hl 0 rfl) ?_
    refine lv_aload_n hE.1 hE.2.1 dX9_fails_14 rfl (lv_at hl 0 rfl) ?_
    obtain ⟨z4, hz4, ez4⟩ := iI_of (v3 0 9)
    refine x_get (x := .int (v3 0 9)) hE hK hP 0 (by decide) (yG_9 rfl) rfl hin9 9 (by decide) mw_1343 rfl dX9_fails_15 ?_
    refine x_top (y := iI (z4)) ez4 ?_
    refine x_put (x := iI (z4)) hE hK hN hP hS 0 (by decide) (yG_9 rfl) rfl hin9 tyX9 tyX9_ok nmX9 13 (by decide) mw_1347 rfl rfl rfl (Nat.le_of_ble_eq_true rfl) (yG_9 rfl) dX9_fails_18 (fun v5 H locs hv5 hP hS => ?_)
    have hI := YI_putN hI hv5 (by decide)
    exact kr v5 ar al _ _ _ _ ⟨hI, fun i j h => ((up_oth hv5 (fun q => h (by rcases q with ⟨rfl, rfl⟩; decide))).trans (up_oth hv3 (fun q => h (by rcases q with ⟨rfl, rfl⟩; decide)))), fun i h => rfl, fun i h => rfl, z_1, by omega, ((up_oth hv5 (by decide)).trans (up_eq hv3))⟩ hP hS dX9_fails_21
  · skip
    exact kr v ar al _ _ _ _ ⟨hI, fun i j h => rfl, fun i h => rfl, fun i h => rfl, z1, by omega, ez1⟩ hP hS dX9_fails_7

theorem dX9_ends_0 : decode cX9_ends 0 = .ok (.aload_n 0, 1) := by decide +kernel
theorem dX9_ends_1 : decode cX9_ends 1 = .ok (.getfield 122, 3) := by decide +kernel
theorem dX9_ends_4 : decode cX9_ends 4 = .ok (.iconst 3, 1) := by decide +kernel
theorem dX9_ends_5 : decode cX9_ends 5 = .ok (.if_icmp .eq 8, 3) := by decide +kernel
theorem dX9_ends_8 : decode cX9_ends 8 = .ok (.aload_n 0, 1) := by decide +kernel
theorem dX9_ends_9 : decode cX9_ends 9 = .ok (.iconst 1, 1) := by decide +kernel
theorem dX9_ends_10 : decode cX9_ends 10 = .ok (.invokevirtual 149, 3) := by decide +kernel
theorem dX9_ends_13 : decode cX9_ends 13 = .ok (.aload_n 0, 1) := by decide +kernel
theorem dX9_ends_14 : decode cX9_ends 14 = .ok (.getfield 133, 3) := by decide +kernel
theorem dX9_ends_17 : decode cX9_ends 17 = .ok (.ifCond .ne 7, 3) := by decide +kernel
theorem dX9_ends_20 : decode cX9_ends 20 = .ok (.aload_n 0, 1) := by decide +kernel
theorem dX9_ends_21 : decode cX9_ends 21 = .ok (.invokevirtual 143, 3) := by decide +kernel
theorem dX9_ends_24 : decode cX9_ends 24 = .ok (.return_, 1) := by decide +kernel
set_option maxHeartbeats 4000000 in
set_option maxRecDepth 100000 in
theorem s_X9_ends (l : Launch) (D : va_G) (K : Nat → ClassId) (ad : Nat → Nat) (v ar : sI) (al : sL) (hI : YI v ar) (w_1 : Int) (hw_1 : 0 ≤ w_1 ∧ w_1 ≤ 1600) (ew_1 : v 0 6 = iI w_1) (w_2 : Int) (hw_2 : 0 ≤ w_2 ∧ w_2 ≤ 1600) (ew_2 : v 0 7 = iI w_2) (hyp : w_2 ≤ w_1) : Met l yX9_ends (wM yX9_ends cX9_ends 1 none) (rmD 2) (va_Pc [.ref (ad 0)] (wPre D K ad (yG ad K) 21 v ar al)) (va_Qv (fun u : sT => YI u.1 u.2.1 ∧ (∀ i j : Nat, (i, j) ∉ ([(0, 7), (0, 8), (0, 9), (0, 10), (0, 12), (0, 13)] : List (Nat × Nat)) → u.1 i j = v i j) ∧ (∀ i : Nat, i ∉ ([] : List Nat) → u.2.1 i = ar i) ∧ (∀ i : Nat, i ∉ ([0] : List Nat) → u.2.2 i = al i) ∧ (∃ x_1 x_2 x_3 : Int, (0 ≤ x_1 ∧ x_1 ≤ 1600 ∧ -2147483648 ≤ x_2 ∧ x_2 ≤ 2147483647 ∧ -2147483648 ≤ x_3 ∧ x_3 ≤ 2147483647 ∧ (w_2 ≤ x_1 ∧ x_1 ≤ w_1 ∧ (x_3 ≠ 0 ∨ x_2 = 0 ∨ w_2 + 1 ≤ x_1))) ∧ u.1 0 7 = iI x_1 ∧ u.1 0 8 = iI x_2 ∧ u.1 0 12 = iI x_3)) (wB D ad (yG ad K) 21) (inW ad 21)) 0 0 (inW ad 21) := by
  refine s_metV (by decide) (Nat.le_of_ble_eq_true rfl) ?_
  intro p e s m below meth c ls args Q hE hB hl kr
  have hE : CallFix p m c cX9_ends 1 s args tbG "TaleCourtModel" := hE
  obtain ⟨hP, hK, hN⟩ := hB
  have hS : va_S (inW ad 21) s.heap s.heap [] := va_S.rf
  have hl : lv_has ls 1 [(0, .ref (ad 0))] := hl
  refine lv_aload_n hE.1 hE.2.1 dX9_ends_0 rfl (lv_at hl 0 rfl) ?_
  obtain ⟨z1, hz1, ez1⟩ := iI_of (v 0 8)
  refine x_get (x := .int (v 0 8)) hE hK hP 0 (by decide) (yG_9 rfl) rfl hin9 8 (by decide) mw_1342 rfl dX9_ends_1 ?_
  refine x_top (y := iI (z1)) ez1 ?_
  refine lv_iconst (v := iI (3)) hE.1 hE.2.1 dX9_ends_4 (by decide) ?_
  refine s_icmp_eq (a := z1) (b := 3) (tgt := 13) hE.1 hE.2.1 (by omega) (by omega) dX9_ends_5 (by decide) (fun c2 => ?_) (fun c2 => ?_)
  · skip
    refine lv_aload_n hE.1 hE.2.1 dX9_ends_13 rfl (lv_at hl 0 rfl) ?_
    obtain ⟨z3, hz3, ez3⟩ := iI_of (v 0 12)
    refine x_get (x := .int (v 0 12)) hE hK hP 0 (by decide) (yG_9 rfl) rfl hin9 12 (by decide) mw_1346 rfl dX9_ends_14 ?_
    refine x_top (y := iI (z3)) ez3 ?_
    refine s_if_ne (a := z3) (tgt := 24) hE.1 hE.2.1 (by omega) dX9_ends_17 (by decide) (fun c4 => ?_) (fun c4 => ?_)
    · skip
      exact kr v ar al _ _ _ _ ⟨hI, fun i j h => rfl, fun i h => rfl, fun i h => rfl, w_2, z1, z3, by omega, ew_2, ez1, ez3⟩ hP hS dX9_ends_24
    · skip
      refine lv_aload_n hE.1 hE.2.1 dX9_ends_20 rfl (lv_at hl 0 rfl) ?_
      refine x_vv (nn := 0) (As := []) (rest := []) hE hK hN hP hS (s_X9_next l D K ad v ar al hI (w_1) (by omega) ew_1 (w_2) (by omega) ew_2  (by omega)) (x_recv hK hP 0 (by decide) (yG_9 rfl) rfl) rfl mw_1536 mw_1538 mw_50 mw_123 mw_1539 (by decide +kernel) ⟨by decide, by decide⟩ hl.1 rfl (Nat.le_of_ble_eq_true rfl) ⟨Nat.zero_le _, Nat.zero_le _⟩ dX9_ends_21 (fun v5 ar5 al5 H locs hq5 hP hS => ?_)
      obtain ⟨hI, hq5, hqa5, hql5, x5_1, x5_2, hx5, ex5_1, ex5_2⟩ := hq5
      have hI : YI v5 ar5 := hI
      exact kr v5 ar5 al5 _ _ _ _ ⟨hI, fun i j h => (hq5 i j (fun q => h (mem_sub (by decide) q))), fun i h => (hqa5 i (fun q => h (mem_subn (by decide) q))), fun i h => (hql5 i (fun q => h (mem_subn (by decide) q))), x5_1, x5_2, z3, by omega, ex5_1, ex5_2, ((hq5 0 12 (by decide)).trans ez3)⟩ hP hS dX9_ends_24
  · skip
    refine lv_aload_n hE.1 hE.2.1 dX9_ends_8 rfl (lv_at hl 0 rfl) ?_
    refine lv_iconst (v := iI (1)) hE.1 hE.2.1 dX9_ends_9 (by decide) ?_
    refine x_vv (nn := 1) (As := [.int (iI (1))]) (rest := []) hE hK hN hP hS (s_X9_fails l D K ad v ar al hI  (1) (by omega)) (x_recv hK hP 0 (by decide) (yG_9 rfl) rfl) rfl mw_1566 mw_1568 mw_56 mw_123 mw_1569 (by decide +kernel) ⟨by decide, by decide⟩ hl.1 rfl (Nat.le_of_ble_eq_true rfl) ⟨Nat.zero_le _, Nat.zero_le _⟩ dX9_ends_10 (fun v6 ar6 al6 H locs hq6 hP hS => ?_)
    obtain ⟨hI, hq6, hqa6, hql6, x6_1, hx6, ex6_1⟩ := hq6
    have hI : YI v6 ar6 := hI
    refine lv_aload_n hE.1 hE.2.1 dX9_ends_13 rfl (lv_at hl 0 rfl) ?_
    refine x_get (x := .int (v6 0 12)) hE hK hP 0 (by decide) (yG_9 rfl) rfl hin9 12 (by decide) mw_1346 rfl dX9_ends_14 ?_
    refine x_top (y := iI (x6_1)) ex6_1 ?_
    refine s_if_ne (a := x6_1) (tgt := 24) hE.1 hE.2.1 (by omega) dX9_ends_17 (by decide) (fun c7 => ?_) (fun c7 => ?_)
    · skip
      exact kr v6 ar6 al6 _ _ _ _ ⟨hI, fun i j h => (hq6 i j (fun q => h (mem_sub (by decide) q))), fun i h => (hqa6 i (fun q => h (mem_subn (by decide) q))), fun i h => (hql6 i (fun q => h (mem_subn (by decide) q))), w_2, z1, x6_1, by omega, ((hq6 0 7 (by decide)).trans ew_2), ((hq6 0 8 (by decide)).trans ez1), ex6_1⟩ hP hS dX9_ends_24
    · skip
      refine lv_aload_n hE.1 hE.2.1 dX9_ends_20 rfl (lv_at hl 0 rfl) ?_
      refine x_vv (nn := 0) (As := []) (rest := []) hE hK hN hP hS (s_X9_next l D K ad v6 ar6 al6 hI (w_1) (by omega) ((hq6 0 6 (by decide)).trans ew_1) (w_2) (by omega) ((hq6 0 7 (by decide)).trans ew_2)  (by omega)) (x_recv hK hP 0 (by decide) (yG_9 rfl) rfl) rfl mw_1536 mw_1538 mw_50 mw_123 mw_1539 (by decide +kernel) ⟨by decide, by decide⟩ hl.1 rfl (Nat.le_of_ble_eq_true rfl) ⟨Nat.zero_le _, Nat.zero_le _⟩ dX9_ends_21 (fun v8 ar8 al8 H locs hq8 hP hS => ?_)
      obtain ⟨hI, hq8, hqa8, hql8, x8_1, x8_2, hx8, ex8_1, ex8_2⟩ := hq8
      have hI : YI v8 ar8 := hI
      exact kr v8 ar8 al8 _ _ _ _ ⟨hI, fun i j h => ((hq8 i j (fun q => h (mem_sub (by decide) q))).trans (hq6 i j (fun q => h (mem_sub (by decide) q)))), fun i h => ((hqa8 i (fun q => h (mem_subn (by decide) q))).trans (hqa6 i (fun q => h (mem_subn (by decide) q)))), fun i h => ((hql8 i (fun q => h (mem_subn (by decide) q))).trans (hql6 i (fun q => h (mem_subn (by decide) q)))), x8_1, x8_2, x6_1, by omega, ex8_1, ex8_2, ((hq8 0 12 (by decide)).trans ex6_1)⟩ hP hS dX9_ends_24

theorem dX9_begins_0 : decode cX9_begins 0 = .ok (.aload_n 0, 1) := by decide +kernel
theorem dX9_begins_1 : decode cX9_begins 1 = .ok (.iconst 0, 1) := by decide +kernel
theorem dX9_begins_2 : decode cX9_begins 2 = .ok (.putfield 133, 3) := by decide +kernel
theorem dX9_begins_5 : decode cX9_begins 5 = .ok (.aload_n 0, 1) := by decide +kernel
theorem dX9_begins_6 : decode cX9_begins 6 = .ok (.iconst (-1), 1) := by decide +kernel
theorem dX9_begins_7 : decode cX9_begins 7 = .ok (.putfield 136, 3) := by decide +kernel
theorem dX9_begins_10 : decode cX9_begins 10 = .ok (.aload_n 0, 1) := by decide +kernel
theorem dX9_begins_11 : decode cX9_begins 11 = .ok (.iconst 0, 1) := by decide +kernel
theorem dX9_begins_12 : decode cX9_begins 12 = .ok (.putfield 105, 3) := by decide +kernel
theorem dX9_begins_15 : decode cX9_begins 15 = .ok (.aload_n 0, 1) := by decide +kernel
theorem dX9_begins_16 : decode cX9_begins 16 = .ok (.invokevirtual 143, 3) := by decide +kernel
theorem dX9_begins_19 : decode cX9_begins 19 = .ok (.return_, 1) := by decide +kernel
set_option maxHeartbeats 4000000 in
set_option maxRecDepth 100000 in
theorem s_X9_begins (l : Launch) (D : va_G) (K : Nat → ClassId) (ad : Nat → Nat) (v ar : sI) (al : sL) (hI : YI v ar) (w_1 : Int) (hw_1 : 0 ≤ w_1 ∧ w_1 ≤ 1600) (ew_1 : v 0 6 = iI w_1) : Met l yX9_begins (wM yX9_begins cX9_begins 1 none) (rmD 2) (va_Pc [.ref (ad 0)] (wPre D K ad (yG ad K) 21 v ar al)) (va_Qv (fun u : sT => YI u.1 u.2.1 ∧ (∀ i j : Nat, (i, j) ∉ ([(0, 7), (0, 8), (0, 9), (0, 10), (0, 12), (0, 13)] : List (Nat × Nat)) → u.1 i j = v i j) ∧ (∀ i : Nat, i ∉ ([] : List Nat) → u.2.1 i = ar i) ∧ (∀ i : Nat, i ∉ ([0] : List Nat) → u.2.2 i = al i) ∧ (∃ x_1 : Int, (0 ≤ x_1 ∧ x_1 ≤ 1600 ∧ (0 ≤ x_1 ∧ x_1 ≤ w_1)) ∧ u.1 0 7 = iI x_1)) (wB D ad (yG ad K) 21) (inW ad 21)) 0 0 (inW ad 21) := by
  refine s_metV (by decide) (Nat.le_of_ble_eq_true rfl) ?_
  intro p e s m below meth c ls args Q hE hB hl kr
  have hE : CallFix p m c cX9_begins 1 s args tbG "TaleCourtModel" := hE
  obtain ⟨hP, hK, hN⟩ := hB
  have hS : va_S (inW ad 21) s.heap s.heap [] := va_S.rf
  have hl : lv_has ls 1 [(0, .ref (ad 0))] := hl
  refine lv_aload_n hE.1 hE.2.1 dX9_begins_0 rfl (lv_at hl 0 rfl) ?_
  refine lv_iconst (v := iI (0)) hE.1 hE.2.1 dX9_begins_1 (by decide) ?_
  refine x_put (x := iI (0)) hE hK hN hP hS 0 (by decide) (yG_9 rfl) rfl hin9 tyX9 tyX9_ok nmX9 12 (by decide) mw_1346 rfl rfl rfl (Nat.le_of_ble_eq_true rfl) (yG_9 rfl) dX9_begins_2 (fun v1 H locs hv1 hP hS => ?_)
  have hI := YI_putN hI hv1 (by decide)
  refine lv_aload_n hE.1 hE.2.1 dX9_begins_5 rfl (lv_at hl 0 rfl) ?_
  refine lv_iconst (v := iI (-1)) hE.1 hE.2.1 dX9_begins_6 (by decide) ?_
  refine x_put (x := iI (-1)) hE hK hN hP hS 0 (by decide) (yG_9 rfl) rfl hin9 tyX9 tyX9_ok nmX9 13 (by decide) mw_1347 rfl rfl rfl (Nat.le_of_ble_eq_true rfl) (yG_9 rfl) dX9_begins_7 (fun v2 H locs hv2 hP hS => ?_)
  have hI := YI_putN hI hv2 (by decide)
  refine lv_aload_n hE.1 hE.2.1 dX9_begins_10 rfl (lv_at hl 0 rfl) ?_
  refine lv_iconst (v := iI (0)) hE.1 hE.2.1 dX9_begins_11 (by decide) ?_
  refine x_put (x := iI (0)) hE hK hN hP hS 0 (by decide) (yG_9 rfl) rfl hin9 tyX9 tyX9_ok nmX9 7 (by decide) mw_1341 rfl rfl rfl (Nat.le_of_ble_eq_true rfl) (yG_9 rfl) dX9_begins_12 (fun v3 H locs hv3 hP hS => ?_)
  have hI := YI_putB (z := 0) hI hv3 0 1600 (by omega) (by decide) (by omega)
  refine lv_aload_n hE.1 hE.2.1 dX9_begins_15 rfl (lv_at hl 0 rfl) ?_
  refine x_vv (nn := 0) (As := []) (rest := []) hE hK hN hP hS (s_X9_next l D K ad v3 ar al hI (w_1) (by omega) ((up_oth hv3 (by decide)).trans ((up_oth hv2 (by decide)).trans ((up_oth hv1 (by decide)).trans ew_1))) (0) (by omega) (up_eq hv3)  (by omega)) (x_recv hK hP 0 (by decide) (yG_9 rfl) rfl) rfl mw_1536 mw_1538 mw_50 mw_123 mw_1539 (by decide +kernel) ⟨by decide, by decide⟩ hl.1 rfl (Nat.le_of_ble_eq_true rfl) ⟨Nat.zero_le _, Nat.zero_le _⟩ dX9_begins_16 (fun v4 ar4 al4 H locs hq4 hP hS => ?_)
  obtain ⟨hI, hq4, hqa4, hql4, x4_1, x4_2, hx4, ex4_1, ex4_2⟩ := hq4
  have hI : YI v4 ar4 := hI
  exact kr v4 ar4 al4 _ _ _ _ ⟨hI, fun i j h => ((hq4 i j (fun q => h (mem_sub (by decide) q))).trans ((up_oth hv3 (fun q => h (by rcases q with ⟨rfl, rfl⟩; decide))).trans ((up_oth hv2 (fun q => h (by rcases q with ⟨rfl, rfl⟩; decide))).trans (up_oth hv1 (fun q => h (by rcases q with ⟨rfl, rfl⟩; decide)))))), fun i h => (hqa4 i (fun q => h (mem_subn (by decide) q))), fun i h => (hql4 i (fun q => h (mem_subn (by decide) q))), x4_1, by omega, ex4_1⟩ hP hS dX9_begins_19

theorem dX9_isOver_0 : decode cX9_isOver 0 = .ok (.aload_n 0, 1) := by decide +kernel
theorem dX9_isOver_1 : decode cX9_isOver 1 = .ok (.iconst 0, 1) := by decide +kernel
theorem dX9_isOver_2 : decode cX9_isOver 2 = .ok (.putfield 98, 3) := by decide +kernel
theorem dX9_isOver_5 : decode cX9_isOver 5 = .ok (.aload_n 0, 1) := by decide +kernel
theorem dX9_isOver_6 : decode cX9_isOver 6 = .ok (.aload_n 0, 1) := by decide +kernel
theorem dX9_isOver_7 : decode cX9_isOver 7 = .ok (.getfield 133, 3) := by decide +kernel
theorem dX9_isOver_10 : decode cX9_isOver 10 = .ok (.putfield 160, 3) := by decide +kernel
theorem dX9_isOver_13 : decode cX9_isOver 13 = .ok (.aload_n 0, 1) := by decide +kernel
theorem dX9_isOver_14 : decode cX9_isOver 14 = .ok (.aload_n 0, 1) := by decide +kernel
theorem dX9_isOver_15 : decode cX9_isOver 15 = .ok (.getfield 133, 3) := by decide +kernel
theorem dX9_isOver_18 : decode cX9_isOver 18 = .ok (.ifCond .ne 7, 3) := by decide +kernel
theorem dX9_isOver_21 : decode cX9_isOver 21 = .ok (.iconst (-1), 1) := by decide +kernel
theorem dX9_isOver_22 : decode cX9_isOver 22 = .ok (.goto 7, 3) := by decide +kernel
theorem dX9_isOver_25 : decode cX9_isOver 25 = .ok (.aload_n 0, 1) := by decide +kernel
theorem dX9_isOver_26 : decode cX9_isOver 26 = .ok (.getfield 136, 3) := by decide +kernel
theorem dX9_isOver_29 : decode cX9_isOver 29 = .ok (.putfield 27, 3) := by decide +kernel
theorem dX9_isOver_32 : decode cX9_isOver 32 = .ok (.return_, 1) := by decide +kernel
set_option maxHeartbeats 4000000 in
set_option maxRecDepth 100000 in
theorem s_X9_isOver (l : Launch) (D : va_G) (K : Nat → ClassId) (ad : Nat → Nat) (v ar : sI) (al : sL) (hI : YI v ar) : Met l yX9_isOver (wM yX9_isOver cX9_isOver 1 none) (rmD 0) (va_Pc [.ref (ad 0)] (wPre D K ad (yG ad K) 21 v ar al)) (va_Qv (fun u : sT => YI u.1 u.2.1 ∧ (∀ i j : Nat, (i, j) ∉ ([(0, 6), (0, 14), (0, 15)] : List (Nat × Nat)) → u.1 i j = v i j) ∧ (∀ i : Nat, i ∉ ([] : List Nat) → u.2.1 i = ar i) ∧ (∀ i : Nat, i ∉ ([] : List Nat) → u.2.2 i = al i)) (wB D ad (yG ad K) 21) (inW ad 21)) 0 0 (inW ad 21) := by
  refine s_metV (by decide) (Nat.le_of_ble_eq_true rfl) ?_
  intro p e s m below meth c ls args Q hE hB hl kr
  have hE : CallFix p m c cX9_isOver 1 s args tbG "TaleCourtModel" := hE
  obtain ⟨hP, hK, hN⟩ := hB
  have hS : va_S (inW ad 21) s.heap s.heap [] := va_S.rf
  have hl : lv_has ls 1 [(0, .ref (ad 0))] := hl
  refine lv_aload_n hE.1 hE.2.1 dX9_isOver_0 rfl (lv_at hl 0 rfl) ?_
  refine lv_iconst (v := iI (0)) hE.1 hE.2.1 dX9_isOver_1 (by decide) ?_
  refine x_put (x := iI (0)) hE hK hN hP hS 0 (by decide) (yG_9 rfl) rfl hin9 tyX9 tyX9_ok nmX9 6 (by decide) mw_1340 rfl rfl rfl (Nat.le_of_ble_eq_true rfl) (yG_9 rfl) dX9_isOver_2 (fun v1 H locs hv1 hP hS => ?_)
  have hI := YI_putB (z := 0) hI hv1 0 1600 (by omega) (by decide) (by omega)
  refine lv_aload_n hE.1 hE.2.1 dX9_isOver_5 rfl (lv_at hl 0 rfl) ?_
  refine lv_aload_n hE.1 hE.2.1 dX9_isOver_6 rfl (lv_at hl 0 rfl) ?_
  obtain ⟨z2, hz2, ez2⟩ := iI_of (v1 0 12)
  refine x_get (x := .int (v1 0 12)) hE hK hP 0 (by decide) (yG_9 rfl) rfl hin9 12 (by decide) mw_1346 rfl dX9_isOver_7 ?_
  refine x_top (y := iI (z2)) ez2 ?_
  refine x_put (x := iI (z2)) hE hK hN hP hS 0 (by decide) (yG_9 rfl) rfl hin9 tyX9 tyX9_ok nmX9 14 (by decide) mw_1348 rfl rfl rfl (Nat.le_of_ble_eq_true rfl) (yG_9 rfl) dX9_isOver_10 (fun v3 H locs hv3 hP hS => ?_)
  have hI := YI_putN hI hv3 (by decide)
  refine lv_aload_n hE.1 hE.2.1 dX9_isOver_13 rfl (lv_at hl 0 rfl) ?_
  refine lv_aload_n hE.1 hE.2.1 dX9_isOver_14 rfl (lv_at hl 0 rfl) ?_
  refine x_get (x := .int (v3 0 12)) hE hK hP 0 (by decide) (yG_9 rfl) rfl hin9 12 (by decide) mw_1346 rfl dX9_isOver_15 ?_
  refine x_top (y := iI (z2)) ((up_oth hv3 (by decide)).trans ez2) ?_
  refine s_if_ne (a := z2) (tgt := 25) hE.1 hE.2.1 (by omega) dX9_isOver_18 (by decide) (fun c4 => ?_) (fun c4 => ?_)
  · skip
    refine lv_aload_n hE.1 hE.2.1 dX9_isOver_25 rfl (lv_at hl 0 rfl) ?_
    obtain ⟨z5, hz5, ez5⟩ := iI_of (v3 0 13)
    refine x_get (x := .int (v3 0 13)) hE hK hP 0 (by decide) (yG_9 rfl) rfl hin9 13 (by decide) mw_1347 rfl dX9_isOver_26 ?_
    refine x_top (y := iI (z5)) ez5 ?_
    refine x_put (x := iI (z5)) hE hK hN hP hS 0 (by decide) (yG_9 rfl) rfl hin9 tyX9 tyX9_ok nmX9 15 (by decide) mw_1349 rfl rfl rfl (Nat.le_of_ble_eq_true rfl) (yG_9 rfl) dX9_isOver_29 (fun v6 H locs hv6 hP hS => ?_)
    have hI := YI_putN hI hv6 (by decide)
    exact kr v6 ar al _ _ _ _ ⟨hI, fun i j h => ((up_oth hv6 (fun q => h (by rcases q with ⟨rfl, rfl⟩; decide))).trans ((up_oth hv3 (fun q => h (by rcases q with ⟨rfl, rfl⟩; decide))).trans (up_oth hv1 (fun q => h (by rcases q with ⟨rfl, rfl⟩; decide))))), fun i h => rfl, fun i h => rfl⟩ hP hS dX9_isOver_32
  · skip
    refine lv_iconst (v := iI (-1)) hE.1 hE.2.1 dX9_isOver_21 (by decide) ?_
    refine lv_goto (tgt := 29) hE.1 hE.2.1 dX9_isOver_22 (by decide) ?_
    refine x_put (x := iI (-1)) hE hK hN hP hS 0 (by decide) (yG_9 rfl) rfl hin9 tyX9 tyX9_ok nmX9 15 (by decide) mw_1349 rfl rfl rfl (Nat.le_of_ble_eq_true rfl) (yG_9 rfl) dX9_isOver_29 (fun v7 H locs hv7 hP hS => ?_)
    have hI := YI_putN hI hv7 (by decide)
    exact kr v7 ar al _ _ _ _ ⟨hI, fun i j h => ((up_oth hv7 (fun q => h (by rcases q with ⟨rfl, rfl⟩; decide))).trans ((up_oth hv3 (fun q => h (by rcases q with ⟨rfl, rfl⟩; decide))).trans (up_oth hv1 (fun q => h (by rcases q with ⟨rfl, rfl⟩; decide))))), fun i h => rfl, fun i h => rfl⟩ hP hS dX9_isOver_32

theorem dX9_clears_0 : decode cX9_clears 0 = .ok (.aload_n 0, 1) := by decide +kernel
theorem dX9_clears_1 : decode cX9_clears 1 = .ok (.getfield 31, 3) := by decide +kernel
theorem dX9_clears_4 : decode cX9_clears 4 = .ok (.iconst 4, 1) := by decide +kernel
theorem dX9_clears_5 : decode cX9_clears 5 = .ok (.iconst 0, 1) := by decide +kernel
theorem dX9_clears_6 : decode cX9_clears 6 = .ok (.iastore, 1) := by decide +kernel
theorem dX9_clears_7 : decode cX9_clears 7 = .ok (.iconst 0, 1) := by decide +kernel
theorem dX9_clears_8 : decode cX9_clears 8 = .ok (.istore_n 1, 1) := by decide +kernel
theorem dX9_clears_9 : decode cX9_clears 9 = .ok (.iload_n 1, 1) := by decide +kernel
theorem dX9_clears_10 : decode cX9_clears 10 = .ok (.bipush 6, 2) := by decide +kernel
theorem dX9_clears_12 : decode cX9_clears 12 = .ok (.if_icmp .ge 19, 3) := by decide +kernel
theorem dX9_clears_15 : decode cX9_clears 15 = .ok (.aload_n 0, 1) := by decide +kernel
theorem dX9_clears_16 : decode cX9_clears 16 = .ok (.getfield 34, 3) := by decide +kernel
theorem dX9_clears_19 : decode cX9_clears 19 = .ok (.bipush 24, 2) := by decide +kernel
theorem dX9_clears_21 : decode cX9_clears 21 = .ok (.iload_n 1, 1) := by decide +kernel
theorem dX9_clears_22 : decode cX9_clears 22 = .ok (.iadd, 1) := by decide +kernel
theorem dX9_clears_23 : decode cX9_clears 23 = .ok (.iconst 0, 1) := by decide +kernel
theorem dX9_clears_24 : decode cX9_clears 24 = .ok (.iastore, 1) := by decide +kernel
theorem dX9_clears_25 : decode cX9_clears 25 = .ok (.iinc 1 1, 3) := by decide +kernel
theorem dX9_clears_28 : decode cX9_clears 28 = .ok (.goto (-19), 3) := by decide +kernel
theorem dX9_clears_31 : decode cX9_clears 31 = .ok (.return_, 1) := by decide +kernel
set_option maxHeartbeats 4000000 in
set_option maxRecDepth 100000 in
theorem s_X9_clears (l : Launch) (D : va_G) (K : Nat → ClassId) (ad : Nat → Nat) (v ar : sI) (al : sL) (hI : YI v ar) : Met l yX9_clears (wM yX9_clears cX9_clears 2 none) (rmD 0) (va_Pc [.ref (ad 0)] (wPre D K ad (yG ad K) 21 v ar al)) (va_Qv (fun u : sT => YI u.1 u.2.1 ∧ (∀ i j : Nat, (i, j) ∉ ([] : List (Nat × Nat)) → u.1 i j = v i j) ∧ (∀ i : Nat, i ∉ ([6, 7] : List Nat) → u.2.1 i = ar i) ∧ (∀ i : Nat, i ∉ ([] : List Nat) → u.2.2 i = al i)) (wB D ad (yG ad K) 21) (inW ad 21)) 0 0 (inW ad 21) := by
  refine s_metV (by decide) (Nat.le_of_ble_eq_true rfl) ?_
  intro p e s m below meth c ls args Q hE hB hl kr
  have hE : CallFix p m c cX9_clears 2 s args tbG "TaleCourtModel" := hE
  obtain ⟨hP, hK, hN⟩ := hB
  have hS : va_S (inW ad 21) s.heap s.heap [] := va_S.rf
  have hl : lv_has ls 2 [(0, .ref (ad 0))] := hl
  refine lv_aload_n hE.1 hE.2.1 dX9_clears_0 rfl (lv_at hl 0 rfl) ?_
  refine x_get (x := .ref (ad 6)) hE hK hP 0 (by decide) (yG_9 rfl) rfl hin9 16 (by decide) mw_1350 rfl dX9_clears_1 ?_
  refine lv_iconst (v := iI (4)) hE.1 hE.2.1 dX9_clears_4 (by decide) ?_
  refine lv_iconst (v := iI (0)) hE.1 hE.2.1 dX9_clears_5 (by decide) ?_
  refine x_iast (j := iI (4)) hE hK hN hP hS 6 (by decide) (fun _ => yG_10 rfl) (iI_in (n := 5) (by omega)) dX9_clears_6 (fun ar1 H locs ha1 hP hS => ?_)
  refine lv_iconst (v := iI (0)) hE.1 hE.2.1 dX9_clears_7 (by decide) ?_
  refine lv_istore_n (lv' := [(1, .int (iI (0))), (0, .ref (ad 0))]) hE.1 hE.2.1 dX9_clears_8 rfl hl (by decide) rfl (fun ls hl => ?_)
  refine lv_iload_n hE.1 hE.2.1 dX9_clears_9 rfl (lv_at hl 0 rfl) ?_
  refine lv_bipush (v := iI (6)) hE.1 hE.2.1 dX9_clears_10 (by decide) ?_
  refine s_icmp_ge (a := 0) (b := 6) (tgt := 31) hE.1 hE.2.1 (by omega) (by omega) dX9_clears_12 (by decide) (fun c2 => False.elim (by omega)) (fun _ => ?_)
  refine lv_aload_n hE.1 hE.2.1 dX9_clears_15 rfl (lv_at hl 1 rfl) ?_
  refine x_get (x := .ref (ad 7)) hE hK hP 0 (by decide) (yG_9 rfl) rfl hin9 17 (by decide) mw_1351 rfl dX9_clears_16 ?_
  refine lv_bipush (v := iI (24)) hE.1 hE.2.1 dX9_clears_19 (by decide) ?_
  refine lv_iload_n hE.1 hE.2.1 dX9_clears_21 rfl (lv_at hl 0 rfl) ?_
  refine lv_iadd hE.1 hE.2.1 dX9_clears_22 ?_
  refine x_top (y := iI (24)) ((iI_add (24) (0)).trans (congrArg iI (by omega))) ?_
  refine lv_iconst (v := iI (0)) hE.1 hE.2.1 dX9_clears_23 (by decide) ?_
  refine x_iast (j := iI (24)) hE hK hN hP hS 7 (by decide) (fun _ => yG_10 rfl) (iI_in (n := 30) (by omega)) dX9_clears_24 (fun ar3 H locs ha3 hP hS => ?_)
  refine lv_iinc (v := iI (1)) (lv' := [(1, .int (iI (1))), (0, .ref (ad 0))]) hE.1 hE.2.1 dX9_clears_25 hl (k := 0) rfl ((iI_add (0) (1)).trans (congrArg iI (by omega))) (by decide) rfl (fun ls hl => ?_)
  refine lv_goto (tgt := 9) hE.1 hE.2.1 dX9_clears_28 (by decide) ?_
  refine lv_iload_n hE.1 hE.2.1 dX9_clears_9 rfl (lv_at hl 0 rfl) ?_
  refine lv_bipush (v := iI (6)) hE.1 hE.2.1 dX9_clears_10 (by decide) ?_
  refine s_icmp_ge (a := 1) (b := 6) (tgt := 31) hE.1 hE.2.1 (by omega) (by omega) dX9_clears_12 (by decide) (fun c4 => False.elim (by omega)) (fun _ => ?_)
  refine lv_aload_n hE.1 hE.2.1 dX9_clears_15 rfl (lv_at hl 1 rfl) ?_
  refine x_get (x := .ref (ad 7)) hE hK hP 0 (by decide) (yG_9 rfl) rfl hin9 17 (by decide) mw_1351 rfl dX9_clears_16 ?_
  refine lv_bipush (v := iI (24)) hE.1 hE.2.1 dX9_clears_19 (by decide) ?_
  refine lv_iload_n hE.1 hE.2.1 dX9_clears_21 rfl (lv_at hl 0 rfl) ?_
  refine lv_iadd hE.1 hE.2.1 dX9_clears_22 ?_
  refine x_top (y := iI (25)) ((iI_add (24) (1)).trans (congrArg iI (by omega))) ?_
  refine lv_iconst (v := iI (0)) hE.1 hE.2.1 dX9_clears_23 (by decide) ?_
  refine x_iast (j := iI (25)) hE hK hN hP hS 7 (by decide) (fun _ => yG_10 rfl) (iI_in (n := 30) (by omega)) dX9_clears_24 (fun ar5 H locs ha5 hP hS => ?_)
  refine lv_iinc (v := iI (2)) (lv' := [(1, .int (iI (2))), (0, .ref (ad 0))]) hE.1 hE.2.1 dX9_clears_25 hl (k := 0) rfl ((iI_add (1) (1)).trans (congrArg iI (by omega))) (by decide) rfl (fun ls hl => ?_)
  refine lv_goto (tgt := 9) hE.1 hE.2.1 dX9_clears_28 (by decide) ?_
  refine lv_iload_n hE.1 hE.2.1 dX9_clears_9 rfl (lv_at hl 0 rfl) ?_
  refine lv_bipush (v := iI (6)) hE.1 hE.2.1 dX9_clears_10 (by decide) ?_
  refine s_icmp_ge (a := 2) (b := 6) (tgt := 31) hE.1 hE.2.1 (by omega) (by omega) dX9_clears_12 (by decide) (fun c6 => False.elim (by omega)) (fun _ => ?_)
  refine lv_aload_n hE.1 hE.2.1 dX9_clears_15 rfl (lv_at hl 1 rfl) ?_
  refine x_get (x := .ref (ad 7)) hE hK hP 0 (by decide) (yG_9 rfl) rfl hin9 17 (by decide) mw_1351 rfl dX9_clears_16 ?_
  refine lv_bipush (v := iI (24)) hE.1 hE.2.1 dX9_clears_19 (by decide) ?_
  refine lv_iload_n hE.1 hE.2.1 dX9_clears_21 rfl (lv_at hl 0 rfl) ?_
  refine lv_iadd hE.1 hE.2.1 dX9_clears_22 ?_
  refine x_top (y := iI (26)) ((iI_add (24) (2)).trans (congrArg iI (by omega))) ?_
  refine lv_iconst (v := iI (0)) hE.1 hE.2.1 dX9_clears_23 (by decide) ?_
  refine x_iast (j := iI (26)) hE hK hN hP hS 7 (by decide) (fun _ => yG_10 rfl) (iI_in (n := 30) (by omega)) dX9_clears_24 (fun ar7 H locs ha7 hP hS => ?_)
  refine lv_iinc (v := iI (3)) (lv' := [(1, .int (iI (3))), (0, .ref (ad 0))]) hE.1 hE.2.1 dX9_clears_25 hl (k := 0) rfl ((iI_add (2) (1)).trans (congrArg iI (by omega))) (by decide) rfl (fun ls hl => ?_)
  refine lv_goto (tgt := 9) hE.1 hE.2.1 dX9_clears_28 (by decide) ?_
  refine lv_iload_n hE.1 hE.2.1 dX9_clears_9 rfl (lv_at hl 0 rfl) ?_
  refine lv_bipush (v := iI (6)) hE.1 hE.2.1 dX9_clears_10 (by decide) ?_
  refine s_icmp_ge (a := 3) (b := 6) (tgt := 31) hE.1 hE.2.1 (by omega) (by omega) dX9_clears_12 (by decide) (fun c8 => False.elim (by omega)) (fun _ => ?_)
  refine lv_aload_n hE.1 hE.2.1 dX9_clears_15 rfl (lv_at hl 1 rfl) ?_
  refine x_get (x := .ref (ad 7)) hE hK hP 0 (by decide) (yG_9 rfl) rfl hin9 17 (by decide) mw_1351 rfl dX9_clears_16 ?_
  refine lv_bipush (v := iI (24)) hE.1 hE.2.1 dX9_clears_19 (by decide) ?_
  refine lv_iload_n hE.1 hE.2.1 dX9_clears_21 rfl (lv_at hl 0 rfl) ?_
  refine lv_iadd hE.1 hE.2.1 dX9_clears_22 ?_
  refine x_top (y := iI (27)) ((iI_add (24) (3)).trans (congrArg iI (by omega))) ?_
  refine lv_iconst (v := iI (0)) hE.1 hE.2.1 dX9_clears_23 (by decide) ?_
  refine x_iast (j := iI (27)) hE hK hN hP hS 7 (by decide) (fun _ => yG_10 rfl) (iI_in (n := 30) (by omega)) dX9_clears_24 (fun ar9 H locs ha9 hP hS => ?_)
  refine lv_iinc (v := iI (4)) (lv' := [(1, .int (iI (4))), (0, .ref (ad 0))]) hE.1 hE.2.1 dX9_clears_25 hl (k := 0) rfl ((iI_add (3) (1)).trans (congrArg iI (by omega))) (by decide) rfl (fun ls hl => ?_)
  refine lv_goto (tgt := 9) hE.1 hE.2.1 dX9_clears_28 (by decide) ?_
  refine lv_iload_n hE.1 hE.2.1 dX9_clears_9 rfl (lv_at hl 0 rfl) ?_
  refine lv_bipush (v := iI (6)) hE.1 hE.2.1 dX9_clears_10 (by decide) ?_
  refine s_icmp_ge (a := 4) (b := 6) (tgt := 31) hE.1 hE.2.1 (by omega) (by omega) dX9_clears_12 (by decide) (fun c10 => False.elim (by omega)) (fun _ => ?_)
  refine lv_aload_n hE.1 hE.2.1 dX9_clears_15 rfl (lv_at hl 1 rfl) ?_
  refine x_get (x := .ref (ad 7)) hE hK hP 0 (by decide) (yG_9 rfl) rfl hin9 17 (by decide) mw_1351 rfl dX9_clears_16 ?_
  refine lv_bipush (v := iI (24)) hE.1 hE.2.1 dX9_clears_19 (by decide) ?_
  refine lv_iload_n hE.1 hE.2.1 dX9_clears_21 rfl (lv_at hl 0 rfl) ?_
  refine lv_iadd hE.1 hE.2.1 dX9_clears_22 ?_
  refine x_top (y := iI (28)) ((iI_add (24) (4)).trans (congrArg iI (by omega))) ?_
  refine lv_iconst (v := iI (0)) hE.1 hE.2.1 dX9_clears_23 (by decide) ?_
  refine x_iast (j := iI (28)) hE hK hN hP hS 7 (by decide) (fun _ => yG_10 rfl) (iI_in (n := 30) (by omega)) dX9_clears_24 (fun ar11 H locs ha11 hP hS => ?_)
  refine lv_iinc (v := iI (5)) (lv' := [(1, .int (iI (5))), (0, .ref (ad 0))]) hE.1 hE.2.1 dX9_clears_25 hl (k := 0) rfl ((iI_add (4) (1)).trans (congrArg iI (by omega))) (by decide) rfl (fun ls hl => ?_)
  refine lv_goto (tgt := 9) hE.1 hE.2.1 dX9_clears_28 (by decide) ?_
  refine lv_iload_n hE.1 hE.2.1 dX9_clears_9 rfl (lv_at hl 0 rfl) ?_
  refine lv_bipush (v := iI (6)) hE.1 hE.2.1 dX9_clears_10 (by decide) ?_
  refine s_icmp_ge (a := 5) (b := 6) (tgt := 31) hE.1 hE.2.1 (by omega) (by omega) dX9_clears_12 (by decide) (fun c12 => False.elim (by omega)) (fun _ => ?_)
  refine lv_aload_n hE.1 hE.2.1 dX9_clears_15 rfl (lv_at hl 1 rfl) ?_
  refine x_get (x := .ref (ad 7)) hE hK hP 0 (by decide) (yG_9 rfl) rfl hin9 17 (by decide) mw_1351 rfl dX9_clears_16 ?_
  refine lv_bipush (v := iI (24)) hE.1 hE.2.1 dX9_clears_19 (by decide) ?_
  refine lv_iload_n hE.1 hE.2.1 dX9_clears_21 rfl (lv_at hl 0 rfl) ?_
  refine lv_iadd hE.1 hE.2.1 dX9_clears_22 ?_
  refine x_top (y := iI (29)) ((iI_add (24) (5)).trans (congrArg iI (by omega))) ?_
  refine lv_iconst (v := iI (0)) hE.1 hE.2.1 dX9_clears_23 (by decide) ?_
  refine x_iast (j := iI (29)) hE hK hN hP hS 7 (by decide) (fun _ => yG_10 rfl) (iI_in (n := 30) (by omega)) dX9_clears_24 (fun ar13 H locs ha13 hP hS => ?_)
  have hI := YI_clears hI ha1 ha3 ha5 ha7 ha9 ha11 ha13
  refine lv_iinc (v := iI (6)) (lv' := [(1, .int (iI (6))), (0, .ref (ad 0))]) hE.1 hE.2.1 dX9_clears_25 hl (k := 0) rfl ((iI_add (5) (1)).trans (congrArg iI (by omega))) (by decide) rfl (fun ls hl => ?_)
  refine lv_goto (tgt := 9) hE.1 hE.2.1 dX9_clears_28 (by decide) ?_
  refine lv_iload_n hE.1 hE.2.1 dX9_clears_9 rfl (lv_at hl 0 rfl) ?_
  refine lv_bipush (v := iI (6)) hE.1 hE.2.1 dX9_clears_10 (by decide) ?_
  refine s_icmp_ge (a := 6) (b := 6) (tgt := 31) hE.1 hE.2.1 (by omega) (by omega) dX9_clears_12 (by decide) (fun _ => ?_) (fun c14 => False.elim (by omega))
  exact kr v ar13 al _ _ _ _ ⟨hI, fun i j h => rfl, fun i h => ((upx_ne ha13 i (fun q => h (by rw [q]; decide))).trans ((upx_ne ha11 i (fun q => h (by rw [q]; decide))).trans ((upx_ne ha9 i (fun q => h (by rw [q]; decide))).trans ((upx_ne ha7 i (fun q => h (by rw [q]; decide))).trans ((upx_ne ha5 i (fun q => h (by rw [q]; decide))).trans ((upx_ne ha3 i (fun q => h (by rw [q]; decide))).trans (upx_ne ha1 i (fun q => h (by rw [q]; decide))))))))), fun i h => rfl⟩ hP hS dX9_clears_31

theorem dX9_hasRead_0 : decode cX9_hasRead 0 = .ok (.aload_n 0, 1) := by decide +kernel
theorem dX9_hasRead_1 : decode cX9_hasRead 1 = .ok (.getfield 34, 3) := by decide +kernel
theorem dX9_hasRead_4 : decode cX9_hasRead 4 = .ok (.bipush 24, 2) := by decide +kernel
theorem dX9_hasRead_6 : decode cX9_hasRead 6 = .ok (.iload_n 1, 1) := by decide +kernel
theorem dX9_hasRead_7 : decode cX9_hasRead 7 = .ok (.iadd, 1) := by decide +kernel
theorem dX9_hasRead_8 : decode cX9_hasRead 8 = .ok (.iaload, 1) := by decide +kernel
theorem dX9_hasRead_9 : decode cX9_hasRead 9 = .ok (.ireturn, 1) := by decide +kernel
set_option maxHeartbeats 4000000 in
set_option maxRecDepth 100000 in
theorem s_X9_hasRead_c0_2 (l : Launch) (D : va_G) (K : Nat → ClassId) (ad : Nat → Nat) (v ar : sI) (al : sL) (hI : YI v ar) (w_1 : Int) (hw_1 : 0 ≤ w_1 ∧ w_1 ≤ 9) (ew_1 : ar 7 26 = iI w_1) : Met l yX9_hasRead (wM yX9_hasRead cX9_hasRead 2 (some .int)) (rmD 0) (va_Pc [.ref (ad 0), .int (iI (2))] (wPre D K ad (yG ad K) 21 v ar al)) (vp_Si (fun r => ∃ z : Int, (z = w_1) ∧ r = iI z)) 0 0 (fun _ => False) := by
  refine s_metP (by decide) (Nat.le_of_ble_eq_true rfl) ?_
  intro p e s m below meth c ls args Q hE hB hl kr
  have hE : CallFix p m c cX9_hasRead 2 s args tbG "TaleCourtModel" := hE
  obtain ⟨hP, hK, hN⟩ := hB
  have hl : lv_has ls 2 [(0, .ref (ad 0)), (1, .int (iI (2)))] := hl
  refine lv_aload_n hE.1 hE.2.1 dX9_hasRead_0 rfl (lv_at hl 0 rfl) ?_
  refine x_get (x := .ref (ad 7)) hE hK hP 0 (by decide) (yG_9 rfl) rfl hin9 17 (by decide) mw_1351 rfl dX9_hasRead_1 ?_
  refine lv_bipush (v := iI (24)) hE.1 hE.2.1 dX9_hasRead_4 (by decide) ?_
  refine lv_iload_n hE.1 hE.2.1 dX9_hasRead_6 rfl (lv_at hl 1 rfl) ?_
  refine lv_iadd hE.1 hE.2.1 dX9_hasRead_7 ?_
  refine x_top (y := iI (26)) ((iI_add (24) (2)).trans (congrArg iI (by omega))) ?_
  refine x_iald (j := iI (26)) hE hK hP 7 (by decide) (yG_10 rfl) (iI_in (n := 30) (by omega)) dX9_hasRead_8 ?_
  refine x_top (y := iI (w_1)) (by rw [show (iI (26)).toNatClampNeg = 26 from by decide]; exact ew_1) ?_
  exact kr _ _ _ rfl ⟨w_1, by omega, rfl⟩ dX9_hasRead_9

theorem dX9_placeRead_0 : decode cX9_placeRead 0 = .ok (.bipush 9, 2) := by decide +kernel
theorem dX9_placeRead_2 : decode cX9_placeRead 2 = .ok (.bipush 36, 2) := by decide +kernel
theorem dX9_placeRead_4 : decode cX9_placeRead 4 = .ok (.iload_n 1, 1) := by decide +kernel
theorem dX9_placeRead_5 : decode cX9_placeRead 5 = .ok (.iadd, 1) := by decide +kernel
theorem dX9_placeRead_6 : decode cX9_placeRead 6 = .ok (.imul, 1) := by decide +kernel
theorem dX9_placeRead_7 : decode cX9_placeRead 7 = .ok (.ireturn, 1) := by decide +kernel
set_option maxHeartbeats 4000000 in
set_option maxRecDepth 100000 in
theorem s_X9_placeRead (l : Launch) (D : va_G) (K : Nat → ClassId) (ad : Nat → Nat) (v ar : sI) (al : sL) (hI : YI v ar) (z_1 : Int) (hz_1 : 0 ≤ z_1 ∧ z_1 ≤ 8) : Met l yX9_placeRead (wM yX9_placeRead cX9_placeRead 2 (some .int)) (rmD 0) (va_Pc [.ref (ad 0), .int (iI (z_1))] (wPre D K ad (yG ad K) 21 v ar al)) (vp_Si (fun r => ∃ z : Int, (z = 9 * (36 + z_1)) ∧ r = iI z)) 0 0 (fun _ => False) := by
  refine s_metP (by decide) (Nat.le_of_ble_eq_true rfl) ?_
  intro p e s m below meth c ls args Q hE hB hl kr
  have hE : CallFix p m c cX9_placeRead 2 s args tbG "TaleCourtModel" := hE
  obtain ⟨hP, hK, hN⟩ := hB
  have hl : lv_has ls 2 [(0, .ref (ad 0)), (1, .int (iI (z_1)))] := hl
  refine lv_bipush (v := iI (9)) hE.1 hE.2.1 dX9_placeRead_0 (by decide) ?_
  refine lv_bipush (v := iI (36)) hE.1 hE.2.1 dX9_placeRead_2 (by decide) ?_
  refine lv_iload_n hE.1 hE.2.1 dX9_placeRead_4 rfl (lv_at hl 1 rfl) ?_
  refine lv_iadd hE.1 hE.2.1 dX9_placeRead_5 ?_
  refine x_top (y := iI (z_1 + 36)) ((iI_add (36) (z_1)).trans (congrArg iI (by omega))) ?_
  refine lv_imul hE.1 hE.2.1 dX9_placeRead_6 ?_
  refine x_top (y := iI (9 * z_1 + 324)) ((iI_mul (9) (z_1 + 36)).trans (congrArg iI (by omega))) ?_
  exact kr _ _ _ rfl ⟨9 * z_1 + 324, by omega, rfl⟩ dX9_placeRead_7

theorem dX9_is_0 : decode cX9_is 0 = .ok (.aload_n 0, 1) := by decide +kernel
theorem dX9_is_1 : decode cX9_is 1 = .ok (.getfield 133, 3) := by decide +kernel
theorem dX9_is_4 : decode cX9_is 4 = .ok (.ifCond .ne 24, 3) := by decide +kernel
theorem dX9_is_7 : decode cX9_is 7 = .ok (.aload_n 0, 1) := by decide +kernel
theorem dX9_is_8 : decode cX9_is 8 = .ok (.getfield 122, 3) := by decide +kernel
theorem dX9_is_11 : decode cX9_is 11 = .ok (.iconst 1, 1) := by decide +kernel
theorem dX9_is_12 : decode cX9_is 12 = .ok (.if_icmp .ne 16, 3) := by decide +kernel
theorem dX9_is_15 : decode cX9_is 15 = .ok (.aload_n 0, 1) := by decide +kernel
theorem dX9_is_16 : decode cX9_is 16 = .ok (.getfield 118, 3) := by decide +kernel
theorem dX9_is_19 : decode cX9_is 19 = .ok (.lload_n 1, 1) := by decide +kernel
theorem dX9_is_20 : decode cX9_is 20 = .ok (.lcmp, 1) := by decide +kernel
theorem dX9_is_21 : decode cX9_is 21 = .ok (.ifCond .ne 7, 3) := by decide +kernel
theorem dX9_is_24 : decode cX9_is 24 = .ok (.iconst 1, 1) := by decide +kernel
theorem dX9_is_25 : decode cX9_is 25 = .ok (.goto 4, 3) := by decide +kernel
theorem dX9_is_28 : decode cX9_is 28 = .ok (.iconst 0, 1) := by decide +kernel
theorem dX9_is_29 : decode cX9_is 29 = .ok (.ireturn, 1) := by decide +kernel
set_option maxHeartbeats 4000000 in
set_option maxRecDepth 100000 in
theorem s_X9_is (l : Launch) (D : va_G) (K : Nat → ClassId) (ad : Nat → Nat) (v ar : sI) (al : sL) (hI : YI v ar) (w_1 : Int) (hw_1 : -2147483648 ≤ w_1 ∧ w_1 ≤ 2147483647) (ew_1 : v 0 12 = iI w_1) (w_2 : Int) (hw_2 : -2147483648 ≤ w_2 ∧ w_2 ≤ 2147483647) (ew_2 : v 0 8 = iI w_2) (z_1 : Int) (hz_1 : -9223372036854775808 ≤ z_1 ∧ z_1 ≤ 9223372036854775807) : Met l yX9_is (wM yX9_is cX9_is 3 (some .boolean)) (rmD 0) (va_Pc [.ref (ad 0), .long (lI (z_1))] (wPre D K ad (yG ad K) 21 v ar al)) (vp_Si (fun r => ∃ z : Int, (z = 0 ∨ (z = 1 ∧ w_1 = 0 ∧ w_2 = 1)) ∧ r = iI z)) 0 0 (fun _ => False) := by
  refine s_metP (by decide) (Nat.le_of_ble_eq_true rfl) ?_
  intro p e s m below meth c ls args Q hE hB hl kr
  have hE : CallFix p m c cX9_is 3 s args tbG "TaleCourtModel" := hE
  obtain ⟨hP, hK, hN⟩ := hB
  have hl : lv_has ls 3 [(0, .ref (ad 0)), (1, .long (lI (z_1)))] := hl
  refine lv_aload_n hE.1 hE.2.1 dX9_is_0 rfl (lv_at hl 0 rfl) ?_
  refine x_get (x := .int (v 0 12)) hE hK hP 0 (by decide) (yG_9 rfl) rfl hin9 12 (by decide) mw_1346 rfl dX9_is_1 ?_
  refine x_top (y := iI (w_1)) ew_1 ?_
  refine s_if_ne (a := w_1) (tgt := 28) hE.1 hE.2.1 (by omega) dX9_is_4 (by decide) (fun c1 => ?_) (fun c1 => ?_)
  · skip
    refine lv_iconst (v := iI (0)) hE.1 hE.2.1 dX9_is_28 (by decide) ?_
    exact kr _ _ _ (nar01 (by omega)) ⟨0, by omega, rfl⟩ dX9_is_29
  · skip
    refine lv_aload_n hE.1 hE.2.1 dX9_is_7 rfl (lv_at hl 0 rfl) ?_
    refine x_get (x := .int (v 0 8)) hE hK hP 0 (by decide) (yG_9 rfl) rfl hin9 8 (by decide) mw_1342 rfl dX9_is_8 ?_
    refine x_top (y := iI (w_2)) ew_2 ?_
    refine lv_iconst (v := iI (1)) hE.1 hE.2.1 dX9_is_11 (by decide) ?_
    refine s_icmp_ne (a := w_2) (b := 1) (tgt := 28) hE.1 hE.2.1 (by omega) (by omega) dX9_is_12 (by decide) (fun c2 => ?_) (fun c2 => ?_)
    · skip
      refine lv_iconst (v := iI (0)) hE.1 hE.2.1 dX9_is_28 (by decide) ?_
      exact kr _ _ _ (nar01 (by omega)) ⟨0, by omega, rfl⟩ dX9_is_29
    · skip
      refine lv_aload_n hE.1 hE.2.1 dX9_is_15 rfl (lv_at hl 0 rfl) ?_
      refine x_get (x := .long (al 0 0)) hE hK hP 0 (by decide) (yG_9 rfl) rfl hin9 11 (by decide) mw_1345 rfl dX9_is_16 ?_
      obtain ⟨z3, hz3, ez3⟩ := lI_of (al 0 0)
      refine x_topl ez3 ?_
      refine lv_lload_n hE.1 hE.2.1 dX9_is_19 rfl (lv_at hl 1 rfl) ?_
      refine W.lcmp hE.1 hE.2.1 dX9_is_20 ?_
      obtain ⟨z4, hz4, ez4⟩ := lcmp_of (a := z3) (b := z_1) (by omega) (by omega)
      refine x_top ez4 ?_
      refine s_if_ne (a := z4) (tgt := 28) hE.1 hE.2.1 (by omega) dX9_is_21 (by decide) (fun c5 => ?_) (fun c5 => ?_)
      · skip
        refine lv_iconst (v := iI (0)) hE.1 hE.2.1 dX9_is_28 (by decide) ?_
        exact kr _ _ _ (nar01 (by omega)) ⟨0, by omega, rfl⟩ dX9_is_29
      · skip
        refine lv_iconst (v := iI (1)) hE.1 hE.2.1 dX9_is_24 (by decide) ?_
        refine lv_goto (tgt := 29) hE.1 hE.2.1 dX9_is_25 (by decide) ?_
        exact kr _ _ _ (nar01 (by omega)) ⟨1, by omega, rfl⟩ dX9_is_29

theorem dX9_takes_0 : decode cX9_takes 0 = .ok (.aload_n 0, 1) := by decide +kernel
theorem dX9_takes_1 : decode cX9_takes 1 = .ok (.lload_n 1, 1) := by decide +kernel
theorem dX9_takes_2 : decode cX9_takes 2 = .ok (.invokevirtual 139, 3) := by decide +kernel
theorem dX9_takes_5 : decode cX9_takes 5 = .ok (.ifCond .ne 5, 3) := by decide +kernel
theorem dX9_takes_8 : decode cX9_takes 8 = .ok (.iconst 0, 1) := by decide +kernel
theorem dX9_takes_9 : decode cX9_takes 9 = .ok (.ireturn, 1) := by decide +kernel
theorem dX9_takes_10 : decode cX9_takes 10 = .ok (.aload_n 0, 1) := by decide +kernel
theorem dX9_takes_11 : decode cX9_takes 11 = .ok (.invokevirtual 143, 3) := by decide +kernel
theorem dX9_takes_14 : decode cX9_takes 14 = .ok (.iconst 1, 1) := by decide +kernel
theorem dX9_takes_15 : decode cX9_takes 15 = .ok (.ireturn, 1) := by decide +kernel
set_option maxHeartbeats 4000000 in
set_option maxRecDepth 100000 in
theorem s_X9_takes (l : Launch) (D : va_G) (K : Nat → ClassId) (ad : Nat → Nat) (v ar : sI) (al : sL) (hI : YI v ar) (w_1 : Int) (hw_1 : 0 ≤ w_1 ∧ w_1 ≤ 1600) (ew_1 : v 0 6 = iI w_1) (w_2 : Int) (hw_2 : 0 ≤ w_2 ∧ w_2 ≤ 1600) (ew_2 : v 0 7 = iI w_2) (z_1 : Int) (hz_1 : -9223372036854775808 ≤ z_1 ∧ z_1 ≤ 9223372036854775807) (hyp : w_2 ≤ w_1) : Met l yX9_takes (wM yX9_takes cX9_takes 3 (some .boolean)) (rmD 2) (va_Pc [.ref (ad 0), .long (lI (z_1))] (wPre D K ad (yG ad K) 21 v ar al)) (va_Qi (fun (r : Int32) (u : sT) => (∃ z : Int, (0 ≤ z ∧ z ≤ 1) ∧ r = iI z) ∧ YI u.1 u.2.1 ∧ (∀ i j : Nat, (i, j) ∉ ([(0, 7), (0, 8), (0, 9), (0, 10)] : List (Nat × Nat)) → u.1 i j = v i j) ∧ (∀ i : Nat, i ∉ ([] : List Nat) → u.2.1 i = ar i) ∧ (∀ i : Nat, i ∉ ([0] : List Nat) → u.2.2 i = al i) ∧ (∃ x_1 : Int, (0 ≤ x_1 ∧ x_1 ≤ 1600 ∧ (w_2 ≤ x_1 ∧ x_1 ≤ w_1)) ∧ u.1 0 7 = iI x_1)) (wB D ad (yG ad K) 21) (inW ad 21)) 0 0 (inW ad 21) := by
  refine s_metI (by decide) (Nat.le_of_ble_eq_true rfl) ?_
  intro p e s m below meth c ls args Q hE hB hl kr
  have hE : CallFix p m c cX9_takes 3 s args tbG "TaleCourtModel" := hE
  obtain ⟨hP, hK, hN⟩ := hB
  have hS : va_S (inW ad 21) s.heap s.heap [] := va_S.rf
  have hl : lv_has ls 3 [(0, .ref (ad 0)), (1, .long (lI (z_1)))] := hl
  refine lv_aload_n hE.1 hE.2.1 dX9_takes_0 rfl (lv_at hl 0 rfl) ?_
  refine lv_lload_n hE.1 hE.2.1 dX9_takes_1 rfl (lv_at hl 1 rfl) ?_
  obtain ⟨z1, hz1, ez1⟩ := iI_of (v 0 12)
  obtain ⟨z2, hz2, ez2⟩ := iI_of (v 0 8)
  refine x_vp (nn := 1) (As := [.long (lI (z_1))]) (rest := []) hE (s_X9_is l D K ad v ar al hI (z1) (by omega) ez1 (z2) (by omega) ez2 (z_1) (by omega)) wPre_blind (wPre_now hK hN hP) (x_recv hK hP 0 (by decide) (yG_9 rfl) rfl) rfl mw_1562 mw_1564 mw_55 mw_123 mw_1565 (by decide +kernel) ⟨by decide, by decide⟩ hl.1 rfl (Nat.le_of_ble_eq_true rfl) ⟨Nat.zero_le _, Nat.zero_le _⟩ dX9_takes_2 (fun r3 hr3 => ?_)
  obtain ⟨z3, hz3, rfl⟩ := hr3
  refine s_if_ne (a := z3) (tgt := 10) hE.1 hE.2.1 (by omega) dX9_takes_5 (by decide) (fun c4 => ?_) (fun c4 => ?_)
  · skip
    refine lv_aload_n hE.1 hE.2.1 dX9_takes_10 rfl (lv_at hl 0 rfl) ?_
    refine x_vv (nn := 0) (As := []) (rest := []) hE hK hN hP hS (s_X9_next l D K ad v ar al hI (w_1) (by omega) ew_1 (w_2) (by omega) ew_2  (by omega)) (x_recv hK hP 0 (by decide) (yG_9 rfl) rfl) rfl mw_1536 mw_1538 mw_50 mw_123 mw_1539 (by decide +kernel) ⟨by decide, by decide⟩ hl.1 rfl (Nat.le_of_ble_eq_true rfl) ⟨Nat.zero_le _, Nat.zero_le _⟩ dX9_takes_11 (fun v5 ar5 al5 H locs hq5 hP hS => ?_)
    obtain ⟨hI, hq5, hqa5, hql5, x5_1, x5_2, hx5, ex5_1, ex5_2⟩ := hq5
    have hI : YI v5 ar5 := hI
    refine lv_iconst (v := iI (1)) hE.1 hE.2.1 dX9_takes_14 (by decide) ?_
    exact kr _ v5 ar5 al5 _ _ _ _ (nar01 (by omega)) ⟨⟨1, by omega, rfl⟩, hI, fun i j h => (hq5 i j (fun q => h (mem_sub (by decide) q))), fun i h => (hqa5 i (fun q => h (mem_subn (by decide) q))), fun i h => (hql5 i (fun q => h (mem_subn (by decide) q))), x5_1, by omega, ex5_1⟩ hP hS dX9_takes_15
  · skip
    refine lv_iconst (v := iI (0)) hE.1 hE.2.1 dX9_takes_8 (by decide) ?_
    exact kr _ v ar al _ _ _ _ (nar01 (by omega)) ⟨⟨0, by omega, rfl⟩, hI, fun i j h => rfl, fun i h => rfl, fun i h => rfl, w_2, by omega, ew_2⟩ hP hS dX9_takes_9

theorem dX9_asks_0 : decode cX9_asks 0 = .ok (.aload_n 0, 1) := by decide +kernel
theorem dX9_asks_1 : decode cX9_asks 1 = .ok (.lload_n 1, 1) := by decide +kernel
theorem dX9_asks_2 : decode cX9_asks 2 = .ok (.invokevirtual 146, 3) := by decide +kernel
theorem dX9_asks_5 : decode cX9_asks 5 = .ok (.ifCond .ne 8, 3) := by decide +kernel
theorem dX9_asks_8 : decode cX9_asks 8 = .ok (.aload_n 0, 1) := by decide +kernel
theorem dX9_asks_9 : decode cX9_asks 9 = .ok (.iconst 1, 1) := by decide +kernel
theorem dX9_asks_10 : decode cX9_asks 10 = .ok (.invokevirtual 149, 3) := by decide +kernel
theorem dX9_asks_13 : decode cX9_asks 13 = .ok (.return_, 1) := by decide +kernel
set_option maxHeartbeats 4000000 in
set_option maxRecDepth 100000 in
theorem s_X9_asks (l : Launch) (D : va_G) (K : Nat → ClassId) (ad : Nat → Nat) (v ar : sI) (al : sL) (hI : YI v ar) (w_1 : Int) (hw_1 : 0 ≤ w_1 ∧ w_1 ≤ 1600) (ew_1 : v 0 6 = iI w_1) (w_2 : Int) (hw_2 : 0 ≤ w_2 ∧ w_2 ≤ 1600) (ew_2 : v 0 7 = iI w_2) (z_1 : Int) (hz_1 : -9223372036854775808 ≤ z_1 ∧ z_1 ≤ 9223372036854775807) (hyp : w_2 ≤ w_1) : Met l yX9_asks (wM yX9_asks cX9_asks 3 none) (rmD 3) (va_Pc [.ref (ad 0), .long (lI (z_1))] (wPre D K ad (yG ad K) 21 v ar al)) (va_Qv (fun u : sT => YI u.1 u.2.1 ∧ (∀ i j : Nat, (i, j) ∉ ([(0, 7), (0, 8), (0, 9), (0, 10), (0, 12), (0, 13)] : List (Nat × Nat)) → u.1 i j = v i j) ∧ (∀ i : Nat, i ∉ ([] : List Nat) → u.2.1 i = ar i) ∧ (∀ i : Nat, i ∉ ([0] : List Nat) → u.2.2 i = al i) ∧ (∃ x_1 : Int, (0 ≤ x_1 ∧ x_1 ≤ 1600 ∧ (w_2 ≤ x_1 ∧ x_1 ≤ w_1)) ∧ u.1 0 7 = iI x_1)) (wB D ad (yG ad K) 21) (inW ad 21)) 0 0 (inW ad 21) := by
  refine s_metV (by decide) (Nat.le_of_ble_eq_true rfl) ?_
  intro p e s m below meth c ls args Q hE hB hl kr
  have hE : CallFix p m c cX9_asks 3 s args tbG "TaleCourtModel" := hE
  obtain ⟨hP, hK, hN⟩ := hB
  have hS : va_S (inW ad 21) s.heap s.heap [] := va_S.rf
  have hl : lv_has ls 3 [(0, .ref (ad 0)), (1, .long (lI (z_1)))] := hl
  refine lv_aload_n hE.1 hE.2.1 dX9_asks_0 rfl (lv_at hl 0 rfl) ?_
  refine lv_lload_n hE.1 hE.2.1 dX9_asks_1 rfl (lv_at hl 1 rfl) ?_
  refine x_vi (nn := 1) (As := [.long (lI (z_1))]) (rest := []) hE hK hN hP hS (s_X9_takes l D K ad v ar al hI (w_1) (by omega) ew_1 (w_2) (by omega) ew_2 (z_1) (by omega) (by omega)) (x_recv hK hP 0 (by decide) (yG_9 rfl) rfl) rfl mw_1558 mw_1560 mw_54 mw_123 mw_1561 (by decide +kernel) ⟨by decide, by decide⟩ hl.1 rfl (Nat.le_of_ble_eq_true rfl) ⟨Nat.zero_le _, Nat.zero_le _⟩ dX9_asks_2 (fun r1 v1 ar1 al1 H locs hq1 hP hS => ?_)
  obtain ⟨⟨z1, hz1, rfl⟩, hI, hq1, hqa1, hql1, x1_1, hx1, ex1_1⟩ := hq1
  have hI : YI v1 ar1 := hI
  refine s_if_ne (a := z1) (tgt := 13) hE.1 hE.2.1 (by omega) dX9_asks_5 (by decide) (fun c2 => ?_) (fun c2 => ?_)
  · skip
    exact kr v1 ar1 al1 _ _ _ _ ⟨hI, fun i j h => (hq1 i j (fun q => h (mem_sub (by decide) q))), fun i h => (hqa1 i (fun q => h (mem_subn (by decide) q))), fun i h => (hql1 i (fun q => h (mem_subn (by decide) q))), x1_1, by omega, ex1_1⟩ hP hS dX9_asks_13
  · skip
    refine lv_aload_n hE.1 hE.2.1 dX9_asks_8 rfl (lv_at hl 0 rfl) ?_
    refine lv_iconst (v := iI (1)) hE.1 hE.2.1 dX9_asks_9 (by decide) ?_
    refine x_vv (nn := 1) (As := [.int (iI (1))]) (rest := []) hE hK hN hP hS (s_X9_fails l D K ad v1 ar1 al1 hI  (1) (by omega)) (x_recv hK hP 0 (by decide) (yG_9 rfl) rfl) rfl mw_1566 mw_1568 mw_56 mw_123 mw_1569 (by decide +kernel) ⟨by decide, by decide⟩ hl.1 rfl (Nat.le_of_ble_eq_true rfl) ⟨Nat.zero_le _, Nat.zero_le _⟩ dX9_asks_10 (fun v3 ar3 al3 H locs hq3 hP hS => ?_)
    obtain ⟨hI, hq3, hqa3, hql3, x3_1, hx3, ex3_1⟩ := hq3
    have hI : YI v3 ar3 := hI
    exact kr v3 ar3 al3 _ _ _ _ ⟨hI, fun i j h => ((hq3 i j (fun q => h (mem_sub (by decide) q))).trans (hq1 i j (fun q => h (mem_sub (by decide) q)))), fun i h => ((hqa3 i (fun q => h (mem_subn (by decide) q))).trans (hqa1 i (fun q => h (mem_subn (by decide) q)))), fun i h => ((hql3 i (fun q => h (mem_subn (by decide) q))).trans (hql1 i (fun q => h (mem_subn (by decide) q)))), x1_1, by omega, ((hq3 0 7 (by decide)).trans ex1_1)⟩ hP hS dX9_asks_13

theorem dX9_number_0 : decode cX9_number 0 = .ok (.aload_n 0, 1) := by decide +kernel
theorem dX9_number_1 : decode cX9_number 1 = .ok (.getfield 133, 3) := by decide +kernel
theorem dX9_number_4 : decode cX9_number 4 = .ok (.ifCond .eq 5, 3) := by decide +kernel
theorem dX9_number_7 : decode cX9_number 7 = .ok (.iload_n 1, 1) := by decide +kernel
theorem dX9_number_8 : decode cX9_number 8 = .ok (.ireturn, 1) := by decide +kernel
theorem dX9_number_9 : decode cX9_number 9 = .ok (.aload_n 0, 1) := by decide +kernel
theorem dX9_number_10 : decode cX9_number 10 = .ok (.getfield 122, 3) := by decide +kernel
theorem dX9_number_13 : decode cX9_number 13 = .ok (.iconst 2, 1) := by decide +kernel
theorem dX9_number_14 : decode cX9_number 14 = .ok (.if_icmp .eq 10, 3) := by decide +kernel
theorem dX9_number_17 : decode cX9_number 17 = .ok (.aload_n 0, 1) := by decide +kernel
theorem dX9_number_18 : decode cX9_number 18 = .ok (.iconst 1, 1) := by decide +kernel
theorem dX9_number_19 : decode cX9_number 19 = .ok (.invokevirtual 149, 3) := by decide +kernel
theorem dX9_number_22 : decode cX9_number 22 = .ok (.iload_n 1, 1) := by decide +kernel
theorem dX9_number_23 : decode cX9_number 23 = .ok (.ireturn, 1) := by decide +kernel
theorem dX9_number_24 : decode cX9_number 24 = .ok (.aload_n 0, 1) := by decide +kernel
theorem dX9_number_25 : decode cX9_number 25 = .ok (.getfield 115, 3) := by decide +kernel
theorem dX9_number_28 : decode cX9_number 28 = .ok (.i2l, 1) := by decide +kernel
theorem dX9_number_29 : decode cX9_number 29 = .ok (.iload_n 1, 1) := by decide +kernel
theorem dX9_number_30 : decode cX9_number 30 = .ok (.i2l, 1) := by decide +kernel
theorem dX9_number_31 : decode cX9_number 31 = .ok (.iload_n 2, 1) := by decide +kernel
theorem dX9_number_32 : decode cX9_number 32 = .ok (.i2l, 1) := by decide +kernel
theorem dX9_number_33 : decode cX9_number 33 = .ok (.invokestatic 86, 3) := by decide +kernel
theorem dX9_number_36 : decode cX9_number 36 = .ok (.ifCond .ne 10, 3) := by decide +kernel
theorem dX9_number_39 : decode cX9_number 39 = .ok (.aload_n 0, 1) := by decide +kernel
theorem dX9_number_40 : decode cX9_number 40 = .ok (.iconst 2, 1) := by decide +kernel
theorem dX9_number_41 : decode cX9_number 41 = .ok (.invokevirtual 149, 3) := by decide +kernel
theorem dX9_number_44 : decode cX9_number 44 = .ok (.iload_n 1, 1) := by decide +kernel
theorem dX9_number_45 : decode cX9_number 45 = .ok (.ireturn, 1) := by decide +kernel
theorem dX9_number_46 : decode cX9_number 46 = .ok (.aload_n 0, 1) := by decide +kernel
theorem dX9_number_47 : decode cX9_number 47 = .ok (.getfield 115, 3) := by decide +kernel
theorem dX9_number_50 : decode cX9_number 50 = .ok (.istore_n 3, 1) := by decide +kernel
theorem dX9_number_51 : decode cX9_number 51 = .ok (.aload_n 0, 1) := by decide +kernel
theorem dX9_number_52 : decode cX9_number 52 = .ok (.invokevirtual 143, 3) := by decide +kernel
theorem dX9_number_55 : decode cX9_number 55 = .ok (.iload_n 3, 1) := by decide +kernel
theorem dX9_number_56 : decode cX9_number 56 = .ok (.ireturn, 1) := by decide +kernel
set_option maxHeartbeats 4000000 in
set_option maxRecDepth 100000 in
theorem s_X9_number (l : Launch) (D : va_G) (K : Nat → ClassId) (ad : Nat → Nat) (v ar : sI) (al : sL) (hI : YI v ar) (w_1 : Int) (hw_1 : 0 ≤ w_1 ∧ w_1 ≤ 1600) (ew_1 : v 0 6 = iI w_1) (w_2 : Int) (hw_2 : 0 ≤ w_2 ∧ w_2 ≤ 1600) (ew_2 : v 0 7 = iI w_2) (z_1 : Int) (hz_1 : -2147483648 ≤ z_1 ∧ z_1 ≤ 2147483647) (z_2 : Int) (hz_2 : -2147483648 ≤ z_2 ∧ z_2 ≤ 2147483647) (hyp : w_2 ≤ w_1) : Met l yX9_number (wM yX9_number cX9_number 4 (some .int)) (rmD 2) (va_Pc [.ref (ad 0), .int (iI (z_1)), .int (iI (z_2))] (wPre D K ad (yG ad K) 21 v ar al)) (va_Qi (fun (r : Int32) (u : sT) => (∃ z : Int, (z = z_1 ∨ (z_1 ≤ z ∧ z ≤ z_2)) ∧ r = iI z) ∧ YI u.1 u.2.1 ∧ (∀ i j : Nat, (i, j) ∉ ([(0, 7), (0, 8), (0, 9), (0, 10), (0, 12), (0, 13)] : List (Nat × Nat)) → u.1 i j = v i j) ∧ (∀ i : Nat, i ∉ ([] : List Nat) → u.2.1 i = ar i) ∧ (∀ i : Nat, i ∉ ([0] : List Nat) → u.2.2 i = al i) ∧ (∃ x_1 x_2 x_3 : Int, (0 ≤ x_1 ∧ x_1 ≤ 1600 ∧ -2147483648 ≤ x_2 ∧ x_2 ≤ 2147483647 ∧ -2147483648 ≤ x_3 ∧ x_3 ≤ 2147483647 ∧ (w_2 ≤ x_1 ∧ x_1 ≤ w_1 ∧ (x_3 ≠ 0 ∨ x_2 = 0 ∨ w_2 + 1 ≤ x_1))) ∧ u.1 0 7 = iI x_1 ∧ u.1 0 8 = iI x_2 ∧ u.1 0 12 = iI x_3)) (wB D ad (yG ad K) 21) (inW ad 21)) 0 0 (inW ad 21) := by
  refine s_metI (by decide) (Nat.le_of_ble_eq_true rfl) ?_
  intro p e s m below meth c ls args Q hE hB hl kr
  have hE : CallFix p m c cX9_number 4 s args tbG "TaleCourtModel" := hE
  obtain ⟨hP, hK, hN⟩ := hB
  have hS : va_S (inW ad 21) s.heap s.heap [] := va_S.rf
  have hl : lv_has ls 4 [(0, .ref (ad 0)), (1, .int (iI (z_1))), (2, .int (iI (z_2)))] := hl
  refine lv_aload_n hE.1 hE.2.1 dX9_number_0 rfl (lv_at hl 0 rfl) ?_
  obtain ⟨z1, hz1, ez1⟩ := iI_of (v 0 12)
  refine x_get (x := .int (v 0 12)) hE hK hP 0 (by decide) (yG_9 rfl) rfl hin9 12 (by decide) mw_1346 rfl dX9_number_1 ?_
  refine x_top (y := iI (z1)) ez1 ?_
  refine s_if_eq (a := z1) (tgt := 9) hE.1 hE.2.1 (by omega) dX9_number_4 (by decide) (fun c2 => ?_) (fun c2 => ?_)
  · skip
    refine lv_aload_n hE.1 hE.2.1 dX9_number_9 rfl (lv_at hl 0 rfl) ?_
    obtain ⟨z3, hz3, ez3⟩ := iI_of (v 0 8)
    refine x_get (x := .int (v 0 8)) hE hK hP 0 (by decide) (yG_9 rfl) rfl hin9 8 (by decide) mw_1342 rfl dX9_number_10 ?_
    refine x_top (y := iI (z3)) ez3 ?_
    refine lv_iconst (v := iI (2)) hE.1 hE.2.1 dX9_number_13 (by decide) ?_
    refine s_icmp_eq (a := z3) (b := 2) (tgt := 24) hE.1 hE.2.1 (by omega) (by omega) dX9_number_14 (by decide) (fun c4 => ?_) (fun c4 => ?_)
    · skip
      refine lv_aload_n hE.1 hE.2.1 dX9_number_24 rfl (lv_at hl 0 rfl) ?_
      obtain ⟨z5, hz5, ez5⟩ := iI_of (v 0 10)
      refine x_get (x := .int (v 0 10)) hE hK hP 0 (by decide) (yG_9 rfl) rfl hin9 10 (by decide) mw_1344 rfl dX9_number_25 ?_
      refine x_top (y := iI (z5)) ez5 ?_
      refine lv_i2l (v := lI (z5)) hE.1 hE.2.1 dX9_number_28 (iI_i2l (by omega)) ?_
      refine lv_iload_n hE.1 hE.2.1 dX9_number_29 rfl (lv_at hl 1 rfl) ?_
      refine lv_i2l (v := lI (z_1)) hE.1 hE.2.1 dX9_number_30 (iI_i2l (by omega)) ?_
      refine lv_iload_n hE.1 hE.2.1 dX9_number_31 rfl (lv_at hl 2 rfl) ?_
      refine lv_i2l (v := lI (z_2)) hE.1 hE.2.1 dX9_number_32 (iI_i2l (by omega)) ?_
      refine x_sp (nn := 3) (As := [.long (lI (z5)), .long (lI (z_1)), .long (lI (z_2))]) (rest := []) hE (s_X9_in l (z5) (by omega) (z_1) (by omega) (z_2) (by omega)) tt_blind (fun _ _ _ => trivial) rfl mw_1494 mw_1495 mw_123 mw_1496 (by decide +kernel) ⟨by decide, by decide⟩ hl.1 rfl (Nat.le_of_ble_eq_true rfl) ⟨Nat.zero_le _, Nat.zero_le _⟩ dX9_number_33 (fun r6 hr6 => ?_)
      obtain ⟨z6, hz6, rfl⟩ := hr6
      refine s_if_ne (a := z6) (tgt := 46) hE.1 hE.2.1 (by omega) dX9_number_36 (by decide) (fun c7 => ?_) (fun c7 => ?_)
      · skip
        refine lv_aload_n hE.1 hE.2.1 dX9_number_46 rfl (lv_at hl 0 rfl) ?_
        refine x_get (x := .int (v 0 10)) hE hK hP 0 (by decide) (yG_9 rfl) rfl hin9 10 (by decide) mw_1344 rfl dX9_number_47 ?_
        refine x_top (y := iI (z5)) ez5 ?_
        refine lv_istore_n (lv' := [(3, .int (iI (z5))), (0, .ref (ad 0)), (1, .int (iI (z_1))), (2, .int (iI (z_2)))]) hE.1 hE.2.1 dX9_number_50 rfl hl (by decide) rfl (fun ls hl => ?_)
        refine lv_aload_n hE.1 hE.2.1 dX9_number_51 rfl (lv_at hl 1 rfl) ?_
        refine x_vv (nn := 0) (As := []) (rest := []) hE hK hN hP hS (s_X9_next l D K ad v ar al hI (w_1) (by omega) ew_1 (w_2) (by omega) ew_2  (by omega)) (x_recv hK hP 0 (by decide) (yG_9 rfl) rfl) rfl mw_1536 mw_1538 mw_50 mw_123 mw_1539 (by decide +kernel) ⟨by decide, by decide⟩ hl.1 rfl (Nat.le_of_ble_eq_true rfl) ⟨Nat.zero_le _, Nat.zero_le _⟩ dX9_number_52 (fun v8 ar8 al8 H locs hq8 hP hS => ?_)
        obtain ⟨hI, hq8, hqa8, hql8, x8_1, x8_2, hx8, ex8_1, ex8_2⟩ := hq8
        have hI : YI v8 ar8 := hI
        refine lv_iload_n hE.1 hE.2.1 dX9_number_55 rfl (lv_at hl 0 rfl) ?_
        exact kr _ v8 ar8 al8 _ _ _ _ rfl ⟨⟨z5, by omega, rfl⟩, hI, fun i j h => (hq8 i j (fun q => h (mem_sub (by decide) q))), fun i h => (hqa8 i (fun q => h (mem_subn (by decide) q))), fun i h => (hql8 i (fun q => h (mem_subn (by decide) q))), x8_1, x8_2, z1, by omega, ex8_1, ex8_2, ((hq8 0 12 (by decide)).trans ez1)⟩ hP hS dX9_number_56
      · skip
        refine lv_aload_n hE.1 hE.2.1 dX9_number_39 rfl (lv_at hl 0 rfl) ?_
        refine lv_iconst (v := iI (2)) hE.1 hE.2.1 dX9_number_40 (by decide) ?_
        refine x_vv (nn := 1) (As := [.int (iI (2))]) (rest := []) hE hK hN hP hS (s_X9_fails l D K ad v ar al hI  (2) (by omega)) (x_recv hK hP 0 (by decide) (yG_9 rfl) rfl) rfl mw_1566 mw_1568 mw_56 mw_123 mw_1569 (by decide +kernel) ⟨by decide, by decide⟩ hl.1 rfl (Nat.le_of_ble_eq_true rfl) ⟨Nat.zero_le _, Nat.zero_le _⟩ dX9_number_41 (fun v9 ar9 al9 H locs hq9 hP hS => ?_)
        obtain ⟨hI, hq9, hqa9, hql9, x9_1, hx9, ex9_1⟩ := hq9
        have hI : YI v9 ar9 := hI
        refine lv_iload_n hE.1 hE.2.1 dX9_number_44 rfl (lv_at hl 1 rfl) ?_
        exact kr _ v9 ar9 al9 _ _ _ _ rfl ⟨⟨z_1, by omega, rfl⟩, hI, fun i j h => (hq9 i j (fun q => h (mem_sub (by decide) q))), fun i h => (hqa9 i (fun q => h (mem_subn (by decide) q))), fun i h => (hql9 i (fun q => h (mem_subn (by decide) q))), w_2, z3, x9_1, by omega, ((hq9 0 7 (by decide)).trans ew_2), ((hq9 0 8 (by decide)).trans ez3), ex9_1⟩ hP hS dX9_number_45
    · skip
      refine lv_aload_n hE.1 hE.2.1 dX9_number_17 rfl (lv_at hl 0 rfl) ?_
      refine lv_iconst (v := iI (1)) hE.1 hE.2.1 dX9_number_18 (by decide) ?_
      refine x_vv (nn := 1) (As := [.int (iI (1))]) (rest := []) hE hK hN hP hS (s_X9_fails l D K ad v ar al hI  (1) (by omega)) (x_recv hK hP 0 (by decide) (yG_9 rfl) rfl) rfl mw_1566 mw_1568 mw_56 mw_123 mw_1569 (by decide +kernel) ⟨by decide, by decide⟩ hl.1 rfl (Nat.le_of_ble_eq_true rfl) ⟨Nat.zero_le _, Nat.zero_le _⟩ dX9_number_19 (fun v10 ar10 al10 H locs hq10 hP hS => ?_)
      obtain ⟨hI, hq10, hqa10, hql10, x10_1, hx10, ex10_1⟩ := hq10
      have hI : YI v10 ar10 := hI
      refine lv_iload_n hE.1 hE.2.1 dX9_number_22 rfl (lv_at hl 1 rfl) ?_
      exact kr _ v10 ar10 al10 _ _ _ _ rfl ⟨⟨z_1, by omega, rfl⟩, hI, fun i j h => (hq10 i j (fun q => h (mem_sub (by decide) q))), fun i h => (hqa10 i (fun q => h (mem_subn (by decide) q))), fun i h => (hql10 i (fun q => h (mem_subn (by decide) q))), w_2, z3, x10_1, by omega, ((hq10 0 7 (by decide)).trans ew_2), ((hq10 0 8 (by decide)).trans ez3), ex10_1⟩ hP hS dX9_number_23
  · skip
    refine lv_iload_n hE.1 hE.2.1 dX9_number_7 rfl (lv_at hl 1 rfl) ?_
    obtain ⟨z11, hz11, ez11⟩ := iI_of (v 0 8)
    exact kr _ v ar al _ _ _ _ rfl ⟨⟨z_1, by omega, rfl⟩, hI, fun i j h => rfl, fun i h => rfl, fun i h => rfl, w_2, z11, z1, by omega, ew_2, ez11, ez1⟩ hP hS dX9_number_8

theorem dX9_number__0 : decode cX9_number_ 0 = .ok (.aload_n 0, 1) := by decide +kernel
theorem dX9_number__1 : decode cX9_number_ 1 = .ok (.lload_n 1, 1) := by decide +kernel
theorem dX9_number__2 : decode cX9_number_ 2 = .ok (.invokevirtual 152, 3) := by decide +kernel
theorem dX9_number__5 : decode cX9_number_ 5 = .ok (.aload_n 0, 1) := by decide +kernel
theorem dX9_number__6 : decode cX9_number_ 6 = .ok (.iload_n 3, 1) := by decide +kernel
theorem dX9_number__7 : decode cX9_number_ 7 = .ok (.iload 4, 2) := by decide +kernel
theorem dX9_number__9 : decode cX9_number_ 9 = .ok (.invokevirtual 156, 3) := by decide +kernel
theorem dX9_number__12 : decode cX9_number_ 12 = .ok (.ireturn, 1) := by decide +kernel
set_option maxHeartbeats 4000000 in
set_option maxRecDepth 100000 in
theorem s_X9_number_ (l : Launch) (D : va_G) (K : Nat → ClassId) (ad : Nat → Nat) (v ar : sI) (al : sL) (hI : YI v ar) (w_1 : Int) (hw_1 : 0 ≤ w_1 ∧ w_1 ≤ 1600) (ew_1 : v 0 6 = iI w_1) (w_2 : Int) (hw_2 : 0 ≤ w_2 ∧ w_2 ≤ 1600) (ew_2 : v 0 7 = iI w_2) (z_1 : Int) (hz_1 : -9223372036854775808 ≤ z_1 ∧ z_1 ≤ 9223372036854775807) (z_2 : Int) (hz_2 : -2147483648 ≤ z_2 ∧ z_2 ≤ 2147483647) (z_3 : Int) (hz_3 : -2147483648 ≤ z_3 ∧ z_3 ≤ 2147483647) (hyp : w_2 ≤ w_1) : Met l yX9_number_ (wM yX9_number_ cX9_number_ 5 (some .int)) (rmD 4) (va_Pc [.ref (ad 0), .long (lI (z_1)), .int (iI (z_2)), .int (iI (z_3))] (wPre D K ad (yG ad K) 21 v ar al)) (va_Qi (fun (r : Int32) (u : sT) => (∃ z : Int, (z = z_2 ∨ (z_2 ≤ z ∧ z ≤ z_3)) ∧ r = iI z) ∧ YI u.1 u.2.1 ∧ (∀ i j : Nat, (i, j) ∉ ([(0, 7), (0, 8), (0, 9), (0, 10), (0, 12), (0, 13)] : List (Nat × Nat)) → u.1 i j = v i j) ∧ (∀ i : Nat, i ∉ ([] : List Nat) → u.2.1 i = ar i) ∧ (∀ i : Nat, i ∉ ([0] : List Nat) → u.2.2 i = al i) ∧ (∃ x_1 x_2 x_3 : Int, (0 ≤ x_1 ∧ x_1 ≤ 1600 ∧ -2147483648 ≤ x_2 ∧ x_2 ≤ 2147483647 ∧ -2147483648 ≤ x_3 ∧ x_3 ≤ 2147483647 ∧ (w_2 ≤ x_1 ∧ x_1 ≤ w_1 ∧ (x_3 ≠ 0 ∨ x_2 = 0 ∨ w_2 + 1 ≤ x_1))) ∧ u.1 0 7 = iI x_1 ∧ u.1 0 8 = iI x_2 ∧ u.1 0 12 = iI x_3)) (wB D ad (yG ad K) 21) (inW ad 21)) 0 0 (inW ad 21) := by
  refine s_metI (by decide) (Nat.le_of_ble_eq_true rfl) ?_
  intro p e s m below meth c ls args Q hE hB hl kr
  have hE : CallFix p m c cX9_number_ 5 s args tbG "TaleCourtModel" := hE
  obtain ⟨hP, hK, hN⟩ := hB
  have hS : va_S (inW ad 21) s.heap s.heap [] := va_S.rf
  have hl : lv_has ls 5 [(0, .ref (ad 0)), (1, .long (lI (z_1))), (3, .int (iI (z_2))), (4, .int (iI (z_3)))] := hl
  refine lv_aload_n hE.1 hE.2.1 dX9_number__0 rfl (lv_at hl 0 rfl) ?_
  refine lv_lload_n hE.1 hE.2.1 dX9_number__1 rfl (lv_at hl 1 rfl) ?_
  refine x_vv (nn := 1) (As := [.long (lI (z_1))]) (rest := []) hE hK hN hP hS (s_X9_asks l D K ad v ar al hI (w_1) (by omega) ew_1 (w_2) (by omega) ew_2 (z_1) (by omega) (by omega)) (x_recv hK hP 0 (by decide) (yG_9 rfl) rfl) rfl mw_1554 mw_1556 mw_53 mw_123 mw_1557 (by decide +kernel) ⟨by decide, by decide⟩ hl.1 rfl (Nat.le_of_ble_eq_true rfl) ⟨Nat.zero_le _, Nat.zero_le _⟩ dX9_number__2 (fun v1 ar1 al1 H locs hq1 hP hS => ?_)
  obtain ⟨hI, hq1, hqa1, hql1, x1_1, hx1, ex1_1⟩ := hq1
  have hI : YI v1 ar1 := hI
  refine lv_aload_n hE.1 hE.2.1 dX9_number__5 rfl (lv_at hl 0 rfl) ?_
  refine lv_iload_n hE.1 hE.2.1 dX9_number__6 rfl (lv_at hl 2 rfl) ?_
  refine lv_iload hE.1 hE.2.1 dX9_number__7 (lv_at hl 3 rfl) ?_
  refine x_vi (nn := 2) (As := [.int (iI (z_2)), .int (iI (z_3))]) (rest := []) hE hK hN hP hS (s_X9_number l D K ad v1 ar1 al1 hI (w_1) (by omega) ((hq1 0 6 (by decide)).trans ew_1) (x1_1) (by omega) ex1_1 (z_2) (by omega) (z_3) (by omega) (by omega)) (x_recv hK hP 0 (by decide) (yG_9 rfl) rfl) rfl mw_1575 mw_1577 mw_58 mw_123 mw_1578 (by decide +kernel) ⟨by decide, by decide⟩ hl.1 rfl (Nat.le_of_ble_eq_true rfl) ⟨Nat.zero_le _, Nat.zero_le _⟩ dX9_number__9 (fun r2 v2 ar2 al2 H locs hq2 hP hS => ?_)
  obtain ⟨⟨z2, hz2, rfl⟩, hI, hq2, hqa2, hql2, x2_1, x2_2, x2_3, hx2, ex2_1, ex2_2, ex2_3⟩ := hq2
  have hI : YI v2 ar2 := hI
  exact kr _ v2 ar2 al2 _ _ _ _ rfl ⟨⟨z2, by omega, rfl⟩, hI, fun i j h => ((hq2 i j (fun q => h (mem_sub (by decide) q))).trans (hq1 i j (fun q => h (mem_sub (by decide) q)))), fun i h => ((hqa2 i (fun q => h (mem_subn (by decide) q))).trans (hqa1 i (fun q => h (mem_subn (by decide) q)))), fun i h => ((hql2 i (fun q => h (mem_subn (by decide) q))).trans (hql1 i (fun q => h (mem_subn (by decide) q)))), x2_1, x2_2, x2_3, by omega, ex2_1, ex2_2, ex2_3⟩ hP hS dX9_number__12

theorem dX9_isGood_0 : decode cX9_isGood 0 = .ok (.aload_n 0, 1) := by decide +kernel
theorem dX9_isGood_1 : decode cX9_isGood 1 = .ok (.getfield 133, 3) := by decide +kernel
theorem dX9_isGood_4 : decode cX9_isGood 4 = .ok (.ifCond .ne 7, 3) := by decide +kernel
theorem dX9_isGood_7 : decode cX9_isGood 7 = .ok (.iconst 1, 1) := by decide +kernel
theorem dX9_isGood_8 : decode cX9_isGood 8 = .ok (.goto 4, 3) := by decide +kernel
theorem dX9_isGood_11 : decode cX9_isGood 11 = .ok (.iconst 0, 1) := by decide +kernel
theorem dX9_isGood_12 : decode cX9_isGood 12 = .ok (.ireturn, 1) := by decide +kernel
set_option maxHeartbeats 4000000 in
set_option maxRecDepth 100000 in
theorem s_X9_isGood (l : Launch) (D : va_G) (K : Nat → ClassId) (ad : Nat → Nat) (v ar : sI) (al : sL) (hI : YI v ar) (w_1 : Int) (hw_1 : -2147483648 ≤ w_1 ∧ w_1 ≤ 2147483647) (ew_1 : v 0 12 = iI w_1) : Met l yX9_isGood (wM yX9_isGood cX9_isGood 1 (some .boolean)) (rmD 0) (va_Pc [.ref (ad 0)] (wPre D K ad (yG ad K) 21 v ar al)) (vp_Si (fun r => ∃ z : Int, ((z = 1 ∧ w_1 = 0) ∨ (z = 0 ∧ w_1 ≠ 0)) ∧ r = iI z)) 0 0 (fun _ => False) := by
  refine s_metP (by decide) (Nat.le_of_ble_eq_true rfl) ?_
  intro p e s m below meth c ls args Q hE hB hl kr
  have hE : CallFix p m c cX9_isGood 1 s args tbG "TaleCourtModel" := hE
  obtain ⟨hP, hK, hN⟩ := hB
  have hl : lv_has ls 1 [(0, .ref (ad 0))] := hl
  refine lv_aload_n hE.1 hE.2.1 dX9_isGood_0 rfl (lv_at hl 0 rfl) ?_
  refine x_get (x := .int (v 0 12)) hE hK hP 0 (by decide) (yG_9 rfl) rfl hin9 12 (by decide) mw_1346 rfl dX9_isGood_1 ?_
  refine x_top (y := iI (w_1)) ew_1 ?_
  refine s_if_ne (a := w_1) (tgt := 11) hE.1 hE.2.1 (by omega) dX9_isGood_4 (by decide) (fun c1 => ?_) (fun c1 => ?_)
  · skip
    refine lv_iconst (v := iI (0)) hE.1 hE.2.1 dX9_isGood_11 (by decide) ?_
    exact kr _ _ _ (nar01 (by omega)) ⟨0, by omega, rfl⟩ dX9_isGood_12
  · skip
    refine lv_iconst (v := iI (1)) hE.1 hE.2.1 dX9_isGood_7 (by decide) ?_
    refine lv_goto (tgt := 12) hE.1 hE.2.1 dX9_isGood_8 (by decide) ?_
    exact kr _ _ _ (nar01 (by omega)) ⟨1, by omega, rfl⟩ dX9_isGood_12

theorem dX9_motifLine_0 : decode cX9_motifLine 0 = .ok (.aload_n 0, 1) := by decide +kernel
theorem dX9_motifLine_1 : decode cX9_motifLine 1 = .ok (.iconst 2, 1) := by decide +kernel
theorem dX9_motifLine_2 : decode cX9_motifLine 2 = .ok (.invokevirtual 163, 3) := by decide +kernel
theorem dX9_motifLine_5 : decode cX9_motifLine 5 = .ok (.istore_n 1, 1) := by decide +kernel
theorem dX9_motifLine_6 : decode cX9_motifLine 6 = .ok (.aload_n 0, 1) := by decide +kernel
theorem dX9_motifLine_7 : decode cX9_motifLine 7 = .ok (.iload_n 1, 1) := by decide +kernel
theorem dX9_motifLine_8 : decode cX9_motifLine 8 = .ok (.invokevirtual 167, 3) := by decide +kernel
theorem dX9_motifLine_11 : decode cX9_motifLine 11 = .ok (.istore_n 2, 1) := by decide +kernel
theorem dX9_motifLine_12 : decode cX9_motifLine 12 = .ok (.iconst 0, 1) := by decide +kernel
theorem dX9_motifLine_13 : decode cX9_motifLine 13 = .ok (.istore_n 3, 1) := by decide +kernel
theorem dX9_motifLine_14 : decode cX9_motifLine 14 = .ok (.iload_n 3, 1) := by decide +kernel
theorem dX9_motifLine_15 : decode cX9_motifLine 15 = .ok (.bipush 9, 2) := by decide +kernel
theorem dX9_motifLine_17 : decode cX9_motifLine 17 = .ok (.if_icmp .ge 33, 3) := by decide +kernel
theorem dX9_motifLine_20 : decode cX9_motifLine 20 = .ok (.aload_n 0, 1) := by decide +kernel
theorem dX9_motifLine_21 : decode cX9_motifLine 21 = .ok (.getfield 37, 3) := by decide +kernel
theorem dX9_motifLine_24 : decode cX9_motifLine 24 = .ok (.iload_n 2, 1) := by decide +kernel
theorem dX9_motifLine_25 : decode cX9_motifLine 25 = .ok (.iload_n 3, 1) := by decide +kernel
theorem dX9_motifLine_26 : decode cX9_motifLine 26 = .ok (.iadd, 1) := by decide +kernel
theorem dX9_motifLine_27 : decode cX9_motifLine 27 = .ok (.iload_n 3, 1) := by decide +kernel
theorem dX9_motifLine_28 : decode cX9_motifLine 28 = .ok (.iconst 4, 1) := by decide +kernel
theorem dX9_motifLine_29 : decode cX9_motifLine 29 = .ok (.if_icmp .eq 9, 3) := by decide +kernel
theorem dX9_motifLine_32 : decode cX9_motifLine 32 = .ok (.iload_n 3, 1) := by decide +kernel
theorem dX9_motifLine_33 : decode cX9_motifLine 33 = .ok (.bipush 6, 2) := by decide +kernel
theorem dX9_motifLine_35 : decode cX9_motifLine 35 = .ok (.if_icmp .ne 7, 3) := by decide +kernel
theorem dX9_motifLine_38 : decode cX9_motifLine 38 = .ok (.iconst (-1), 1) := by decide +kernel
theorem dX9_motifLine_39 : decode cX9_motifLine 39 = .ok (.goto 4, 3) := by decide +kernel
theorem dX9_motifLine_42 : decode cX9_motifLine 42 = .ok (.iconst 0, 1) := by decide +kernel
theorem dX9_motifLine_43 : decode cX9_motifLine 43 = .ok (.iastore, 1) := by decide +kernel
theorem dX9_motifLine_44 : decode cX9_motifLine 44 = .ok (.iinc 3 1, 3) := by decide +kernel
theorem dX9_motifLine_47 : decode cX9_motifLine 47 = .ok (.goto (-33), 3) := by decide +kernel
theorem dX9_motifLine_50 : decode cX9_motifLine 50 = .ok (.aload_n 0, 1) := by decide +kernel
theorem dX9_motifLine_51 : decode cX9_motifLine 51 = .ok (.getfield 37, 3) := by decide +kernel
theorem dX9_motifLine_54 : decode cX9_motifLine 54 = .ok (.iload_n 2, 1) := by decide +kernel
theorem dX9_motifLine_55 : decode cX9_motifLine 55 = .ok (.aload_n 0, 1) := by decide +kernel
theorem dX9_motifLine_56 : decode cX9_motifLine 56 = .ok (.ldc2_w 170, 3) := by decide +kernel
theorem dX9_motifLine_59 : decode cX9_motifLine 59 = .ok (.iconst 0, 1) := by decide +kernel
theorem dX9_motifLine_60 : decode cX9_motifLine 60 = .ok (.bipush 9, 2) := by decide +kernel
theorem dX9_motifLine_62 : decode cX9_motifLine 62 = .ok (.invokevirtual 172, 3) := by decide +kernel
theorem dX9_motifLine_65 : decode cX9_motifLine 65 = .ok (.iastore, 1) := by decide +kernel
theorem dX9_motifLine_66 : decode cX9_motifLine 66 = .ok (.aload_n 0, 1) := by decide +kernel
theorem dX9_motifLine_67 : decode cX9_motifLine 67 = .ok (.invokevirtual 175, 3) := by decide +kernel
theorem dX9_motifLine_70 : decode cX9_motifLine 70 = .ok (.ifCond .eq 197, 3) := by decide +kernel
theorem dX9_motifLine_73 : decode cX9_motifLine 73 = .ok (.aload_n 0, 1) := by decide +kernel
theorem dX9_motifLine_74 : decode cX9_motifLine 74 = .ok (.getfield 122, 3) := by decide +kernel
theorem dX9_motifLine_77 : decode cX9_motifLine 77 = .ok (.iconst 1, 1) := by decide +kernel
theorem dX9_motifLine_78 : decode cX9_motifLine 78 = .ok (.if_icmp .ne 189, 3) := by decide +kernel
theorem dX9_motifLine_81 : decode cX9_motifLine 81 = .ok (.aload_n 0, 1) := by decide +kernel
theorem dX9_motifLine_82 : decode cX9_motifLine 82 = .ok (.ldc2_w 179, 3) := by decide +kernel
theorem dX9_motifLine_85 : decode cX9_motifLine 85 = .ok (.invokevirtual 139, 3) := by decide +kernel
theorem dX9_motifLine_88 : decode cX9_motifLine 88 = .ok (.ifCond .eq 7, 3) := by decide +kernel
theorem dX9_motifLine_91 : decode cX9_motifLine 91 = .ok (.iconst 1, 1) := by decide +kernel
theorem dX9_motifLine_92 : decode cX9_motifLine 92 = .ok (.goto 46, 3) := by decide +kernel
theorem dX9_motifLine_95 : decode cX9_motifLine 95 = .ok (.aload_n 0, 1) := by decide +kernel
theorem dX9_motifLine_96 : decode cX9_motifLine 96 = .ok (.ldc2_w 181, 3) := by decide +kernel
theorem dX9_motifLine_99 : decode cX9_motifLine 99 = .ok (.invokevirtual 139, 3) := by decide +kernel
theorem dX9_motifLine_102 : decode cX9_motifLine 102 = .ok (.ifCond .eq 7, 3) := by decide +kernel
theorem dX9_motifLine_105 : decode cX9_motifLine 105 = .ok (.iconst 2, 1) := by decide +kernel
theorem dX9_motifLine_106 : decode cX9_motifLine 106 = .ok (.goto 32, 3) := by decide +kernel
theorem dX9_motifLine_109 : decode cX9_motifLine 109 = .ok (.aload_n 0, 1) := by decide +kernel
theorem dX9_motifLine_110 : decode cX9_motifLine 110 = .ok (.ldc2_w 183, 3) := by decide +kernel
theorem dX9_motifLine_113 : decode cX9_motifLine 113 = .ok (.invokevirtual 139, 3) := by decide +kernel
theorem dX9_motifLine_116 : decode cX9_motifLine 116 = .ok (.ifCond .eq 7, 3) := by decide +kernel
theorem dX9_motifLine_119 : decode cX9_motifLine 119 = .ok (.iconst 3, 1) := by decide +kernel
theorem dX9_motifLine_120 : decode cX9_motifLine 120 = .ok (.goto 18, 3) := by decide +kernel
theorem dX9_motifLine_123 : decode cX9_motifLine 123 = .ok (.aload_n 0, 1) := by decide +kernel
theorem dX9_motifLine_124 : decode cX9_motifLine 124 = .ok (.ldc2_w 185, 3) := by decide +kernel
theorem dX9_motifLine_127 : decode cX9_motifLine 127 = .ok (.invokevirtual 139, 3) := by decide +kernel
theorem dX9_motifLine_130 : decode cX9_motifLine 130 = .ok (.ifCond .eq 7, 3) := by decide +kernel
theorem dX9_motifLine_133 : decode cX9_motifLine 133 = .ok (.iconst 4, 1) := by decide +kernel
theorem dX9_motifLine_134 : decode cX9_motifLine 134 = .ok (.goto 4, 3) := by decide +kernel
theorem dX9_motifLine_137 : decode cX9_motifLine 137 = .ok (.iconst (-1), 1) := by decide +kernel
theorem dX9_motifLine_138 : decode cX9_motifLine 138 = .ok (.istore_n 3, 1) := by decide +kernel
theorem dX9_motifLine_139 : decode cX9_motifLine 139 = .ok (.iload_n 3, 1) := by decide +kernel
theorem dX9_motifLine_140 : decode cX9_motifLine 140 = .ok (.iconst (-1), 1) := by decide +kernel
theorem dX9_motifLine_141 : decode cX9_motifLine 141 = .ok (.if_icmp .eq 35, 3) := by decide +kernel
theorem dX9_motifLine_144 : decode cX9_motifLine 144 = .ok (.iload_n 3, 1) := by decide +kernel
theorem dX9_motifLine_145 : decode cX9_motifLine 145 = .ok (.iconst 4, 1) := by decide +kernel
theorem dX9_motifLine_146 : decode cX9_motifLine 146 = .ok (.if_icmp .ne 18, 3) := by decide +kernel
theorem dX9_motifLine_149 : decode cX9_motifLine 149 = .ok (.aload_n 0, 1) := by decide +kernel
theorem dX9_motifLine_150 : decode cX9_motifLine 150 = .ok (.getfield 37, 3) := by decide +kernel
theorem dX9_motifLine_153 : decode cX9_motifLine 153 = .ok (.iload_n 2, 1) := by decide +kernel
theorem dX9_motifLine_154 : decode cX9_motifLine 154 = .ok (.iconst 4, 1) := by decide +kernel
theorem dX9_motifLine_155 : decode cX9_motifLine 155 = .ok (.iadd, 1) := by decide +kernel
theorem dX9_motifLine_156 : decode cX9_motifLine 156 = .ok (.iaload, 1) := by decide +kernel
theorem dX9_motifLine_157 : decode cX9_motifLine 157 = .ok (.iconst (-1), 1) := by decide +kernel
theorem dX9_motifLine_158 : decode cX9_motifLine 158 = .ok (.if_icmp .eq 23, 3) := by decide +kernel
theorem dX9_motifLine_161 : decode cX9_motifLine 161 = .ok (.goto 15, 3) := by decide +kernel
theorem dX9_motifLine_164 : decode cX9_motifLine 164 = .ok (.aload_n 0, 1) := by decide +kernel
theorem dX9_motifLine_165 : decode cX9_motifLine 165 = .ok (.getfield 37, 3) := by decide +kernel
theorem dX9_motifLine_168 : decode cX9_motifLine 168 = .ok (.iload_n 2, 1) := by decide +kernel
theorem dX9_motifLine_169 : decode cX9_motifLine 169 = .ok (.iload_n 3, 1) := by decide +kernel
theorem dX9_motifLine_170 : decode cX9_motifLine 170 = .ok (.iadd, 1) := by decide +kernel
theorem dX9_motifLine_171 : decode cX9_motifLine 171 = .ok (.iaload, 1) := by decide +kernel
theorem dX9_motifLine_172 : decode cX9_motifLine 172 = .ok (.iconst 1, 1) := by decide +kernel
theorem dX9_motifLine_173 : decode cX9_motifLine 173 = .ok (.if_icmp .ne 8, 3) := by decide +kernel
theorem dX9_motifLine_176 : decode cX9_motifLine 176 = .ok (.aload_n 0, 1) := by decide +kernel
theorem dX9_motifLine_177 : decode cX9_motifLine 177 = .ok (.iconst 1, 1) := by decide +kernel
theorem dX9_motifLine_178 : decode cX9_motifLine 178 = .ok (.invokevirtual 149, 3) := by decide +kernel
theorem dX9_motifLine_181 : decode cX9_motifLine 181 = .ok (.aload_n 0, 1) := by decide +kernel
theorem dX9_motifLine_182 : decode cX9_motifLine 182 = .ok (.getfield 133, 3) := by decide +kernel
theorem dX9_motifLine_185 : decode cX9_motifLine 185 = .ok (.ifCond .eq 4, 3) := by decide +kernel
theorem dX9_motifLine_188 : decode cX9_motifLine 188 = .ok (.return_, 1) := by decide +kernel
theorem dX9_motifLine_189 : decode cX9_motifLine 189 = .ok (.aload_n 0, 1) := by decide +kernel
theorem dX9_motifLine_190 : decode cX9_motifLine 190 = .ok (.invokevirtual 143, 3) := by decide +kernel
theorem dX9_motifLine_193 : decode cX9_motifLine 193 = .ok (.iload_n 3, 1) := by decide +kernel
theorem dX9_motifLine_194 : decode cX9_motifLine 194 = .ok (.iconst 4, 1) := by decide +kernel
theorem dX9_motifLine_195 : decode cX9_motifLine 195 = .ok (.if_icmp .eq 15, 3) := by decide +kernel
theorem dX9_motifLine_198 : decode cX9_motifLine 198 = .ok (.aload_n 0, 1) := by decide +kernel
theorem dX9_motifLine_199 : decode cX9_motifLine 199 = .ok (.getfield 37, 3) := by decide +kernel
theorem dX9_motifLine_202 : decode cX9_motifLine 202 = .ok (.iload_n 2, 1) := by decide +kernel
theorem dX9_motifLine_203 : decode cX9_motifLine 203 = .ok (.iload_n 3, 1) := by decide +kernel
theorem dX9_motifLine_204 : decode cX9_motifLine 204 = .ok (.iadd, 1) := by decide +kernel
theorem dX9_motifLine_205 : decode cX9_motifLine 205 = .ok (.iconst 1, 1) := by decide +kernel
theorem dX9_motifLine_206 : decode cX9_motifLine 206 = .ok (.iastore, 1) := by decide +kernel
theorem dX9_motifLine_207 : decode cX9_motifLine 207 = .ok (.goto (-141), 3) := by decide +kernel
theorem dX9_motifLine_210 : decode cX9_motifLine 210 = .ok (.aload_n 0, 1) := by decide +kernel
theorem dX9_motifLine_211 : decode cX9_motifLine 211 = .ok (.getfield 122, 3) := by decide +kernel
theorem dX9_motifLine_214 : decode cX9_motifLine 214 = .ok (.iconst 2, 1) := by decide +kernel
theorem dX9_motifLine_215 : decode cX9_motifLine 215 = .ok (.if_icmp .ne 16, 3) := by decide +kernel
theorem dX9_motifLine_218 : decode cX9_motifLine 218 = .ok (.aload_n 0, 1) := by decide +kernel
theorem dX9_motifLine_219 : decode cX9_motifLine 219 = .ok (.getfield 115, 3) := by decide +kernel
theorem dX9_motifLine_222 : decode cX9_motifLine 222 = .ok (.iload_n 1, 1) := by decide +kernel
theorem dX9_motifLine_223 : decode cX9_motifLine 223 = .ok (.if_icmp .ne 8, 3) := by decide +kernel
theorem dX9_motifLine_226 : decode cX9_motifLine 226 = .ok (.aload_n 0, 1) := by decide +kernel
theorem dX9_motifLine_227 : decode cX9_motifLine 227 = .ok (.iconst 2, 1) := by decide +kernel
theorem dX9_motifLine_228 : decode cX9_motifLine 228 = .ok (.invokevirtual 149, 3) := by decide +kernel
theorem dX9_motifLine_231 : decode cX9_motifLine 231 = .ok (.aload_n 0, 1) := by decide +kernel
theorem dX9_motifLine_232 : decode cX9_motifLine 232 = .ok (.getfield 37, 3) := by decide +kernel
theorem dX9_motifLine_235 : decode cX9_motifLine 235 = .ok (.iload_n 2, 1) := by decide +kernel
theorem dX9_motifLine_236 : decode cX9_motifLine 236 = .ok (.iconst 4, 1) := by decide +kernel
theorem dX9_motifLine_237 : decode cX9_motifLine 237 = .ok (.iadd, 1) := by decide +kernel
theorem dX9_motifLine_238 : decode cX9_motifLine 238 = .ok (.aload_n 0, 1) := by decide +kernel
theorem dX9_motifLine_239 : decode cX9_motifLine 239 = .ok (.iconst 0, 1) := by decide +kernel
theorem dX9_motifLine_240 : decode cX9_motifLine 240 = .ok (.bipush 8, 2) := by decide +kernel
theorem dX9_motifLine_242 : decode cX9_motifLine 242 = .ok (.invokevirtual 156, 3) := by decide +kernel
theorem dX9_motifLine_245 : decode cX9_motifLine 245 = .ok (.iastore, 1) := by decide +kernel
theorem dX9_motifLine_246 : decode cX9_motifLine 246 = .ok (.aload_n 0, 1) := by decide +kernel
theorem dX9_motifLine_247 : decode cX9_motifLine 247 = .ok (.getfield 37, 3) := by decide +kernel
theorem dX9_motifLine_250 : decode cX9_motifLine 250 = .ok (.iload_n 2, 1) := by decide +kernel
theorem dX9_motifLine_251 : decode cX9_motifLine 251 = .ok (.iconst 5, 1) := by decide +kernel
theorem dX9_motifLine_252 : decode cX9_motifLine 252 = .ok (.iadd, 1) := by decide +kernel
theorem dX9_motifLine_253 : decode cX9_motifLine 253 = .ok (.aload_n 0, 1) := by decide +kernel
theorem dX9_motifLine_254 : decode cX9_motifLine 254 = .ok (.ldc2_w 187, 3) := by decide +kernel
theorem dX9_motifLine_257 : decode cX9_motifLine 257 = .ok (.iconst 1, 1) := by decide +kernel
theorem dX9_motifLine_258 : decode cX9_motifLine 258 = .ok (.bipush 9, 2) := by decide +kernel
theorem dX9_motifLine_260 : decode cX9_motifLine 260 = .ok (.invokevirtual 172, 3) := by decide +kernel
theorem dX9_motifLine_263 : decode cX9_motifLine 263 = .ok (.iastore, 1) := by decide +kernel
theorem dX9_motifLine_264 : decode cX9_motifLine 264 = .ok (.goto (-198), 3) := by decide +kernel
theorem dX9_motifLine_267 : decode cX9_motifLine 267 = .ok (.aload_n 0, 1) := by decide +kernel
theorem dX9_motifLine_268 : decode cX9_motifLine 268 = .ok (.getfield 34, 3) := by decide +kernel
theorem dX9_motifLine_271 : decode cX9_motifLine 271 = .ok (.bipush 26, 2) := by decide +kernel
theorem dX9_motifLine_273 : decode cX9_motifLine 273 = .ok (.dup2, 1) := by decide +kernel
theorem dX9_motifLine_274 : decode cX9_motifLine 274 = .ok (.iaload, 1) := by decide +kernel
theorem dX9_motifLine_275 : decode cX9_motifLine 275 = .ok (.iconst 1, 1) := by decide +kernel
theorem dX9_motifLine_276 : decode cX9_motifLine 276 = .ok (.iadd, 1) := by decide +kernel
theorem dX9_motifLine_277 : decode cX9_motifLine 277 = .ok (.iastore, 1) := by decide +kernel
theorem dX9_motifLine_278 : decode cX9_motifLine 278 = .ok (.return_, 1) := by decide +kernel
set_option maxHeartbeats 4000000 in
set_option maxRecDepth 100000 in
theorem s_X9_motifLine (l : Launch) (D : va_G) (K : Nat → ClassId) (ad : Nat → Nat) (v ar : sI) (al : sL) (hI : YI v ar) (w_1 : Int) (hw_1 : 0 ≤ w_1 ∧ w_1 ≤ 1600) (ew_1 : v 0 6 = iI w_1) (w_2 : Int) (hw_2 : 0 ≤ w_2 ∧ w_2 ≤ 1600) (ew_2 : v 0 7 = iI w_2) (w_3 : Int) (hw_3 : 0 ≤ w_3 ∧ w_3 ≤ 8) (ew_3 : ar 7 26 = iI w_3) (w_4 : Int) (hw_4 : 1 ≤ w_4 ∧ w_4 ≤ 3) (ew_4 : ar 7 24 = iI w_4) (hyp : w_2 ≤ w_1) : Met l yX9_motifLine (wM yX9_motifLine cX9_motifLine 4 none) (rmD 5) (va_Pc [.ref (ad 0)] (wPre D K ad (yG ad K) 21 v ar al)) (va_Qv (fun u : sT => YI u.1 u.2.1 ∧ (∀ i j : Nat, (i, j) ∉ ([(0, 7), (0, 8), (0, 9), (0, 10), (0, 12), (0, 13)] : List (Nat × Nat)) → u.1 i j = v i j) ∧ (∀ i : Nat, i ∉ ([7, 8] : List Nat) → u.2.1 i = ar i) ∧ (∀ i : Nat, i ∉ ([0] : List Nat) → u.2.2 i = al i) ∧ (∃ x_1 : Int, (0 ≤ x_1 ∧ x_1 ≤ 1600 ∧ (w_2 ≤ x_1 ∧ x_1 ≤ w_1)) ∧ u.1 0 7 = iI x_1)) (wB D ad (yG ad K) 21) (inW ad 21)) 0 0 (inW ad 21) := by
  refine s_metV (by decide) (Nat.le_of_ble_eq_true rfl) ?_
  intro p e s m below meth c ls args Q hE hB hl kr
  have hE : CallFix p m c cX9_motifLine 4 s args tbG "TaleCourtModel" := hE
  obtain ⟨hP, hK, hN⟩ := hB
  have hS : va_S (inW ad 21) s.heap s.heap [] := va_S.rf
  have hl : lv_has ls 4 [(0, .ref (ad 0))] := hl
  refine lv_aload_n hE.1 hE.2.1 dX9_motifLine_0 rfl (lv_at hl 0 rfl) ?_
  refine lv_iconst (v := iI (2)) hE.1 hE.2.1 dX9_motifLine_1 (by decide) ?_
  refine x_vp (nn := 1) (As := [.int (iI (2))]) (rest := []) hE (s_X9_hasRead_c0_2 l D K ad v ar al hI (w_3) (by omega) ew_3 ) wPre_blind (wPre_now hK hN hP) (x_recv hK hP 0 (by decide) (yG_9 rfl) rfl) rfl mw_1586 mw_1588 mw_60 mw_123 mw_1589 (by decide +kernel) ⟨by decide, by decide⟩ hl.1 rfl (Nat.le_of_ble_eq_true rfl) ⟨Nat.zero_le _, Nat.zero_le _⟩ dX9_motifLine_2 (fun r1 hr1 => ?_)
  obtain ⟨z1, hz1, rfl⟩ := hr1
  refine lv_istore_n (lv' := [(1, .int (iI (z1))), (0, .ref (ad 0))]) hE.1 hE.2.1 dX9_motifLine_5 rfl hl (by decide) rfl (fun ls hl => ?_)
  refine lv_aload_n hE.1 hE.2.1 dX9_motifLine_6 rfl (lv_at hl 1 rfl) ?_
  refine lv_iload_n hE.1 hE.2.1 dX9_motifLine_7 rfl (lv_at hl 0 rfl) ?_
  refine x_vp (nn := 1) (As := [.int (iI (z1))]) (rest := []) hE (s_X9_placeRead l D K ad v ar al hI  (z1) (by omega)) wPre_blind (wPre_now hK hN hP) (x_recv hK hP 0 (by decide) (yG_9 rfl) rfl) rfl mw_1594 mw_1596 mw_62 mw_123 mw_1597 (by decide +kernel) ⟨by decide, by decide⟩ hl.1 rfl (Nat.le_of_ble_eq_true rfl) ⟨Nat.zero_le _, Nat.zero_le _⟩ dX9_motifLine_8 (fun r2 hr2 => ?_)
  obtain ⟨z2, hz2, rfl⟩ := hr2
  refine lv_istore_n (lv' := [(2, .int (iI (z2))), (1, .int (iI (z1))), (0, .ref (ad 0))]) hE.1 hE.2.1 dX9_motifLine_11 rfl hl (by decide) rfl (fun ls hl => ?_)
  refine lv_iconst (v := iI (0)) hE.1 hE.2.1 dX9_motifLine_12 (by decide) ?_
  refine lv_istore_n (lv' := [(3, .int (iI (0))), (2, .int (iI (z2))), (1, .int (iI (z1))), (0, .ref (ad 0))]) hE.1 hE.2.1 dX9_motifLine_13 rfl hl (by decide) rfl (fun ls hl => ?_)
  have loop3 : ∀ (k3 : Nat) (y3_3 : Int) (vl3 arl3 : sI) (all3 : sL) (H : Heap) (locs : List Loc) (ls : Array Slot), (9 - y3_3).toNat = k3 → (0 ≤ y3_3 ∧ y3_3 ≤ 9) → YI vl3 arl3 → (∀ i j : Nat, (i, j) ∉ ([] : List (Nat × Nat)) → vl3 i j = v i j) → (∀ i : Nat, i ∉ ([8] : List Nat) → arl3 i = ar i) → (∀ i : Nat, i ∉ ([] : List Nat) → all3 i = al i) → va_P D xcl (wW ad (yG ad K) 21 vl3 arl3 all3) H → va_S (inW ad 21) s.heap H locs → lv_has ls 4 [(3, .int (iI (y3_3))), (2, .int (iI (z2))), (1, .int (iI (z1))), (0, .ref (ad 0))] → W p l e (rmD 5) s m args below meth c H locs 0 0 Q (F0 m 14 ls []) := by
    intro k3
    induction k3 using Nat.strongRecOn with
    | _ k3 ih3 =>
      intro y3_3  vl3 arl3 all3 H locs ls hk3 hb_y3_3 hI hfr3 hfa3 hfl3 hP hS hl
      refine lv_iload_n hE.1 hE.2.1 dX9_motifLine_14 rfl (lv_at hl 0 rfl) ?_
      refine lv_bipush (v := iI (9)) hE.1 hE.2.1 dX9_motifLine_15 (by decide) ?_
      refine s_icmp_ge (a := y3_3) (b := 9) (tgt := 50) hE.1 hE.2.1 (by omega) (by omega) dX9_motifLine_17 (by decide) (fun c4 => ?_) (fun c4 => ?_)
      · skip
        refine lv_aload_n hE.1 hE.2.1 dX9_motifLine_50 rfl (lv_at hl 3 rfl) ?_
        refine x_get (x := .ref (ad 8)) hE hK hP 0 (by decide) (yG_9 rfl) rfl hin9 18 (by decide) mw_1352 rfl dX9_motifLine_51 ?_
        refine lv_iload_n hE.1 hE.2.1 dX9_motifLine_54 rfl (lv_at hl 1 rfl) ?_
        refine lv_aload_n hE.1 hE.2.1 dX9_motifLine_55 rfl (lv_at hl 3 rfl) ?_
        refine lv_ldc2 (v := 12532058) hE.1 hE.2.1 hE.2.2.2.1 (hE.2.2.2.2 _ mw_1598) dX9_motifLine_56 ?_
        refine x_topl (y := lI (12532058)) (by decide) ?_
        refine lv_iconst (v := iI (0)) hE.1 hE.2.1 dX9_motifLine_59 (by decide) ?_
        refine lv_bipush (v := iI (9)) hE.1 hE.2.1 dX9_motifLine_60 (by decide) ?_
        refine x_vi (nn := 3) (As := [.long (lI (12532058)), .int (iI (0)), .int (iI (9))]) (rest := [.int (iI (z2)), .ref (ad 8)]) hE hK hN hP hS (s_X9_number_ l D K ad vl3 arl3 all3 hI (w_1) (by omega) ((hfr3 0 6 (by decide)).trans ew_1) (w_2) (by omega) ((hfr3 0 7 (by decide)).trans ew_2) (12532058) (by omega) (0) (by omega) (9) (by omega) (by omega)) (x_recv hK hP 0 (by decide) (yG_9 rfl) rfl) rfl mw_1571 mw_1573 mw_57 mw_123 mw_1574 (by decide +kernel) ⟨by decide, by decide⟩ hl.1 rfl (Nat.le_of_ble_eq_true rfl) ⟨Nat.zero_le _, Nat.zero_le _⟩ dX9_motifLine_62 (fun r5 v5 ar5 al5 H locs hq5 hP hS => ?_)
        obtain ⟨⟨z5, hz5, rfl⟩, hI, hq5, hqa5, hql5, x5_1, x5_2, x5_3, hx5, ex5_1, ex5_2, ex5_3⟩ := hq5
        have hI : YI v5 ar5 := hI
        refine x_iast (j := iI (z2)) hE hK hN hP hS 8 (by decide) (fun _ => yG_10 rfl) (iI_in (n := 405) (by omega)) dX9_motifLine_65 (fun ar6 H locs ha6 hP hS => ?_)
        have hI := YI_ast hI ha6 (by decide)
        have loop7 : ∀ (k7 : Nat) (y7_3 : Int) (yf7_0 : Int) (yf7_1 : Int) (yf7_2 : Int) (vl7 arl7 : sI) (all7 : sL) (H : Heap) (locs : List Loc) (ls : Array Slot), (if yf7_1 = 1 ∧ yf7_2 = 0 then 1601 - yf7_0 else 0).toNat = k7 → (-2147483648 ≤ y7_3 ∧ y7_3 ≤ 2147483647) → (0 ≤ yf7_0 ∧ yf7_0 ≤ 1600 ∧ -2147483648 ≤ yf7_1 ∧ yf7_1 ≤ 2147483647 ∧ -2147483648 ≤ yf7_2 ∧ yf7_2 ≤ 2147483647 ∧ (yf7_0 ≤ w_1 ∧ w_2 ≤ yf7_0)) → (vl7 0 7 = iI yf7_0) → (vl7 0 8 = iI yf7_1) → (vl7 0 12 = iI yf7_2) → YI vl7 arl7 → (∀ i j : Nat, (i, j) ∉ ([(0, 7), (0, 8), (0, 9), (0, 10), (0, 12), (0, 13)] : List (Nat × Nat)) → vl7 i j = v5 i j) → (∀ i : Nat, i ∉ ([8] : List Nat) → arl7 i = ar6 i) → (∀ i : Nat, i ∉ ([0] : List Nat) → all7 i = al5 i) → va_P D xcl (wW ad (yG ad K) 21 vl7 arl7 all7) H → va_S (inW ad 21) s.heap H locs → lv_has ls 4 [(3, .int (iI (y7_3))), (2, .int (iI (z2))), (1, .int (iI (z1))), (0, .ref (ad 0))] → W p l e (rmD 5) s m args below meth c H locs 0 0 Q (F0 m 66 ls []) := by
          intro k7
          induction k7 using Nat.strongRecOn with
          | _ k7 ih7 =>
            intro y7_3 yf7_0 yf7_1 yf7_2 vl7 arl7 all7 H locs ls hk7 hb_y7_3 hyf7 eyf7_0 eyf7_1 eyf7_2 hI hfr7 hfa7 hfl7 hP hS hl
            refine lv_aload_n hE.1 hE.2.1 dX9_motifLine_66 rfl (lv_at hl 3 rfl) ?_
            refine x_vp (nn := 0) (As := []) (rest := []) hE (s_X9_isGood l D K ad vl7 arl7 all7 hI (yf7_2) (by omega) eyf7_2 ) wPre_blind (wPre_now hK hN hP) (x_recv hK hP 0 (by decide) (yG_9 rfl) rfl) rfl mw_1549 mw_1551 mw_52 mw_123 mw_1552 (by decide +kernel) ⟨by decide, by decide⟩ hl.1 rfl (Nat.le_of_ble_eq_true rfl) ⟨Nat.zero_le _, Nat.zero_le _⟩ dX9_motifLine_67 (fun r8 hr8 => ?_)
            obtain ⟨z8, hz8, rfl⟩ := hr8
            refine s_if_eq (a := z8) (tgt := 267) hE.1 hE.2.1 (by omega) dX9_motifLine_70 (by decide) (fun c9 => ?_) (fun c9 => ?_)
            · skip
              refine lv_aload_n hE.1 hE.2.1 dX9_motifLine_267 rfl (lv_at hl 3 rfl) ?_
              refine x_get (x := .ref (ad 7)) hE hK hP 0 (by decide) (yG_9 rfl) rfl hin9 17 (by decide) mw_1351 rfl dX9_motifLine_268 ?_
              refine lv_bipush (v := iI (26)) hE.1 hE.2.1 dX9_motifLine_271 (by decide) ?_
              refine lv_dup2_11 hE.1 hE.2.1 dX9_motifLine_273 rfl rfl ?_
              refine x_iald (j := iI (26)) hE hK hP 7 (by decide) (yG_10 rfl) (iI_in (n := 30) (by omega)) dX9_motifLine_274 ?_
              refine x_top (y := iI (w_3)) (by rw [show (iI (26)).toNatClampNeg = 26 from by decide]; exact ((congrFun (hfa7 7 (by decide)) 26).trans ((congrFun (upa_ne ha6 7 (by decide)) 26).trans ((congrFun (hqa5 7 (by decide)) 26).trans ((congrFun (hfa3 7 (by decide)) 26).trans ew_3))))) ?_
              refine lv_iconst (v := iI (1)) hE.1 hE.2.1 dX9_motifLine_275 (by decide) ?_
              refine lv_iadd hE.1 hE.2.1 dX9_motifLine_276 ?_
              refine x_top (y := iI (w_3 + 1)) ((iI_add (w_3) (1)).trans (congrArg iI (by omega))) ?_
              refine x_iast (j := iI (26)) hE hK hN hP hS 7 (by decide) (fun _ => yG_10 rfl) (iI_in (n := 30) (by omega)) dX9_motifLine_277 (fun ar11 H locs ha11 hP hS => ?_)
              have hI := YI_read7 (z := w_3 + 1) (k := 26) hI ha11 (by decide) (by omega) (by unfold hasB; omega) (Or.inr ⟨by decide, fun _ => by rw [((congrFun (hfa7 7 (by decide)) 24).trans ((congrFun (upa_ne ha6 7 (by decide)) 24).trans ((congrFun (hqa5 7 (by decide)) 24).trans ((congrFun (hfa3 7 (by decide)) 24).trans ew_4)))), iI_toInt (by omega)]; omega⟩)
              exact kr vl7 ar11 all7 _ _ _ _ ⟨hI, fun i j h => ((hfr7 i j (fun q => h (mem_sub (by decide) q))).trans ((hq5 i j (fun q => h (mem_sub (by decide) q))).trans (hfr3 i j (fun q => h (mem_sub (by decide) q))))), fun i h => ((upx_ne ha11 i (fun q => h (by rw [q]; decide))).trans ((hfa7 i (fun q => h (mem_subn (by decide) q))).trans ((upx_ne ha6 i (fun q => h (by rw [q]; decide))).trans ((hqa5 i (fun q => h (mem_subn (by decide) q))).trans (hfa3 i (fun q => h (mem_subn (by decide) q))))))), fun i h => ((hfl7 i (fun q => h (mem_subn (by decide) q))).trans ((hql5 i (fun q => h (mem_subn (by decide) q))).trans (hfl3 i (fun q => h (mem_subn (by decide) q))))), yf7_0, by omega, eyf7_0⟩ hP hS dX9_motifLine_278
            · skip
              refine lv_aload_n hE.1 hE.2.1 dX9_motifLine_73 rfl (lv_at hl 3 rfl) ?_
              refine x_get (x := .int (vl7 0 8)) hE hK hP 0 (by decide) (yG_9 rfl) rfl hin9 8 (by decide) mw_1342 rfl dX9_motifLine_74 ?_
              refine x_top (y := iI (yf7_1)) eyf7_1 ?_
              refine lv_iconst (v := iI (1)) hE.1 hE.2.1 dX9_motifLine_77 (by decide) ?_
              refine s_icmp_ne (a := yf7_1) (b := 1) (tgt := 267) hE.1 hE.2.1 (by omega) (by omega) dX9_motifLine_78 (by decide) (fun c12 => ?_) (fun c12 => ?_)
              · skip
                refine lv_aload_n hE.1 hE.2.1 dX9_motifLine_267 rfl (lv_at hl 3 rfl) ?_
                refine x_get (x := .ref (ad 7)) hE hK hP 0 (by decide) (yG_9 rfl) rfl hin9 17 (by decide) mw_1351 rfl dX9_motifLine_268 ?_
                refine lv_bipush (v := iI (26)) hE.1 hE.2.1 dX9_motifLine_271 (by decide) ?_
                refine lv_dup2_11 hE.1 hE.2.1 dX9_motifLine_273 rfl rfl ?_
                refine x_iald (j := iI (26)) hE hK hP 7 (by decide) (yG_10 rfl) (iI_in (n := 30) (by omega)) dX9_motifLine_274 ?_
                refine x_top (y := iI (w_3)) (by rw [show (iI (26)).toNatClampNeg = 26 from by decide]; exact ((congrFun (hfa7 7 (by decide)) 26).trans ((congrFun (upa_ne ha6 7 (by decide)) 26).trans ((congrFun (hqa5 7 (by decide)) 26).trans ((congrFun (hfa3 7 (by decide)) 26).trans ew_3))))) ?_
                refine lv_iconst (v := iI (1)) hE.1 hE.2.1 dX9_motifLine_275 (by decide) ?_
                refine lv_iadd hE.1 hE.2.1 dX9_motifLine_276 ?_
                refine x_top (y := iI (w_3 + 1)) ((iI_add (w_3) (1)).trans (congrArg iI (by omega))) ?_
                refine x_iast (j := iI (26)) hE hK hN hP hS 7 (by decide) (fun _ => yG_10 rfl) (iI_in (n := 30) (by omega)) dX9_motifLine_277 (fun ar14 H locs ha14 hP hS => ?_)
                have hI := YI_read7 (z := w_3 + 1) (k := 26) hI ha14 (by decide) (by omega) (by unfold hasB; omega) (Or.inr ⟨by decide, fun _ => by rw [((congrFun (hfa7 7 (by decide)) 24).trans ((congrFun (upa_ne ha6 7 (by decide)) 24).trans ((congrFun (hqa5 7 (by decide)) 24).trans ((congrFun (hfa3 7 (by decide)) 24).trans ew_4)))), iI_toInt (by omega)]; omega⟩)
                exact kr vl7 ar14 all7 _ _ _ _ ⟨hI, fun i j h => ((hfr7 i j (fun q => h (mem_sub (by decide) q))).trans ((hq5 i j (fun q => h (mem_sub (by decide) q))).trans (hfr3 i j (fun q => h (mem_sub (by decide) q))))), fun i h => ((upx_ne ha14 i (fun q => h (by rw [q]; decide))).trans ((hfa7 i (fun q => h (mem_subn (by decide) q))).trans ((upx_ne ha6 i (fun q => h (by rw [q]; decide))).trans ((hqa5 i (fun q => h (mem_subn (by decide) q))).trans (hfa3 i (fun q => h (mem_subn (by decide) q))))))), fun i h => ((hfl7 i (fun q => h (mem_subn (by decide) q))).trans ((hql5 i (fun q => h (mem_subn (by decide) q))).trans (hfl3 i (fun q => h (mem_subn (by decide) q))))), yf7_0, by omega, eyf7_0⟩ hP hS dX9_motifLine_278
              · skip
                refine lv_aload_n hE.1 hE.2.1 dX9_motifLine_81 rfl (lv_at hl 3 rfl) ?_
                refine lv_ldc2 (v := 8290585) hE.1 hE.2.1 hE.2.2.2.1 (hE.2.2.2.2 _ mw_1599) dX9_motifLine_82 ?_
                refine x_topl (y := lI (8290585)) (by decide) ?_
                refine x_vp (nn := 1) (As := [.long (lI (8290585))]) (rest := []) hE (s_X9_is l D K ad vl7 arl7 all7 hI (yf7_2) (by omega) eyf7_2 (yf7_1) (by omega) eyf7_1 (8290585) (by omega)) wPre_blind (wPre_now hK hN hP) (x_recv hK hP 0 (by decide) (yG_9 rfl) rfl) rfl mw_1562 mw_1564 mw_55 mw_123 mw_1565 (by decide +kernel) ⟨by decide, by decide⟩ hl.1 rfl (Nat.le_of_ble_eq_true rfl) ⟨Nat.zero_le _, Nat.zero_le _⟩ dX9_motifLine_85 (fun r15 hr15 => ?_)
                obtain ⟨z15, hz15, rfl⟩ := hr15
                refine s_if_eq (a := z15) (tgt := 95) hE.1 hE.2.1 (by omega) dX9_motifLine_88 (by decide) (fun c16 => ?_) (fun c16 => ?_)
                · skip
                  refine lv_aload_n hE.1 hE.2.1 dX9_motifLine_95 rfl (lv_at hl 3 rfl) ?_
                  refine lv_ldc2 (v := 206754213222) hE.1 hE.2.1 hE.2.2.2.1 (hE.2.2.2.2 _ mw_1600) dX9_motifLine_96 ?_
                  refine x_topl (y := lI (206754213222)) (by decide) ?_
                  refine x_vp (nn := 1) (As := [.long (lI (206754213222))]) (rest := []) hE (s_X9_is l D K ad vl7 arl7 all7 hI (yf7_2) (by omega) eyf7_2 (yf7_1) (by omega) eyf7_1 (206754213222) (by omega)) wPre_blind (wPre_now hK hN hP) (x_recv hK hP 0 (by decide) (yG_9 rfl) rfl) rfl mw_1562 mw_1564 mw_55 mw_123 mw_1565 (by decide +kernel) ⟨by decide, by decide⟩ hl.1 rfl (Nat.le_of_ble_eq_true rfl) ⟨Nat.zero_le _, Nat.zero_le _⟩ dX9_motifLine_99 (fun r17 hr17 => ?_)
                  obtain ⟨z17, hz17, rfl⟩ := hr17
                  refine s_if_eq (a := z17) (tgt := 109) hE.1 hE.2.1 (by omega) dX9_motifLine_102 (by decide) (fun c18 => ?_) (fun c18 => ?_)
                  · skip
                    refine lv_aload_n hE.1 hE.2.1 dX9_motifLine_109 rfl (lv_at hl 3 rfl) ?_
                    refine lv_ldc2 (v := 385297) hE.1 hE.2.1 hE.2.2.2.1 (hE.2.2.2.2 _ mw_1601) dX9_motifLine_110 ?_
                    refine x_topl (y := lI (385297)) (by decide) ?_
                    refine x_vp (nn := 1) (As := [.long (lI (385297))]) (rest := []) hE (s_X9_is l D K ad vl7 arl7 all7 hI (yf7_2) (by omega) eyf7_2 (yf7_1) (by omega) eyf7_1 (385297) (by omega)) wPre_blind (wPre_now hK hN hP) (x_recv hK hP 0 (by decide) (yG_9 rfl) rfl) rfl mw_1562 mw_1564 mw_55 mw_123 mw_1565 (by decide +kernel) ⟨by decide, by decide⟩ hl.1 rfl (Nat.le_of_ble_eq_true rfl) ⟨Nat.zero_le _, Nat.zero_le _⟩ dX9_motifLine_113 (fun r19 hr19 => ?_)
                    obtain ⟨z19, hz19, rfl⟩ := hr19
                    refine s_if_eq (a := z19) (tgt := 123) hE.1 hE.2.1 (by omega) dX9_motifLine_116 (by decide) (fun c20 => ?_) (fun c20 => ?_)
                    · skip
                      refine lv_aload_n hE.1 hE.2.1 dX9_motifLine_123 rfl (lv_at hl 3 rfl) ?_
                      refine lv_ldc2 (v := 312166) hE.1 hE.2.1 hE.2.2.2.1 (hE.2.2.2.2 _ mw_1602) dX9_motifLine_124 ?_
                      refine x_topl (y := lI (312166)) (by decide) ?_
                      refine x_vp (nn := 1) (As := [.long (lI (312166))]) (rest := []) hE (s_X9_is l D K ad vl7 arl7 all7 hI (yf7_2) (by omega) eyf7_2 (yf7_1) (by omega) eyf7_1 (312166) (by omega)) wPre_blind (wPre_now hK hN hP) (x_recv hK hP 0 (by decide) (yG_9 rfl) rfl) rfl mw_1562 mw_1564 mw_55 mw_123 mw_1565 (by decide +kernel) ⟨by decide, by decide⟩ hl.1 rfl (Nat.le_of_ble_eq_true rfl) ⟨Nat.zero_le _, Nat.zero_le _⟩ dX9_motifLine_127 (fun r21 hr21 => ?_)
                      obtain ⟨z21, hz21, rfl⟩ := hr21
                      refine s_if_eq (a := z21) (tgt := 137) hE.1 hE.2.1 (by omega) dX9_motifLine_130 (by decide) (fun c22 => ?_) (fun c22 => ?_)
                      · skip
                        refine lv_iconst (v := iI (-1)) hE.1 hE.2.1 dX9_motifLine_137 (by decide) ?_
                        refine lv_istore_n (lv' := [(3, .int (iI (-1))), (2, .int (iI (z2))), (1, .int (iI (z1))), (0, .ref (ad 0))]) hE.1 hE.2.1 dX9_motifLine_138 rfl hl (by decide) rfl (fun ls hl => ?_)
                        refine lv_iload_n hE.1 hE.2.1 dX9_motifLine_139 rfl (lv_at hl 0 rfl) ?_
                        refine lv_iconst (v := iI (-1)) hE.1 hE.2.1 dX9_motifLine_140 (by decide) ?_
                        refine s_icmp_eq (a := -1) (b := -1) (tgt := 176) hE.1 hE.2.1 (by omega) (by omega) dX9_motifLine_141 (by decide) (fun _ => ?_) (fun c23 => False.elim (by omega))
                        refine lv_aload_n hE.1 hE.2.1 dX9_motifLine_176 rfl (lv_at hl 3 rfl) ?_
                        refine lv_iconst (v := iI (1)) hE.1 hE.2.1 dX9_motifLine_177 (by decide) ?_
                        refine x_vv (nn := 1) (As := [.int (iI (1))]) (rest := []) hE hK hN hP hS (s_X9_fails l D K ad vl7 arl7 all7 hI  (1) (by omega)) (x_recv hK hP 0 (by decide) (yG_9 rfl) rfl) rfl mw_1566 mw_1568 mw_56 mw_123 mw_1569 (by decide +kernel) ⟨by decide, by decide⟩ hl.1 rfl (Nat.le_of_ble_eq_true rfl) ⟨Nat.zero_le _, Nat.zero_le _⟩ dX9_motifLine_178 (fun v24 ar24 al24 H locs hq24 hP hS => ?_)
                        obtain ⟨hI, hq24, hqa24, hql24, x24_1, hx24, ex24_1⟩ := hq24
                        have hI : YI v24 ar24 := hI
                        refine lv_aload_n hE.1 hE.2.1 dX9_motifLine_181 rfl (lv_at hl 3 rfl) ?_
                        refine x_get (x := .int (v24 0 12)) hE hK hP 0 (by decide) (yG_9 rfl) rfl hin9 12 (by decide) mw_1346 rfl dX9_motifLine_182 ?_
                        refine x_top (y := iI (x24_1)) ex24_1 ?_
                        refine s_if_eq (a := x24_1) (tgt := 189) hE.1 hE.2.1 (by omega) dX9_motifLine_185 (by decide) (fun c25 => ?_) (fun c25 => ?_)
                        · skip
                          refine lv_aload_n hE.1 hE.2.1 dX9_motifLine_189 rfl (lv_at hl 3 rfl) ?_
                          refine x_vv (nn := 0) (As := []) (rest := []) hE hK hN hP hS (s_X9_next l D K ad v24 ar24 al24 hI (w_1) (by omega) ((hq24 0 6 (by decide)).trans ((hfr7 0 6 (by decide)).trans ((hq5 0 6 (by decide)).trans ((hfr3 0 6 (by decide)).trans ew_1)))) (yf7_0) (by omega) ((hq24 0 7 (by decide)).trans eyf7_0)  (by omega)) (x_recv hK hP 0 (by decide) (yG_9 rfl) rfl) rfl mw_1536 mw_1538 mw_50 mw_123 mw_1539 (by decide +kernel) ⟨by decide, by decide⟩ hl.1 rfl (Nat.le_of_ble_eq_true rfl) ⟨Nat.zero_le _, Nat.zero_le _⟩ dX9_motifLine_190 (fun v26 ar26 al26 H locs hq26 hP hS => ?_)
                          obtain ⟨hI, hq26, hqa26, hql26, x26_1, x26_2, hx26, ex26_1, ex26_2⟩ := hq26
                          have hI : YI v26 ar26 := hI
                          refine lv_iload_n hE.1 hE.2.1 dX9_motifLine_193 rfl (lv_at hl 0 rfl) ?_
                          refine lv_iconst (v := iI (4)) hE.1 hE.2.1 dX9_motifLine_194 (by decide) ?_
                          refine s_icmp_eq (a := -1) (b := 4) (tgt := 210) hE.1 hE.2.1 (by omega) (by omega) dX9_motifLine_195 (by decide) (fun c27 => False.elim (by omega)) (fun _ => ?_)
                          refine lv_aload_n hE.1 hE.2.1 dX9_motifLine_198 rfl (lv_at hl 3 rfl) ?_
                          refine x_get (x := .ref (ad 8)) hE hK hP 0 (by decide) (yG_9 rfl) rfl hin9 18 (by decide) mw_1352 rfl dX9_motifLine_199 ?_
                          refine lv_iload_n hE.1 hE.2.1 dX9_motifLine_202 rfl (lv_at hl 1 rfl) ?_
                          refine lv_iload_n hE.1 hE.2.1 dX9_motifLine_203 rfl (lv_at hl 0 rfl) ?_
                          refine lv_iadd hE.1 hE.2.1 dX9_motifLine_204 ?_
                          refine x_top (y := iI (z2 - 1)) ((iI_add (z2) (-1)).trans (congrArg iI (by omega))) ?_
                          refine lv_iconst (v := iI (1)) hE.1 hE.2.1 dX9_motifLine_205 (by decide) ?_
                          refine x_iast (j := iI (z2 - 1)) hE hK hN hP hS 8 (by decide) (fun _ => yG_10 rfl) (iI_in (n := 405) (by omega)) dX9_motifLine_206 (fun ar28 H locs ha28 hP hS => ?_)
                          have hI := YI_ast hI ha28 (by decide)
                          refine lv_goto (tgt := 66) hE.1 hE.2.1 dX9_motifLine_207 (by decide) ?_
                          exact ih7 _ (by omega) (-1) (x26_1) (x26_2) (x24_1) v26 ar28 al26 _ _ _ rfl (by omega) (by omega) ex26_1 ex26_2 ((hq26 0 12 (by decide)).trans ex24_1) hI (fun i j h => (((hq26 i j (fun q => h (mem_sub (by decide) q))).trans (hq24 i j (fun q => h (mem_sub (by decide) q)))).trans (hfr7 i j h))) (fun i h => (((upx_ne ha28 i (fun q => h (by rw [q]; decide))).trans ((hqa26 i (fun q => h (mem_subn (by decide) q))).trans (hqa24 i (fun q => h (mem_subn (by decide) q))))).trans (hfa7 i h))) (fun i h => (((hql26 i (fun q => h (mem_subn (by decide) q))).trans (hql24 i (fun q => h (mem_subn (by decide) q)))).trans (hfl7 i h))) hP hS (lv_sub hl [0, 1, 2, 3] rfl)
                        · skip
                          exact kr v24 ar24 al24 _ _ _ _ ⟨hI, fun i j h => ((hq24 i j (fun q => h (mem_sub (by decide) q))).trans ((hfr7 i j (fun q => h (mem_sub (by decide) q))).trans ((hq5 i j (fun q => h (mem_sub (by decide) q))).trans (hfr3 i j (fun q => h (mem_sub (by decide) q)))))), fun i h => ((hqa24 i (fun q => h (mem_subn (by decide) q))).trans ((hfa7 i (fun q => h (mem_subn (by decide) q))).trans ((upx_ne ha6 i (fun q => h (by rw [q]; decide))).trans ((hqa5 i (fun q => h (mem_subn (by decide) q))).trans (hfa3 i (fun q => h (mem_subn (by decide) q))))))), fun i h => ((hql24 i (fun q => h (mem_subn (by decide) q))).trans ((hfl7 i (fun q => h (mem_subn (by decide) q))).trans ((hql5 i (fun q => h (mem_subn (by decide) q))).trans (hfl3 i (fun q => h (mem_subn (by decide) q)))))), yf7_0, by omega, ((hq24 0 7 (by decide)).trans eyf7_0)⟩ hP hS dX9_motifLine_188
                      · skip
                        refine lv_iconst (v := iI (4)) hE.1 hE.2.1 dX9_motifLine_133 (by decide) ?_
                        refine lv_goto (tgt := 138) hE.1 hE.2.1 dX9_motifLine_134 (by decide) ?_
                        refine lv_istore_n (lv' := [(3, .int (iI (4))), (2, .int (iI (z2))), (1, .int (iI (z1))), (0, .ref (ad 0))]) hE.1 hE.2.1 dX9_motifLine_138 rfl hl (by decide) rfl (fun ls hl => ?_)
                        refine lv_iload_n hE.1 hE.2.1 dX9_motifLine_139 rfl (lv_at hl 0 rfl) ?_
                        refine lv_iconst (v := iI (-1)) hE.1 hE.2.1 dX9_motifLine_140 (by decide) ?_
                        refine s_icmp_eq (a := 4) (b := -1) (tgt := 176) hE.1 hE.2.1 (by omega) (by omega) dX9_motifLine_141 (by decide) (fun c29 => False.elim (by omega)) (fun _ => ?_)
                        refine lv_iload_n hE.1 hE.2.1 dX9_motifLine_144 rfl (lv_at hl 0 rfl) ?_
                        refine lv_iconst (v := iI (4)) hE.1 hE.2.1 dX9_motifLine_145 (by decide) ?_
                        refine s_icmp_ne (a := 4) (b := 4) (tgt := 164) hE.1 hE.2.1 (by omega) (by omega) dX9_motifLine_146 (by decide) (fun c30 => False.elim (by omega)) (fun _ => ?_)
                        refine lv_aload_n hE.1 hE.2.1 dX9_motifLine_149 rfl (lv_at hl 3 rfl) ?_
                        refine x_get (x := .ref (ad 8)) hE hK hP 0 (by decide) (yG_9 rfl) rfl hin9 18 (by decide) mw_1352 rfl dX9_motifLine_150 ?_
                        refine lv_iload_n hE.1 hE.2.1 dX9_motifLine_153 rfl (lv_at hl 1 rfl) ?_
                        refine lv_iconst (v := iI (4)) hE.1 hE.2.1 dX9_motifLine_154 (by decide) ?_
                        refine lv_iadd hE.1 hE.2.1 dX9_motifLine_155 ?_
                        refine x_top (y := iI (z2 + 4)) ((iI_add (z2) (4)).trans (congrArg iI (by omega))) ?_
                        refine x_iald (j := iI (z2 + 4)) hE hK hP 8 (by decide) (yG_10 rfl) (iI_in (n := 405) (by omega)) dX9_motifLine_156 ?_
                        obtain ⟨z33, hz33, ez33⟩ := iI_of (arl7 8 (iI (z2 + 4)).toNatClampNeg)
                        refine x_top ez33 ?_
                        refine lv_iconst (v := iI (-1)) hE.1 hE.2.1 dX9_motifLine_157 (by decide) ?_
                        refine s_icmp_eq (a := z33) (b := -1) (tgt := 181) hE.1 hE.2.1 (by omega) (by omega) dX9_motifLine_158 (by decide) (fun c34 => ?_) (fun c34 => ?_)
                        · skip
                          refine lv_aload_n hE.1 hE.2.1 dX9_motifLine_181 rfl (lv_at hl 3 rfl) ?_
                          refine x_get (x := .int (vl7 0 12)) hE hK hP 0 (by decide) (yG_9 rfl) rfl hin9 12 (by decide) mw_1346 rfl dX9_motifLine_182 ?_
                          refine x_top (y := iI (yf7_2)) eyf7_2 ?_
                          refine s_if_eq (a := yf7_2) (tgt := 189) hE.1 hE.2.1 (by omega) dX9_motifLine_185 (by decide) (fun c35 => ?_) (fun c35 => ?_)
                          · skip
                            refine lv_aload_n hE.1 hE.2.1 dX9_motifLine_189 rfl (lv_at hl 3 rfl) ?_
                            refine x_vv (nn := 0) (As := []) (rest := []) hE hK hN hP hS (s_X9_next l D K ad vl7 arl7 all7 hI (w_1) (by omega) ((hfr7 0 6 (by decide)).trans ((hq5 0 6 (by decide)).trans ((hfr3 0 6 (by decide)).trans ew_1))) (yf7_0) (by omega) eyf7_0  (by omega)) (x_recv hK hP 0 (by decide) (yG_9 rfl) rfl) rfl mw_1536 mw_1538 mw_50 mw_123 mw_1539 (by decide +kernel) ⟨by decide, by decide⟩ hl.1 rfl (Nat.le_of_ble_eq_true rfl) ⟨Nat.zero_le _, Nat.zero_le _⟩ dX9_motifLine_190 (fun v36 ar36 al36 H locs hq36 hP hS => ?_)
                            obtain ⟨hI, hq36, hqa36, hql36, x36_1, x36_2, hx36, ex36_1, ex36_2⟩ := hq36
                            have hI : YI v36 ar36 := hI
                            refine lv_iload_n hE.1 hE.2.1 dX9_motifLine_193 rfl (lv_at hl 0 rfl) ?_
                            refine lv_iconst (v := iI (4)) hE.1 hE.2.1 dX9_motifLine_194 (by decide) ?_
                            refine s_icmp_eq (a := 4) (b := 4) (tgt := 210) hE.1 hE.2.1 (by omega) (by omega) dX9_motifLine_195 (by decide) (fun _ => ?_) (fun c37 => False.elim (by omega))
                            refine lv_aload_n hE.1 hE.2.1 dX9_motifLine_210 rfl (lv_at hl 3 rfl) ?_
                            refine x_get (x := .int (v36 0 8)) hE hK hP 0 (by decide) (yG_9 rfl) rfl hin9 8 (by decide) mw_1342 rfl dX9_motifLine_211 ?_
                            refine x_top (y := iI (x36_2)) ex36_2 ?_
                            refine lv_iconst (v := iI (2)) hE.1 hE.2.1 dX9_motifLine_214 (by decide) ?_
                            refine s_icmp_ne (a := x36_2) (b := 2) (tgt := 231) hE.1 hE.2.1 (by omega) (by omega) dX9_motifLine_215 (by decide) (fun c38 => ?_) (fun c38 => ?_)
                            · skip
                              refine lv_aload_n hE.1 hE.2.1 dX9_motifLine_231 rfl (lv_at hl 3 rfl) ?_
                              refine x_get (x := .ref (ad 8)) hE hK hP 0 (by decide) (yG_9 rfl) rfl hin9 18 (by decide) mw_1352 rfl dX9_motifLine_232 ?_
                              refine lv_iload_n hE.1 hE.2.1 dX9_motifLine_235 rfl (lv_at hl 1 rfl) ?_
                              refine lv_iconst (v := iI (4)) hE.1 hE.2.1 dX9_motifLine_236 (by decide) ?_
                              refine lv_iadd hE.1 hE.2.1 dX9_motifLine_237 ?_
                              refine x_top (y := iI (z2 + 4)) ((iI_add (z2) (4)).trans (congrArg iI (by omega))) ?_
                              refine lv_aload_n hE.1 hE.2.1 dX9_motifLine_238 rfl (lv_at hl 3 rfl) ?_
                              refine lv_iconst (v := iI (0)) hE.1 hE.2.1 dX9_motifLine_239 (by decide) ?_
                              refine lv_bipush (v := iI (8)) hE.1 hE.2.1 dX9_motifLine_240 (by decide) ?_
                              refine x_vi (nn := 2) (As := [.int (iI (0)), .int (iI (8))]) (rest := [.int (iI (z2 + 4)), .ref (ad 8)]) hE hK hN hP hS (s_X9_number l D K ad v36 ar36 al36 hI (w_1) (by omega) ((hq36 0 6 (by decide)).trans ((hfr7 0 6 (by decide)).trans ((hq5 0 6 (by decide)).trans ((hfr3 0 6 (by decide)).trans ew_1)))) (x36_1) (by omega) ex36_1 (0) (by omega) (8) (by omega) (by omega)) (x_recv hK hP 0 (by decide) (yG_9 rfl) rfl) rfl mw_1575 mw_1577 mw_58 mw_123 mw_1578 (by decide +kernel) ⟨by decide, by decide⟩ hl.1 rfl (Nat.le_of_ble_eq_true rfl) ⟨Nat.zero_le _, Nat.zero_le _⟩ dX9_motifLine_242 (fun r39 v39 ar39 al39 H locs hq39 hP hS => ?_)
                              obtain ⟨⟨z39, hz39, rfl⟩, hI, hq39, hqa39, hql39, x39_1, x39_2, x39_3, hx39, ex39_1, ex39_2, ex39_3⟩ := hq39
                              have hI : YI v39 ar39 := hI
                              refine x_iast (j := iI (z2 + 4)) hE hK hN hP hS 8 (by decide) (fun _ => yG_10 rfl) (iI_in (n := 405) (by omega)) dX9_motifLine_245 (fun ar40 H locs ha40 hP hS => ?_)
                              have hI := YI_ast hI ha40 (by decide)
                              refine lv_aload_n hE.1 hE.2.1 dX9_motifLine_246 rfl (lv_at hl 3 rfl) ?_
                              refine x_get (x := .ref (ad 8)) hE hK hP 0 (by decide) (yG_9 rfl) rfl hin9 18 (by decide) mw_1352 rfl dX9_motifLine_247 ?_
                              refine lv_iload_n hE.1 hE.2.1 dX9_motifLine_250 rfl (lv_at hl 1 rfl) ?_
                              refine lv_iconst (v := iI (5)) hE.1 hE.2.1 dX9_motifLine_251 (by decide) ?_
                              refine lv_iadd hE.1 hE.2.1 dX9_motifLine_252 ?_
                              refine x_top (y := iI (z2 + 5)) ((iI_add (z2) (5)).trans (congrArg iI (by omega))) ?_
                              refine lv_aload_n hE.1 hE.2.1 dX9_motifLine_253 rfl (lv_at hl 3 rfl) ?_
                              refine lv_ldc2 (v := 335207579) hE.1 hE.2.1 hE.2.2.2.1 (hE.2.2.2.2 _ mw_1603) dX9_motifLine_254 ?_
                              refine x_topl (y := lI (335207579)) (by decide) ?_
                              refine lv_iconst (v := iI (1)) hE.1 hE.2.1 dX9_motifLine_257 (by decide) ?_
                              refine lv_bipush (v := iI (9)) hE.1 hE.2.1 dX9_motifLine_258 (by decide) ?_
                              refine x_vi (nn := 3) (As := [.long (lI (335207579)), .int (iI (1)), .int (iI (9))]) (rest := [.int (iI (z2 + 5)), .ref (ad 8)]) hE hK hN hP hS (s_X9_number_ l D K ad v39 ar40 al39 hI (w_1) (by omega) ((hq39 0 6 (by decide)).trans ((hq36 0 6 (by decide)).trans ((hfr7 0 6 (by decide)).trans ((hq5 0 6 (by decide)).trans ((hfr3 0 6 (by decide)).trans ew_1))))) (x39_1) (by omega) ex39_1 (335207579) (by omega) (1) (by omega) (9) (by omega) (by omega)) (x_recv hK hP 0 (by decide) (yG_9 rfl) rfl) rfl mw_1571 mw_1573 mw_57 mw_123 mw_1574 (by decide +kernel) ⟨by decide, by decide⟩ hl.1 rfl (Nat.le_of_ble_eq_true rfl) ⟨Nat.zero_le _, Nat.zero_le _⟩ dX9_motifLine_260 (fun r41 v41 ar41 al41 H locs hq41 hP hS => ?_)
                              obtain ⟨⟨z41, hz41, rfl⟩, hI, hq41, hqa41, hql41, x41_1, x41_2, x41_3, hx41, ex41_1, ex41_2, ex41_3⟩ := hq41
                              have hI : YI v41 ar41 := hI
                              refine x_iast (j := iI (z2 + 5)) hE hK hN hP hS 8 (by decide) (fun _ => yG_10 rfl) (iI_in (n := 405) (by omega)) dX9_motifLine_263 (fun ar42 H locs ha42 hP hS => ?_)
                              have hI := YI_ast hI ha42 (by decide)
                              refine lv_goto (tgt := 66) hE.1 hE.2.1 dX9_motifLine_264 (by decide) ?_
                              exact ih7 _ (by omega) (4) (x41_1) (x41_2) (x41_3) v41 ar42 al41 _ _ _ rfl (by omega) (by omega) ex41_1 ex41_2 ex41_3 hI (fun i j h => (((hq41 i j (fun q => h (mem_sub (by decide) q))).trans ((hq39 i j (fun q => h (mem_sub (by decide) q))).trans (hq36 i j (fun q => h (mem_sub (by decide) q))))).trans (hfr7 i j h))) (fun i h => (((upx_ne ha42 i (fun q => h (by rw [q]; decide))).trans ((hqa41 i (fun q => h (mem_subn (by decide) q))).trans ((upx_ne ha40 i (fun q => h (by rw [q]; decide))).trans ((hqa39 i (fun q => h (mem_subn (by decide) q))).trans (hqa36 i (fun q => h (mem_subn (by decide) q))))))).trans (hfa7 i h))) (fun i h => (((hql41 i (fun q => h (mem_subn (by decide) q))).trans ((hql39 i (fun q => h (mem_subn (by decide) q))).trans (hql36 i (fun q => h (mem_subn (by decide) q))))).trans (hfl7 i h))) hP hS (lv_sub hl [0, 1, 2, 3] rfl)
                            · skip
                              refine lv_aload_n hE.1 hE.2.1 dX9_motifLine_218 rfl (lv_at hl 3 rfl) ?_
                              obtain ⟨z43, hz43, ez43⟩ := iI_of (v36 0 10)
                              refine x_get (x := .int (v36 0 10)) hE hK hP 0 (by decide) (yG_9 rfl) rfl hin9 10 (by decide) mw_1344 rfl dX9_motifLine_219 ?_
                              refine x_top (y := iI (z43)) ez43 ?_
                              refine lv_iload_n hE.1 hE.2.1 dX9_motifLine_222 rfl (lv_at hl 2 rfl) ?_
                              refine s_icmp_ne (a := z43) (b := z1) (tgt := 231) hE.1 hE.2.1 (by omega) (by omega) dX9_motifLine_223 (by decide) (fun c44 => ?_) (fun c44 => ?_)
                              · skip
                                refine lv_aload_n hE.1 hE.2.1 dX9_motifLine_231 rfl (lv_at hl 3 rfl) ?_
                                refine x_get (x := .ref (ad 8)) hE hK hP 0 (by decide) (yG_9 rfl) rfl hin9 18 (by decide) mw_1352 rfl dX9_motifLine_232 ?_
                                refine lv_iload_n hE.1 hE.2.1 dX9_motifLine_235 rfl (lv_at hl 1 rfl) ?_
                                refine lv_iconst (v := iI (4)) hE.1 hE.2.1 dX9_motifLine_236 (by decide) ?_
                                refine lv_iadd hE.1 hE.2.1 dX9_motifLine_237 ?_
                                refine x_top (y := iI (z2 + 4)) ((iI_add (z2) (4)).trans (congrArg iI (by omega))) ?_
                                refine lv_aload_n hE.1 hE.2.1 dX9_motifLine_238 rfl (lv_at hl 3 rfl) ?_
                                refine lv_iconst (v := iI (0)) hE.1 hE.2.1 dX9_motifLine_239 (by decide) ?_
                                refine lv_bipush (v := iI (8)) hE.1 hE.2.1 dX9_motifLine_240 (by decide) ?_
                                refine x_vi (nn := 2) (As := [.int (iI (0)), .int (iI (8))]) (rest := [.int (iI (z2 + 4)), .ref (ad 8)]) hE hK hN hP hS (s_X9_number l D K ad v36 ar36 al36 hI (w_1) (by omega) ((hq36 0 6 (by decide)).trans ((hfr7 0 6 (by decide)).trans ((hq5 0 6 (by decide)).trans ((hfr3 0 6 (by decide)).trans ew_1)))) (x36_1) (by omega) ex36_1 (0) (by omega) (8) (by omega) (by omega)) (x_recv hK hP 0 (by decide) (yG_9 rfl) rfl) rfl mw_1575 mw_1577 mw_58 mw_123 mw_1578 (by decide +kernel) ⟨by decide, by decide⟩ hl.1 rfl (Nat.le_of_ble_eq_true rfl) ⟨Nat.zero_le _, Nat.zero_le _⟩ dX9_motifLine_242 (fun r45 v45 ar45 al45 H locs hq45 hP hS => ?_)
                                obtain ⟨⟨z45, hz45, rfl⟩, hI, hq45, hqa45, hql45, x45_1, x45_2, x45_3, hx45, ex45_1, ex45_2, ex45_3⟩ := hq45
                                have hI : YI v45 ar45 := hI
                                refine x_iast (j := iI (z2 + 4)) hE hK hN hP hS 8 (by decide) (fun _ => yG_10 rfl) (iI_in (n := 405) (by omega)) dX9_motifLine_245 (fun ar46 H locs ha46 hP hS => ?_)
                                have hI := YI_ast hI ha46 (by decide)
                                refine lv_aload_n hE.1 hE.2.1 dX9_motifLine_246 rfl (lv_at hl 3 rfl) ?_
                                refine x_get (x := .ref (ad 8)) hE hK hP 0 (by decide) (yG_9 rfl) rfl hin9 18 (by decide) mw_1352 rfl dX9_motifLine_247 ?_
                                refine lv_iload_n hE.1 hE.2.1 dX9_motifLine_250 rfl (lv_at hl 1 rfl) ?_
                                refine lv_iconst (v := iI (5)) hE.1 hE.2.1 dX9_motifLine_251 (by decide) ?_
                                refine lv_iadd hE.1 hE.2.1 dX9_motifLine_252 ?_
                                refine x_top (y := iI (z2 + 5)) ((iI_add (z2) (5)).trans (congrArg iI (by omega))) ?_
                                refine lv_aload_n hE.1 hE.2.1 dX9_motifLine_253 rfl (lv_at hl 3 rfl) ?_
                                refine lv_ldc2 (v := 335207579) hE.1 hE.2.1 hE.2.2.2.1 (hE.2.2.2.2 _ mw_1603) dX9_motifLine_254 ?_
                                refine x_topl (y := lI (335207579)) (by decide) ?_
                                refine lv_iconst (v := iI (1)) hE.1 hE.2.1 dX9_motifLine_257 (by decide) ?_
                                refine lv_bipush (v := iI (9)) hE.1 hE.2.1 dX9_motifLine_258 (by decide) ?_
                                refine x_vi (nn := 3) (As := [.long (lI (335207579)), .int (iI (1)), .int (iI (9))]) (rest := [.int (iI (z2 + 5)), .ref (ad 8)]) hE hK hN hP hS (s_X9_number_ l D K ad v45 ar46 al45 hI (w_1) (by omega) ((hq45 0 6 (by decide)).trans ((hq36 0 6 (by decide)).trans ((hfr7 0 6 (by decide)).trans ((hq5 0 6 (by decide)).trans ((hfr3 0 6 (by decide)).trans ew_1))))) (x45_1) (by omega) ex45_1 (335207579) (by omega) (1) (by omega) (9) (by omega) (by omega)) (x_recv hK hP 0 (by decide) (yG_9 rfl) rfl) rfl mw_1571 mw_1573 mw_57 mw_123 mw_1574 (by decide +kernel) ⟨by decide, by decide⟩ hl.1 rfl (Nat.le_of_ble_eq_true rfl) ⟨Nat.zero_le _, Nat.zero_le _⟩ dX9_motifLine_260 (fun r47 v47 ar47 al47 H locs hq47 hP hS => ?_)
                                obtain ⟨⟨z47, hz47, rfl⟩, hI, hq47, hqa47, hql47, x47_1, x47_2, x47_3, hx47, ex47_1, ex47_2, ex47_3⟩ := hq47
                                have hI : YI v47 ar47 := hI
                                refine x_iast (j := iI (z2 + 5)) hE hK hN hP hS 8 (by decide) (fun _ => yG_10 rfl) (iI_in (n := 405) (by omega)) dX9_motifLine_263 (fun ar48 H locs ha48 hP hS => ?_)
                                have hI := YI_ast hI ha48 (by decide)
                                refine lv_goto (tgt := 66) hE.1 hE.2.1 dX9_motifLine_264 (by decide) ?_
                                exact ih7 _ (by omega) (4) (x47_1) (x47_2) (x47_3) v47 ar48 al47 _ _ _ rfl (by omega) (by omega) ex47_1 ex47_2 ex47_3 hI (fun i j h => (((hq47 i j (fun q => h (mem_sub (by decide) q))).trans ((hq45 i j (fun q => h (mem_sub (by decide) q))).trans (hq36 i j (fun q => h (mem_sub (by decide) q))))).trans (hfr7 i j h))) (fun i h => (((upx_ne ha48 i (fun q => h (by rw [q]; decide))).trans ((hqa47 i (fun q => h (mem_subn (by decide) q))).trans ((upx_ne ha46 i (fun q => h (by rw [q]; decide))).trans ((hqa45 i (fun q => h (mem_subn (by decide) q))).trans (hqa36 i (fun q => h (mem_subn (by decide) q))))))).trans (hfa7 i h))) (fun i h => (((hql47 i (fun q => h (mem_subn (by decide) q))).trans ((hql45 i (fun q => h (mem_subn (by decide) q))).trans (hql36 i (fun q => h (mem_subn (by decide) q))))).trans (hfl7 i h))) hP hS (lv_sub hl [0, 1, 2, 3] rfl)
                              · skip
                                refine lv_aload_n hE.1 hE.2.1 dX9_motifLine_226 rfl (lv_at hl 3 rfl) ?_
                                refine lv_iconst (v := iI (2)) hE.1 hE.2.1 dX9_motifLine_227 (by decide) ?_
                                refine x_vv (nn := 1) (As := [.int (iI (2))]) (rest := []) hE hK hN hP hS (s_X9_fails l D K ad v36 ar36 al36 hI  (2) (by omega)) (x_recv hK hP 0 (by decide) (yG_9 rfl) rfl) rfl mw_1566 mw_1568 mw_56 mw_123 mw_1569 (by decide +kernel) ⟨by decide, by decide⟩ hl.1 rfl (Nat.le_of_ble_eq_true rfl) ⟨Nat.zero_le _, Nat.zero_le _⟩ dX9_motifLine_228 (fun v49 ar49 al49 H locs hq49 hP hS => ?_)
                                obtain ⟨hI, hq49, hqa49, hql49, x49_1, hx49, ex49_1⟩ := hq49
                                have hI : YI v49 ar49 := hI
                                refine lv_aload_n hE.1 hE.2.1 dX9_motifLine_231 rfl (lv_at hl 3 rfl) ?_
                                refine x_get (x := .ref (ad 8)) hE hK hP 0 (by decide) (yG_9 rfl) rfl hin9 18 (by decide) mw_1352 rfl dX9_motifLine_232 ?_
                                refine lv_iload_n hE.1 hE.2.1 dX9_motifLine_235 rfl (lv_at hl 1 rfl) ?_
                                refine lv_iconst (v := iI (4)) hE.1 hE.2.1 dX9_motifLine_236 (by decide) ?_
                                refine lv_iadd hE.1 hE.2.1 dX9_motifLine_237 ?_
                                refine x_top (y := iI (z2 + 4)) ((iI_add (z2) (4)).trans (congrArg iI (by omega))) ?_
                                refine lv_aload_n hE.1 hE.2.1 dX9_motifLine_238 rfl (lv_at hl 3 rfl) ?_
                                refine lv_iconst (v := iI (0)) hE.1 hE.2.1 dX9_motifLine_239 (by decide) ?_
                                refine lv_bipush (v := iI (8)) hE.1 hE.2.1 dX9_motifLine_240 (by decide) ?_
                                refine x_vi (nn := 2) (As := [.int (iI (0)), .int (iI (8))]) (rest := [.int (iI (z2 + 4)), .ref (ad 8)]) hE hK hN hP hS (s_X9_number l D K ad v49 ar49 al49 hI (w_1) (by omega) ((hq49 0 6 (by decide)).trans ((hq36 0 6 (by decide)).trans ((hfr7 0 6 (by decide)).trans ((hq5 0 6 (by decide)).trans ((hfr3 0 6 (by decide)).trans ew_1))))) (x36_1) (by omega) ((hq49 0 7 (by decide)).trans ex36_1) (0) (by omega) (8) (by omega) (by omega)) (x_recv hK hP 0 (by decide) (yG_9 rfl) rfl) rfl mw_1575 mw_1577 mw_58 mw_123 mw_1578 (by decide +kernel) ⟨by decide, by decide⟩ hl.1 rfl (Nat.le_of_ble_eq_true rfl) ⟨Nat.zero_le _, Nat.zero_le _⟩ dX9_motifLine_242 (fun r50 v50 ar50 al50 H locs hq50 hP hS => ?_)
                                obtain ⟨⟨z50, hz50, rfl⟩, hI, hq50, hqa50, hql50, x50_1, x50_2, x50_3, hx50, ex50_1, ex50_2, ex50_3⟩ := hq50
                                have hI : YI v50 ar50 := hI
                                refine x_iast (j := iI (z2 + 4)) hE hK hN hP hS 8 (by decide) (fun _ => yG_10 rfl) (iI_in (n := 405) (by omega)) dX9_motifLine_245 (fun ar51 H locs ha51 hP hS => ?_)
                                have hI := YI_ast hI ha51 (by decide)
                                refine lv_aload_n hE.1 hE.2.1 dX9_motifLine_246 rfl (lv_at hl 3 rfl) ?_
                                refine x_get (x := .ref (ad 8)) hE hK hP 0 (by decide) (yG_9 rfl) rfl hin9 18 (by decide) mw_1352 rfl dX9_motifLine_247 ?_
                                refine lv_iload_n hE.1 hE.2.1 dX9_motifLine_250 rfl (lv_at hl 1 rfl) ?_
                                refine lv_iconst (v := iI (5)) hE.1 hE.2.1 dX9_motifLine_251 (by decide) ?_
                                refine lv_iadd hE.1 hE.2.1 dX9_motifLine_252 ?_
                                refine x_top (y := iI (z2 + 5)) ((iI_add (z2) (5)).trans (congrArg iI (by omega))) ?_
                                refine lv_aload_n hE.1 hE.2.1 dX9_motifLine_253 rfl (lv_at hl 3 rfl) ?_
                                refine lv_ldc2 (v := 335207579) hE.1 hE.2.1 hE.2.2.2.1 (hE.2.2.2.2 _ mw_1603) dX9_motifLine_254 ?_
                                refine x_topl (y := lI (335207579)) (by decide) ?_
                                refine lv_iconst (v := iI (1)) hE.1 hE.2.1 dX9_motifLine_257 (by decide) ?_
                                refine lv_bipush (v := iI (9)) hE.1 hE.2.1 dX9_motifLine_258 (by decide) ?_
                                refine x_vi (nn := 3) (As := [.long (lI (335207579)), .int (iI (1)), .int (iI (9))]) (rest := [.int (iI (z2 + 5)), .ref (ad 8)]) hE hK hN hP hS (s_X9_number_ l D K ad v50 ar51 al50 hI (w_1) (by omega) ((hq50 0 6 (by decide)).trans ((hq49 0 6 (by decide)).trans ((hq36 0 6 (by decide)).trans ((hfr7 0 6 (by decide)).trans ((hq5 0 6 (by decide)).trans ((hfr3 0 6 (by decide)).trans ew_1)))))) (x50_1) (by omega) ex50_1 (335207579) (by omega) (1) (by omega) (9) (by omega) (by omega)) (x_recv hK hP 0 (by decide) (yG_9 rfl) rfl) rfl mw_1571 mw_1573 mw_57 mw_123 mw_1574 (by decide +kernel) ⟨by decide, by decide⟩ hl.1 rfl (Nat.le_of_ble_eq_true rfl) ⟨Nat.zero_le _, Nat.zero_le _⟩ dX9_motifLine_260 (fun r52 v52 ar52 al52 H locs hq52 hP hS => ?_)
                                obtain ⟨⟨z52, hz52, rfl⟩, hI, hq52, hqa52, hql52, x52_1, x52_2, x52_3, hx52, ex52_1, ex52_2, ex52_3⟩ := hq52
                                have hI : YI v52 ar52 := hI
                                refine x_iast (j := iI (z2 + 5)) hE hK hN hP hS 8 (by decide) (fun _ => yG_10 rfl) (iI_in (n := 405) (by omega)) dX9_motifLine_263 (fun ar53 H locs ha53 hP hS => ?_)
                                have hI := YI_ast hI ha53 (by decide)
                                refine lv_goto (tgt := 66) hE.1 hE.2.1 dX9_motifLine_264 (by decide) ?_
                                exact ih7 _ (by omega) (4) (x52_1) (x52_2) (x52_3) v52 ar53 al52 _ _ _ rfl (by omega) (by omega) ex52_1 ex52_2 ex52_3 hI (fun i j h => (((hq52 i j (fun q => h (mem_sub (by decide) q))).trans ((hq50 i j (fun q => h (mem_sub (by decide) q))).trans ((hq49 i j (fun q => h (mem_sub (by decide) q))).trans (hq36 i j (fun q => h (mem_sub (by decide) q)))))).trans (hfr7 i j h))) (fun i h => (((upx_ne ha53 i (fun q => h (by rw [q]; decide))).trans ((hqa52 i (fun q => h (mem_subn (by decide) q))).trans ((upx_ne ha51 i (fun q => h (by rw [q]; decide))).trans ((hqa50 i (fun q => h (mem_subn (by decide) q))).trans ((hqa49 i (fun q => h (mem_subn (by decide) q))).trans (hqa36 i (fun q => h (mem_subn (by decide) q)))))))).trans (hfa7 i h))) (fun i h => (((hql52 i (fun q => h (mem_subn (by decide) q))).trans ((hql50 i (fun q => h (mem_subn (by decide) q))).trans ((hql49 i (fun q => h (mem_subn (by decide) q))).trans (hql36 i (fun q => h (mem_subn (by decide) q)))))).trans (hfl7 i h))) hP hS (lv_sub hl [0, 1, 2, 3] rfl)
                          · skip
                            exact kr vl7 arl7 all7 _ _ _ _ ⟨hI, fun i j h => ((hfr7 i j (fun q => h (mem_sub (by decide) q))).trans ((hq5 i j (fun q => h (mem_sub (by decide) q))).trans (hfr3 i j (fun q => h (mem_sub (by decide) q))))), fun i h => ((hfa7 i (fun q => h (mem_subn (by decide) q))).trans ((upx_ne ha6 i (fun q => h (by rw [q]; decide))).trans ((hqa5 i (fun q => h (mem_subn (by decide) q))).trans (hfa3 i (fun q => h (mem_subn (by decide) q)))))), fun i h => ((hfl7 i (fun q => h (mem_subn (by decide) q))).trans ((hql5 i (fun q => h (mem_subn (by decide) q))).trans (hfl3 i (fun q => h (mem_subn (by decide) q))))), yf7_0, by omega, eyf7_0⟩ hP hS dX9_motifLine_188
                        · skip
                          refine lv_goto (tgt := 176) hE.1 hE.2.1 dX9_motifLine_161 (by decide) ?_
                          refine lv_aload_n hE.1 hE.2.1 dX9_motifLine_176 rfl (lv_at hl 3 rfl) ?_
                          refine lv_iconst (v := iI (1)) hE.1 hE.2.1 dX9_motifLine_177 (by decide) ?_
                          refine x_vv (nn := 1) (As := [.int (iI (1))]) (rest := []) hE hK hN hP hS (s_X9_fails l D K ad vl7 arl7 all7 hI  (1) (by omega)) (x_recv hK hP 0 (by decide) (yG_9 rfl) rfl) rfl mw_1566 mw_1568 mw_56 mw_123 mw_1569 (by decide +kernel) ⟨by decide, by decide⟩ hl.1 rfl (Nat.le_of_ble_eq_true rfl) ⟨Nat.zero_le _, Nat.zero_le _⟩ dX9_motifLine_178 (fun v54 ar54 al54 H locs hq54 hP hS => ?_)
                          obtain ⟨hI, hq54, hqa54, hql54, x54_1, hx54, ex54_1⟩ := hq54
                          have hI : YI v54 ar54 := hI
                          refine lv_aload_n hE.1 hE.2.1 dX9_motifLine_181 rfl (lv_at hl 3 rfl) ?_
                          refine x_get (x := .int (v54 0 12)) hE hK hP 0 (by decide) (yG_9 rfl) rfl hin9 12 (by decide) mw_1346 rfl dX9_motifLine_182 ?_
                          refine x_top (y := iI (x54_1)) ex54_1 ?_
                          refine s_if_eq (a := x54_1) (tgt := 189) hE.1 hE.2.1 (by omega) dX9_motifLine_185 (by decide) (fun c55 => ?_) (fun c55 => ?_)
                          · skip
                            refine lv_aload_n hE.1 hE.2.1 dX9_motifLine_189 rfl (lv_at hl 3 rfl) ?_
                            refine x_vv (nn := 0) (As := []) (rest := []) hE hK hN hP hS (s_X9_next l D K ad v54 ar54 al54 hI (w_1) (by omega) ((hq54 0 6 (by decide)).trans ((hfr7 0 6 (by decide)).trans ((hq5 0 6 (by decide)).trans ((hfr3 0 6 (by decide)).trans ew_1)))) (yf7_0) (by omega) ((hq54 0 7 (by decide)).trans eyf7_0)  (by omega)) (x_recv hK hP 0 (by decide) (yG_9 rfl) rfl) rfl mw_1536 mw_1538 mw_50 mw_123 mw_1539 (by decide +kernel) ⟨by decide, by decide⟩ hl.1 rfl (Nat.le_of_ble_eq_true rfl) ⟨Nat.zero_le _, Nat.zero_le _⟩ dX9_motifLine_190 (fun v56 ar56 al56 H locs hq56 hP hS => ?_)
                            obtain ⟨hI, hq56, hqa56, hql56, x56_1, x56_2, hx56, ex56_1, ex56_2⟩ := hq56
                            have hI : YI v56 ar56 := hI
                            refine lv_iload_n hE.1 hE.2.1 dX9_motifLine_193 rfl (lv_at hl 0 rfl) ?_
                            refine lv_iconst (v := iI (4)) hE.1 hE.2.1 dX9_motifLine_194 (by decide) ?_
                            refine s_icmp_eq (a := 4) (b := 4) (tgt := 210) hE.1 hE.2.1 (by omega) (by omega) dX9_motifLine_195 (by decide) (fun _ => ?_) (fun c57 => False.elim (by omega))
                            refine lv_aload_n hE.1 hE.2.1 dX9_motifLine_210 rfl (lv_at hl 3 rfl) ?_
                            refine x_get (x := .int (v56 0 8)) hE hK hP 0 (by decide) (yG_9 rfl) rfl hin9 8 (by decide) mw_1342 rfl dX9_motifLine_211 ?_
                            refine x_top (y := iI (x56_2)) ex56_2 ?_
                            refine lv_iconst (v := iI (2)) hE.1 hE.2.1 dX9_motifLine_214 (by decide) ?_
                            refine s_icmp_ne (a := x56_2) (b := 2) (tgt := 231) hE.1 hE.2.1 (by omega) (by omega) dX9_motifLine_215 (by decide) (fun c58 => ?_) (fun c58 => ?_)
                            · skip
                              refine lv_aload_n hE.1 hE.2.1 dX9_motifLine_231 rfl (lv_at hl 3 rfl) ?_
                              refine x_get (x := .ref (ad 8)) hE hK hP 0 (by decide) (yG_9 rfl) rfl hin9 18 (by decide) mw_1352 rfl dX9_motifLine_232 ?_
                              refine lv_iload_n hE.1 hE.2.1 dX9_motifLine_235 rfl (lv_at hl 1 rfl) ?_
                              refine lv_iconst (v := iI (4)) hE.1 hE.2.1 dX9_motifLine_236 (by decide) ?_
                              refine lv_iadd hE.1 hE.2.1 dX9_motifLine_237 ?_
                              refine x_top (y := iI (z2 + 4)) ((iI_add (z2) (4)).trans (congrArg iI (by omega))) ?_
                              refine lv_aload_n hE.1 hE.2.1 dX9_motifLine_238 rfl (lv_at hl 3 rfl) ?_
                              refine lv_iconst (v := iI (0)) hE.1 hE.2.1 dX9_motifLine_239 (by decide) ?_
                              refine lv_bipush (v := iI (8)) hE.1 hE.2.1 dX9_motifLine_240 (by decide) ?_
                              refine x_vi (nn := 2) (As := [.int (iI (0)), .int (iI (8))]) (rest := [.int (iI (z2 + 4)), .ref (ad 8)]) hE hK hN hP hS (s_X9_number l D K ad v56 ar56 al56 hI (w_1) (by omega) ((hq56 0 6 (by decide)).trans ((hq54 0 6 (by decide)).trans ((hfr7 0 6 (by decide)).trans ((hq5 0 6 (by decide)).trans ((hfr3 0 6 (by decide)).trans ew_1))))) (x56_1) (by omega) ex56_1 (0) (by omega) (8) (by omega) (by omega)) (x_recv hK hP 0 (by decide) (yG_9 rfl) rfl) rfl mw_1575 mw_1577 mw_58 mw_123 mw_1578 (by decide +kernel) ⟨by decide, by decide⟩ hl.1 rfl (Nat.le_of_ble_eq_true rfl) ⟨Nat.zero_le _, Nat.zero_le _⟩ dX9_motifLine_242 (fun r59 v59 ar59 al59 H locs hq59 hP hS => ?_)
                              obtain ⟨⟨z59, hz59, rfl⟩, hI, hq59, hqa59, hql59, x59_1, x59_2, x59_3, hx59, ex59_1, ex59_2, ex59_3⟩ := hq59
                              have hI : YI v59 ar59 := hI
                              refine x_iast (j := iI (z2 + 4)) hE hK hN hP hS 8 (by decide) (fun _ => yG_10 rfl) (iI_in (n := 405) (by omega)) dX9_motifLine_245 (fun ar60 H locs ha60 hP hS => ?_)
                              have hI := YI_ast hI ha60 (by decide)
                              refine lv_aload_n hE.1 hE.2.1 dX9_motifLine_246 rfl (lv_at hl 3 rfl) ?_
                              refine x_get (x := .ref (ad 8)) hE hK hP 0 (by decide) (yG_9 rfl) rfl hin9 18 (by decide) mw_1352 rfl dX9_motifLine_247 ?_
                              refine lv_iload_n hE.1 hE.2.1 dX9_motifLine_250 rfl (lv_at hl 1 rfl) ?_
                              refine lv_iconst (v := iI (5)) hE.1 hE.2.1 dX9_motifLine_251 (by decide) ?_
                              refine lv_iadd hE.1 hE.2.1 dX9_motifLine_252 ?_
                              refine x_top (y := iI (z2 + 5)) ((iI_add (z2) (5)).trans (congrArg iI (by omega))) ?_
                              refine lv_aload_n hE.1 hE.2.1 dX9_motifLine_253 rfl (lv_at hl 3 rfl) ?_
                              refine lv_ldc2 (v := 335207579) hE.1 hE.2.1 hE.2.2.2.1 (hE.2.2.2.2 _ mw_1603) dX9_motifLine_254 ?_
                              refine x_topl (y := lI (335207579)) (by decide) ?_
                              refine lv_iconst (v := iI (1)) hE.1 hE.2.1 dX9_motifLine_257 (by decide) ?_
                              refine lv_bipush (v := iI (9)) hE.1 hE.2.1 dX9_motifLine_258 (by decide) ?_
                              refine x_vi (nn := 3) (As := [.long (lI (335207579)), .int (iI (1)), .int (iI (9))]) (rest := [.int (iI (z2 + 5)), .ref (ad 8)]) hE hK hN hP hS (s_X9_number_ l D K ad v59 ar60 al59 hI (w_1) (by omega) ((hq59 0 6 (by decide)).trans ((hq56 0 6 (by decide)).trans ((hq54 0 6 (by decide)).trans ((hfr7 0 6 (by decide)).trans ((hq5 0 6 (by decide)).trans ((hfr3 0 6 (by decide)).trans ew_1)))))) (x59_1) (by omega) ex59_1 (335207579) (by omega) (1) (by omega) (9) (by omega) (by omega)) (x_recv hK hP 0 (by decide) (yG_9 rfl) rfl) rfl mw_1571 mw_1573 mw_57 mw_123 mw_1574 (by decide +kernel) ⟨by decide, by decide⟩ hl.1 rfl (Nat.le_of_ble_eq_true rfl) ⟨Nat.zero_le _, Nat.zero_le _⟩ dX9_motifLine_260 (fun r61 v61 ar61 al61 H locs hq61 hP hS => ?_)
                              obtain ⟨⟨z61, hz61, rfl⟩, hI, hq61, hqa61, hql61, x61_1, x61_2, x61_3, hx61, ex61_1, ex61_2, ex61_3⟩ := hq61
                              have hI : YI v61 ar61 := hI
                              refine x_iast (j := iI (z2 + 5)) hE hK hN hP hS 8 (by decide) (fun _ => yG_10 rfl) (iI_in (n := 405) (by omega)) dX9_motifLine_263 (fun ar62 H locs ha62 hP hS => ?_)
                              have hI := YI_ast hI ha62 (by decide)
                              refine lv_goto (tgt := 66) hE.1 hE.2.1 dX9_motifLine_264 (by decide) ?_
                              exact ih7 _ (by omega) (4) (x61_1) (x61_2) (x61_3) v61 ar62 al61 _ _ _ rfl (by omega) (by omega) ex61_1 ex61_2 ex61_3 hI (fun i j h => (((hq61 i j (fun q => h (mem_sub (by decide) q))).trans ((hq59 i j (fun q => h (mem_sub (by decide) q))).trans ((hq56 i j (fun q => h (mem_sub (by decide) q))).trans (hq54 i j (fun q => h (mem_sub (by decide) q)))))).trans (hfr7 i j h))) (fun i h => (((upx_ne ha62 i (fun q => h (by rw [q]; decide))).trans ((hqa61 i (fun q => h (mem_subn (by decide) q))).trans ((upx_ne ha60 i (fun q => h (by rw [q]; decide))).trans ((hqa59 i (fun q => h (mem_subn (by decide) q))).trans ((hqa56 i (fun q => h (mem_subn (by decide) q))).trans (hqa54 i (fun q => h (mem_subn (by decide) q)))))))).trans (hfa7 i h))) (fun i h => (((hql61 i (fun q => h (mem_subn (by decide) q))).trans ((hql59 i (fun q => h (mem_subn (by decide) q))).trans ((hql56 i (fun q => h (mem_subn (by decide) q))).trans (hql54 i (fun q => h (mem_subn (by decide) q)))))).trans (hfl7 i h))) hP hS (lv_sub hl [0, 1, 2, 3] rfl)
                            · skip
                              refine lv_aload_n hE.1 hE.2.1 dX9_motifLine_218 rfl (lv_at hl 3 rfl) ?_
                              obtain ⟨z63, hz63, ez63⟩ := iI_of (v56 0 10)
                              refine x_get (x := .int (v56 0 10)) hE hK hP 0 (by decide) (yG_9 rfl) rfl hin9 10 (by decide) mw_1344 rfl dX9_motifLine_219 ?_
                              refine x_top (y := iI (z63)) ez63 ?_
                              refine lv_iload_n hE.1 hE.2.1 dX9_motifLine_222 rfl (lv_at hl 2 rfl) ?_
                              refine s_icmp_ne (a := z63) (b := z1) (tgt := 231) hE.1 hE.2.1 (by omega) (by omega) dX9_motifLine_223 (by decide) (fun c64 => ?_) (fun c64 => ?_)
                              · skip
                                refine lv_aload_n hE.1 hE.2.1 dX9_motifLine_231 rfl (lv_at hl 3 rfl) ?_
                                refine x_get (x := .ref (ad 8)) hE hK hP 0 (by decide) (yG_9 rfl) rfl hin9 18 (by decide) mw_1352 rfl dX9_motifLine_232 ?_
                                refine lv_iload_n hE.1 hE.2.1 dX9_motifLine_235 rfl (lv_at hl 1 rfl) ?_
                                refine lv_iconst (v := iI (4)) hE.1 hE.2.1 dX9_motifLine_236 (by decide) ?_
                                refine lv_iadd hE.1 hE.2.1 dX9_motifLine_237 ?_
                                refine x_top (y := iI (z2 + 4)) ((iI_add (z2) (4)).trans (congrArg iI (by omega))) ?_
                                refine lv_aload_n hE.1 hE.2.1 dX9_motifLine_238 rfl (lv_at hl 3 rfl) ?_
                                refine lv_iconst (v := iI (0)) hE.1 hE.2.1 dX9_motifLine_239 (by decide) ?_
                                refine lv_bipush (v := iI (8)) hE.1 hE.2.1 dX9_motifLine_240 (by decide) ?_
                                refine x_vi (nn := 2) (As := [.int (iI (0)), .int (iI (8))]) (rest := [.int (iI (z2 + 4)), .ref (ad 8)]) hE hK hN hP hS (s_X9_number l D K ad v56 ar56 al56 hI (w_1) (by omega) ((hq56 0 6 (by decide)).trans ((hq54 0 6 (by decide)).trans ((hfr7 0 6 (by decide)).trans ((hq5 0 6 (by decide)).trans ((hfr3 0 6 (by decide)).trans ew_1))))) (x56_1) (by omega) ex56_1 (0) (by omega) (8) (by omega) (by omega)) (x_recv hK hP 0 (by decide) (yG_9 rfl) rfl) rfl mw_1575 mw_1577 mw_58 mw_123 mw_1578 (by decide +kernel) ⟨by decide, by decide⟩ hl.1 rfl (Nat.le_of_ble_eq_true rfl) ⟨Nat.zero_le _, Nat.zero_le _⟩ dX9_motifLine_242 (fun r65 v65 ar65 al65 H locs hq65 hP hS => ?_)
                                obtain ⟨⟨z65, hz65, rfl⟩, hI, hq65, hqa65, hql65, x65_1, x65_2, x65_3, hx65, ex65_1, ex65_2, ex65_3⟩ := hq65
                                have hI : YI v65 ar65 := hI
                                refine x_iast (j := iI (z2 + 4)) hE hK hN hP hS 8 (by decide) (fun _ => yG_10 rfl) (iI_in (n := 405) (by omega)) dX9_motifLine_245 (fun ar66 H locs ha66 hP hS => ?_)
                                have hI := YI_ast hI ha66 (by decide)
                                refine lv_aload_n hE.1 hE.2.1 dX9_motifLine_246 rfl (lv_at hl 3 rfl) ?_
                                refine x_get (x := .ref (ad 8)) hE hK hP 0 (by decide) (yG_9 rfl) rfl hin9 18 (by decide) mw_1352 rfl dX9_motifLine_247 ?_
                                refine lv_iload_n hE.1 hE.2.1 dX9_motifLine_250 rfl (lv_at hl 1 rfl) ?_
                                refine lv_iconst (v := iI (5)) hE.1 hE.2.1 dX9_motifLine_251 (by decide) ?_
                                refine lv_iadd hE.1 hE.2.1 dX9_motifLine_252 ?_
                                refine x_top (y := iI (z2 + 5)) ((iI_add (z2) (5)).trans (congrArg iI (by omega))) ?_
                                refine lv_aload_n hE.1 hE.2.1 dX9_motifLine_253 rfl (lv_at hl 3 rfl) ?_
                                refine lv_ldc2 (v := 335207579) hE.1 hE.2.1 hE.2.2.2.1 (hE.2.2.2.2 _ mw_1603) dX9_motifLine_254 ?_
                                refine x_topl (y := lI (335207579)) (by decide) ?_
                                refine lv_iconst (v := iI (1)) hE.1 hE.2.1 dX9_motifLine_257 (by decide) ?_
                                refine lv_bipush (v := iI (9)) hE.1 hE.2.1 dX9_motifLine_258 (by decide) ?_
                                refine x_vi (nn := 3) (As := [.long (lI (335207579)), .int (iI (1)), .int (iI (9))]) (rest := [.int (iI (z2 + 5)), .ref (ad 8)]) hE hK hN hP hS (s_X9_number_ l D K ad v65 ar66 al65 hI (w_1) (by omega) ((hq65 0 6 (by decide)).trans ((hq56 0 6 (by decide)).trans ((hq54 0 6 (by decide)).trans ((hfr7 0 6 (by decide)).trans ((hq5 0 6 (by decide)).trans ((hfr3 0 6 (by decide)).trans ew_1)))))) (x65_1) (by omega) ex65_1 (335207579) (by omega) (1) (by omega) (9) (by omega) (by omega)) (x_recv hK hP 0 (by decide) (yG_9 rfl) rfl) rfl mw_1571 mw_1573 mw_57 mw_123 mw_1574 (by decide +kernel) ⟨by decide, by decide⟩ hl.1 rfl (Nat.le_of_ble_eq_true rfl) ⟨Nat.zero_le _, Nat.zero_le _⟩ dX9_motifLine_260 (fun r67 v67 ar67 al67 H locs hq67 hP hS => ?_)
                                obtain ⟨⟨z67, hz67, rfl⟩, hI, hq67, hqa67, hql67, x67_1, x67_2, x67_3, hx67, ex67_1, ex67_2, ex67_3⟩ := hq67
                                have hI : YI v67 ar67 := hI
                                refine x_iast (j := iI (z2 + 5)) hE hK hN hP hS 8 (by decide) (fun _ => yG_10 rfl) (iI_in (n := 405) (by omega)) dX9_motifLine_263 (fun ar68 H locs ha68 hP hS => ?_)
                                have hI := YI_ast hI ha68 (by decide)
                                refine lv_goto (tgt := 66) hE.1 hE.2.1 dX9_motifLine_264 (by decide) ?_
                                exact ih7 _ (by omega) (4) (x67_1) (x67_2) (x67_3) v67 ar68 al67 _ _ _ rfl (by omega) (by omega) ex67_1 ex67_2 ex67_3 hI (fun i j h => (((hq67 i j (fun q => h (mem_sub (by decide) q))).trans ((hq65 i j (fun q => h (mem_sub (by decide) q))).trans ((hq56 i j (fun q => h (mem_sub (by decide) q))).trans (hq54 i j (fun q => h (mem_sub (by decide) q)))))).trans (hfr7 i j h))) (fun i h => (((upx_ne ha68 i (fun q => h (by rw [q]; decide))).trans ((hqa67 i (fun q => h (mem_subn (by decide) q))).trans ((upx_ne ha66 i (fun q => h (by rw [q]; decide))).trans ((hqa65 i (fun q => h (mem_subn (by decide) q))).trans ((hqa56 i (fun q => h (mem_subn (by decide) q))).trans (hqa54 i (fun q => h (mem_subn (by decide) q)))))))).trans (hfa7 i h))) (fun i h => (((hql67 i (fun q => h (mem_subn (by decide) q))).trans ((hql65 i (fun q => h (mem_subn (by decide) q))).trans ((hql56 i (fun q => h (mem_subn (by decide) q))).trans (hql54 i (fun q => h (mem_subn (by decide) q)))))).trans (hfl7 i h))) hP hS (lv_sub hl [0, 1, 2, 3] rfl)
                              · skip
                                refine lv_aload_n hE.1 hE.2.1 dX9_motifLine_226 rfl (lv_at hl 3 rfl) ?_
                                refine lv_iconst (v := iI (2)) hE.1 hE.2.1 dX9_motifLine_227 (by decide) ?_
                                refine x_vv (nn := 1) (As := [.int (iI (2))]) (rest := []) hE hK hN hP hS (s_X9_fails l D K ad v56 ar56 al56 hI  (2) (by omega)) (x_recv hK hP 0 (by decide) (yG_9 rfl) rfl) rfl mw_1566 mw_1568 mw_56 mw_123 mw_1569 (by decide +kernel) ⟨by decide, by decide⟩ hl.1 rfl (Nat.le_of_ble_eq_true rfl) ⟨Nat.zero_le _, Nat.zero_le _⟩ dX9_motifLine_228 (fun v69 ar69 al69 H locs hq69 hP hS => ?_)
                                obtain ⟨hI, hq69, hqa69, hql69, x69_1, hx69, ex69_1⟩ := hq69
                                have hI : YI v69 ar69 := hI
                                refine lv_aload_n hE.1 hE.2.1 dX9_motifLine_231 rfl (lv_at hl 3 rfl) ?_
                                refine x_get (x := .ref (ad 8)) hE hK hP 0 (by decide) (yG_9 rfl) rfl hin9 18 (by decide) mw_1352 rfl dX9_motifLine_232 ?_
                                refine lv_iload_n hE.1 hE.2.1 dX9_motifLine_235 rfl (lv_at hl 1 rfl) ?_
                                refine lv_iconst (v := iI (4)) hE.1 hE.2.1 dX9_motifLine_236 (by decide) ?_
                                refine lv_iadd hE.1 hE.2.1 dX9_motifLine_237 ?_
                                refine x_top (y := iI (z2 + 4)) ((iI_add (z2) (4)).trans (congrArg iI (by omega))) ?_
                                refine lv_aload_n hE.1 hE.2.1 dX9_motifLine_238 rfl (lv_at hl 3 rfl) ?_
                                refine lv_iconst (v := iI (0)) hE.1 hE.2.1 dX9_motifLine_239 (by decide) ?_
                                refine lv_bipush (v := iI (8)) hE.1 hE.2.1 dX9_motifLine_240 (by decide) ?_
                                refine x_vi (nn := 2) (As := [.int (iI (0)), .int (iI (8))]) (rest := [.int (iI (z2 + 4)), .ref (ad 8)]) hE hK hN hP hS (s_X9_number l D K ad v69 ar69 al69 hI (w_1) (by omega) ((hq69 0 6 (by decide)).trans ((hq56 0 6 (by decide)).trans ((hq54 0 6 (by decide)).trans ((hfr7 0 6 (by decide)).trans ((hq5 0 6 (by decide)).trans ((hfr3 0 6 (by decide)).trans ew_1)))))) (x56_1) (by omega) ((hq69 0 7 (by decide)).trans ex56_1) (0) (by omega) (8) (by omega) (by omega)) (x_recv hK hP 0 (by decide) (yG_9 rfl) rfl) rfl mw_1575 mw_1577 mw_58 mw_123 mw_1578 (by decide +kernel) ⟨by decide, by decide⟩ hl.1 rfl (Nat.le_of_ble_eq_true rfl) ⟨Nat.zero_le _, Nat.zero_le _⟩ dX9_motifLine_242 (fun r70 v70 ar70 al70 H locs hq70 hP hS => ?_)
                                obtain ⟨⟨z70, hz70, rfl⟩, hI, hq70, hqa70, hql70, x70_1, x70_2, x70_3, hx70, ex70_1, ex70_2, ex70_3⟩ := hq70
                                have hI : YI v70 ar70 := hI
                                refine x_iast (j := iI (z2 + 4)) hE hK hN hP hS 8 (by decide) (fun _ => yG_10 rfl) (iI_in (n := 405) (by omega)) dX9_motifLine_245 (fun ar71 H locs ha71 hP hS => ?_)
                                have hI := YI_ast hI ha71 (by decide)
                                refine lv_aload_n hE.1 hE.2.1 dX9_motifLine_246 rfl (lv_at hl 3 rfl) ?_
                                refine x_get (x := .ref (ad 8)) hE hK hP 0 (by decide) (yG_9 rfl) rfl hin9 18 (by decide) mw_1352 rfl dX9_motifLine_247 ?_
                                refine lv_iload_n hE.1 hE.2.1 dX9_motifLine_250 rfl (lv_at hl 1 rfl) ?_
                                refine lv_iconst (v := iI (5)) hE.1 hE.2.1 dX9_motifLine_251 (by decide) ?_
                                refine lv_iadd hE.1 hE.2.1 dX9_motifLine_252 ?_
                                refine x_top (y := iI (z2 + 5)) ((iI_add (z2) (5)).trans (congrArg iI (by omega))) ?_
                                refine lv_aload_n hE.1 hE.2.1 dX9_motifLine_253 rfl (lv_at hl 3 rfl) ?_
                                refine lv_ldc2 (v := 335207579) hE.1 hE.2.1 hE.2.2.2.1 (hE.2.2.2.2 _ mw_1603) dX9_motifLine_254 ?_
                                refine x_topl (y := lI (335207579)) (by decide) ?_
                                refine lv_iconst (v := iI (1)) hE.1 hE.2.1 dX9_motifLine_257 (by decide) ?_
                                refine lv_bipush (v := iI (9)) hE.1 hE.2.1 dX9_motifLine_258 (by decide) ?_
                                refine x_vi (nn := 3) (As := [.long (lI (335207579)), .int (iI (1)), .int (iI (9))]) (rest := [.int (iI (z2 + 5)), .ref (ad 8)]) hE hK hN hP hS (s_X9_number_ l D K ad v70 ar71 al70 hI (w_1) (by omega) ((hq70 0 6 (by decide)).trans ((hq69 0 6 (by decide)).trans ((hq56 0 6 (by decide)).trans ((hq54 0 6 (by decide)).trans ((hfr7 0 6 (by decide)).trans ((hq5 0 6 (by decide)).trans ((hfr3 0 6 (by decide)).trans ew_1))))))) (x70_1) (by omega) ex70_1 (335207579) (by omega) (1) (by omega) (9) (by omega) (by omega)) (x_recv hK hP 0 (by decide) (yG_9 rfl) rfl) rfl mw_1571 mw_1573 mw_57 mw_123 mw_1574 (by decide +kernel) ⟨by decide, by decide⟩ hl.1 rfl (Nat.le_of_ble_eq_true rfl) ⟨Nat.zero_le _, Nat.zero_le _⟩ dX9_motifLine_260 (fun r72 v72 ar72 al72 H locs hq72 hP hS => ?_)
                                obtain ⟨⟨z72, hz72, rfl⟩, hI, hq72, hqa72, hql72, x72_1, x72_2, x72_3, hx72, ex72_1, ex72_2, ex72_3⟩ := hq72
                                have hI : YI v72 ar72 := hI
                                refine x_iast (j := iI (z2 + 5)) hE hK hN hP hS 8 (by decide) (fun _ => yG_10 rfl) (iI_in (n := 405) (by omega)) dX9_motifLine_263 (fun ar73 H locs ha73 hP hS => ?_)
                                have hI := YI_ast hI ha73 (by decide)
                                refine lv_goto (tgt := 66) hE.1 hE.2.1 dX9_motifLine_264 (by decide) ?_
                                exact ih7 _ (by omega) (4) (x72_1) (x72_2) (x72_3) v72 ar73 al72 _ _ _ rfl (by omega) (by omega) ex72_1 ex72_2 ex72_3 hI (fun i j h => (((hq72 i j (fun q => h (mem_sub (by decide) q))).trans ((hq70 i j (fun q => h (mem_sub (by decide) q))).trans ((hq69 i j (fun q => h (mem_sub (by decide) q))).trans ((hq56 i j (fun q => h (mem_sub (by decide) q))).trans (hq54 i j (fun q => h (mem_sub (by decide) q))))))).trans (hfr7 i j h))) (fun i h => (((upx_ne ha73 i (fun q => h (by rw [q]; decide))).trans ((hqa72 i (fun q => h (mem_subn (by decide) q))).trans ((upx_ne ha71 i (fun q => h (by rw [q]; decide))).trans ((hqa70 i (fun q => h (mem_subn (by decide) q))).trans ((hqa69 i (fun q => h (mem_subn (by decide) q))).trans ((hqa56 i (fun q => h (mem_subn (by decide) q))).trans (hqa54 i (fun q => h (mem_subn (by decide) q))))))))).trans (hfa7 i h))) (fun i h => (((hql72 i (fun q => h (mem_subn (by decide) q))).trans ((hql70 i (fun q => h (mem_subn (by decide) q))).trans ((hql69 i (fun q => h (mem_subn (by decide) q))).trans ((hql56 i (fun q => h (mem_subn (by decide) q))).trans (hql54 i (fun q => h (mem_subn (by decide) q))))))).trans (hfl7 i h))) hP hS (lv_sub hl [0, 1, 2, 3] rfl)
                          · skip
                            exact kr v54 ar54 al54 _ _ _ _ ⟨hI, fun i j h => ((hq54 i j (fun q => h (mem_sub (by decide) q))).trans ((hfr7 i j (fun q => h (mem_sub (by decide) q))).trans ((hq5 i j (fun q => h (mem_sub (by decide) q))).trans (hfr3 i j (fun q => h (mem_sub (by decide) q)))))), fun i h => ((hqa54 i (fun q => h (mem_subn (by decide) q))).trans ((hfa7 i (fun q => h (mem_subn (by decide) q))).trans ((upx_ne ha6 i (fun q => h (by rw [q]; decide))).trans ((hqa5 i (fun q => h (mem_subn (by decide) q))).trans (hfa3 i (fun q => h (mem_subn (by decide) q))))))), fun i h => ((hql54 i (fun q => h (mem_subn (by decide) q))).trans ((hfl7 i (fun q => h (mem_subn (by decide) q))).trans ((hql5 i (fun q => h (mem_subn (by decide) q))).trans (hfl3 i (fun q => h (mem_subn (by decide) q)))))), yf7_0, by omega, ((hq54 0 7 (by decide)).trans eyf7_0)⟩ hP hS dX9_motifLine_188
                    · skip
                      refine lv_iconst (v := iI (3)) hE.1 hE.2.1 dX9_motifLine_119 (by decide) ?_
                      refine lv_goto (tgt := 138) hE.1 hE.2.1 dX9_motifLine_120 (by decide) ?_
                      refine lv_istore_n (lv' := [(3, .int (iI (3))), (2, .int (iI (z2))), (1, .int (iI (z1))), (0, .ref (ad 0))]) hE.1 hE.2.1 dX9_motifLine_138 rfl hl (by decide) rfl (fun ls hl => ?_)
                      refine lv_iload_n hE.1 hE.2.1 dX9_motifLine_139 rfl (lv_at hl 0 rfl) ?_
                      refine lv_iconst (v := iI (-1)) hE.1 hE.2.1 dX9_motifLine_140 (by decide) ?_
                      refine s_icmp_eq (a := 3) (b := -1) (tgt := 176) hE.1 hE.2.1 (by omega) (by omega) dX9_motifLine_141 (by decide) (fun c74 => False.elim (by omega)) (fun _ => ?_)
                      refine lv_iload_n hE.1 hE.2.1 dX9_motifLine_144 rfl (lv_at hl 0 rfl) ?_
                      refine lv_iconst (v := iI (4)) hE.1 hE.2.1 dX9_motifLine_145 (by decide) ?_
                      refine s_icmp_ne (a := 3) (b := 4) (tgt := 164) hE.1 hE.2.1 (by omega) (by omega) dX9_motifLine_146 (by decide) (fun _ => ?_) (fun c75 => False.elim (by omega))
                      refine lv_aload_n hE.1 hE.2.1 dX9_motifLine_164 rfl (lv_at hl 3 rfl) ?_
                      refine x_get (x := .ref (ad 8)) hE hK hP 0 (by decide) (yG_9 rfl) rfl hin9 18 (by decide) mw_1352 rfl dX9_motifLine_165 ?_
                      refine lv_iload_n hE.1 hE.2.1 dX9_motifLine_168 rfl (lv_at hl 1 rfl) ?_
                      refine lv_iload_n hE.1 hE.2.1 dX9_motifLine_169 rfl (lv_at hl 0 rfl) ?_
                      refine lv_iadd hE.1 hE.2.1 dX9_motifLine_170 ?_
                      refine x_top (y := iI (z2 + 3)) ((iI_add (z2) (3)).trans (congrArg iI (by omega))) ?_
                      refine x_iald (j := iI (z2 + 3)) hE hK hP 8 (by decide) (yG_10 rfl) (iI_in (n := 405) (by omega)) dX9_motifLine_171 ?_
                      obtain ⟨z78, hz78, ez78⟩ := iI_of (arl7 8 (iI (z2 + 3)).toNatClampNeg)
                      refine x_top ez78 ?_
                      refine lv_iconst (v := iI (1)) hE.1 hE.2.1 dX9_motifLine_172 (by decide) ?_
                      refine s_icmp_ne (a := z78) (b := 1) (tgt := 181) hE.1 hE.2.1 (by omega) (by omega) dX9_motifLine_173 (by decide) (fun c79 => ?_) (fun c79 => ?_)
                      · skip
                        refine lv_aload_n hE.1 hE.2.1 dX9_motifLine_181 rfl (lv_at hl 3 rfl) ?_
                        refine x_get (x := .int (vl7 0 12)) hE hK hP 0 (by decide) (yG_9 rfl) rfl hin9 12 (by decide) mw_1346 rfl dX9_motifLine_182 ?_
                        refine x_top (y := iI (yf7_2)) eyf7_2 ?_
                        refine s_if_eq (a := yf7_2) (tgt := 189) hE.1 hE.2.1 (by omega) dX9_motifLine_185 (by decide) (fun c80 => ?_) (fun c80 => ?_)
                        · skip
                          refine lv_aload_n hE.1 hE.2.1 dX9_motifLine_189 rfl (lv_at hl 3 rfl) ?_
                          refine x_vv (nn := 0) (As := []) (rest := []) hE hK hN hP hS (s_X9_next l D K ad vl7 arl7 all7 hI (w_1) (by omega) ((hfr7 0 6 (by decide)).trans ((hq5 0 6 (by decide)).trans ((hfr3 0 6 (by decide)).trans ew_1))) (yf7_0) (by omega) eyf7_0  (by omega)) (x_recv hK hP 0 (by decide) (yG_9 rfl) rfl) rfl mw_1536 mw_1538 mw_50 mw_123 mw_1539 (by decide +kernel) ⟨by decide, by decide⟩ hl.1 rfl (Nat.le_of_ble_eq_true rfl) ⟨Nat.zero_le _, Nat.zero_le _⟩ dX9_motifLine_190 (fun v81 ar81 al81 H locs hq81 hP hS => ?_)
                          obtain ⟨hI, hq81, hqa81, hql81, x81_1, x81_2, hx81, ex81_1, ex81_2⟩ := hq81
                          have hI : YI v81 ar81 := hI
                          refine lv_iload_n hE.1 hE.2.1 dX9_motifLine_193 rfl (lv_at hl 0 rfl) ?_
                          refine lv_iconst (v := iI (4)) hE.1 hE.2.1 dX9_motifLine_194 (by decide) ?_
                          refine s_icmp_eq (a := 3) (b := 4) (tgt := 210) hE.1 hE.2.1 (by omega) (by omega) dX9_motifLine_195 (by decide) (fun c82 => False.elim (by omega)) (fun _ => ?_)
                          refine lv_aload_n hE.1 hE.2.1 dX9_motifLine_198 rfl (lv_at hl 3 rfl) ?_
                          refine x_get (x := .ref (ad 8)) hE hK hP 0 (by decide) (yG_9 rfl) rfl hin9 18 (by decide) mw_1352 rfl dX9_motifLine_199 ?_
                          refine lv_iload_n hE.1 hE.2.1 dX9_motifLine_202 rfl (lv_at hl 1 rfl) ?_
                          refine lv_iload_n hE.1 hE.2.1 dX9_motifLine_203 rfl (lv_at hl 0 rfl) ?_
                          refine lv_iadd hE.1 hE.2.1 dX9_motifLine_204 ?_
                          refine x_top (y := iI (z2 + 3)) ((iI_add (z2) (3)).trans (congrArg iI (by omega))) ?_
                          refine lv_iconst (v := iI (1)) hE.1 hE.2.1 dX9_motifLine_205 (by decide) ?_
                          refine x_iast (j := iI (z2 + 3)) hE hK hN hP hS 8 (by decide) (fun _ => yG_10 rfl) (iI_in (n := 405) (by omega)) dX9_motifLine_206 (fun ar83 H locs ha83 hP hS => ?_)
                          have hI := YI_ast hI ha83 (by decide)
                          refine lv_goto (tgt := 66) hE.1 hE.2.1 dX9_motifLine_207 (by decide) ?_
                          exact ih7 _ (by omega) (3) (x81_1) (x81_2) (yf7_2) v81 ar83 al81 _ _ _ rfl (by omega) (by omega) ex81_1 ex81_2 ((hq81 0 12 (by decide)).trans eyf7_2) hI (fun i j h => ((hq81 i j (fun q => h (mem_sub (by decide) q))).trans (hfr7 i j h))) (fun i h => (((upx_ne ha83 i (fun q => h (by rw [q]; decide))).trans (hqa81 i (fun q => h (mem_subn (by decide) q)))).trans (hfa7 i h))) (fun i h => ((hql81 i (fun q => h (mem_subn (by decide) q))).trans (hfl7 i h))) hP hS (lv_sub hl [0, 1, 2, 3] rfl)
                        · skip
                          exact kr vl7 arl7 all7 _ _ _ _ ⟨hI, fun i j h => ((hfr7 i j (fun q => h (mem_sub (by decide) q))).trans ((hq5 i j (fun q => h (mem_sub (by decide) q))).trans (hfr3 i j (fun q => h (mem_sub (by decide) q))))), fun i h => ((hfa7 i (fun q => h (mem_subn (by decide) q))).trans ((upx_ne ha6 i (fun q => h (by rw [q]; decide))).trans ((hqa5 i (fun q => h (mem_subn (by decide) q))).trans (hfa3 i (fun q => h (mem_subn (by decide) q)))))), fun i h => ((hfl7 i (fun q => h (mem_subn (by decide) q))).trans ((hql5 i (fun q => h (mem_subn (by decide) q))).trans (hfl3 i (fun q => h (mem_subn (by decide) q))))), yf7_0, by omega, eyf7_0⟩ hP hS dX9_motifLine_188
                      · skip
                        refine lv_aload_n hE.1 hE.2.1 dX9_motifLine_176 rfl (lv_at hl 3 rfl) ?_
                        refine lv_iconst (v := iI (1)) hE.1 hE.2.1 dX9_motifLine_177 (by decide) ?_
                        refine x_vv (nn := 1) (As := [.int (iI (1))]) (rest := []) hE hK hN hP hS (s_X9_fails l D K ad vl7 arl7 all7 hI  (1) (by omega)) (x_recv hK hP 0 (by decide) (yG_9 rfl) rfl) rfl mw_1566 mw_1568 mw_56 mw_123 mw_1569 (by decide +kernel) ⟨by decide, by decide⟩ hl.1 rfl (Nat.le_of_ble_eq_true rfl) ⟨Nat.zero_le _, Nat.zero_le _⟩ dX9_motifLine_178 (fun v84 ar84 al84 H locs hq84 hP hS => ?_)
                        obtain ⟨hI, hq84, hqa84, hql84, x84_1, hx84, ex84_1⟩ := hq84
                        have hI : YI v84 ar84 := hI
                        refine lv_aload_n hE.1 hE.2.1 dX9_motifLine_181 rfl (lv_at hl 3 rfl) ?_
                        refine x_get (x := .int (v84 0 12)) hE hK hP 0 (by decide) (yG_9 rfl) rfl hin9 12 (by decide) mw_1346 rfl dX9_motifLine_182 ?_
                        refine x_top (y := iI (x84_1)) ex84_1 ?_
                        refine s_if_eq (a := x84_1) (tgt := 189) hE.1 hE.2.1 (by omega) dX9_motifLine_185 (by decide) (fun c85 => ?_) (fun c85 => ?_)
                        · skip
                          refine lv_aload_n hE.1 hE.2.1 dX9_motifLine_189 rfl (lv_at hl 3 rfl) ?_
                          refine x_vv (nn := 0) (As := []) (rest := []) hE hK hN hP hS (s_X9_next l D K ad v84 ar84 al84 hI (w_1) (by omega) ((hq84 0 6 (by decide)).trans ((hfr7 0 6 (by decide)).trans ((hq5 0 6 (by decide)).trans ((hfr3 0 6 (by decide)).trans ew_1)))) (yf7_0) (by omega) ((hq84 0 7 (by decide)).trans eyf7_0)  (by omega)) (x_recv hK hP 0 (by decide) (yG_9 rfl) rfl) rfl mw_1536 mw_1538 mw_50 mw_123 mw_1539 (by decide +kernel) ⟨by decide, by decide⟩ hl.1 rfl (Nat.le_of_ble_eq_true rfl) ⟨Nat.zero_le _, Nat.zero_le _⟩ dX9_motifLine_190 (fun v86 ar86 al86 H locs hq86 hP hS => ?_)
                          obtain ⟨hI, hq86, hqa86, hql86, x86_1, x86_2, hx86, ex86_1, ex86_2⟩ := hq86
                          have hI : YI v86 ar86 := hI
                          refine lv_iload_n hE.1 hE.2.1 dX9_motifLine_193 rfl (lv_at hl 0 rfl) ?_
                          refine lv_iconst (v := iI (4)) hE.1 hE.2.1 dX9_motifLine_194 (by decide) ?_
                          refine s_icmp_eq (a := 3) (b := 4) (tgt := 210) hE.1 hE.2.1 (by omega) (by omega) dX9_motifLine_195 (by decide) (fun c87 => False.elim (by omega)) (fun _ => ?_)
                          refine lv_aload_n hE.1 hE.2.1 dX9_motifLine_198 rfl (lv_at hl 3 rfl) ?_
                          refine x_get (x := .ref (ad 8)) hE hK hP 0 (by decide) (yG_9 rfl) rfl hin9 18 (by decide) mw_1352 rfl dX9_motifLine_199 ?_
                          refine lv_iload_n hE.1 hE.2.1 dX9_motifLine_202 rfl (lv_at hl 1 rfl) ?_
                          refine lv_iload_n hE.1 hE.2.1 dX9_motifLine_203 rfl (lv_at hl 0 rfl) ?_
                          refine lv_iadd hE.1 hE.2.1 dX9_motifLine_204 ?_
                          refine x_top (y := iI (z2 + 3)) ((iI_add (z2) (3)).trans (congrArg iI (by omega))) ?_
                          refine lv_iconst (v := iI (1)) hE.1 hE.2.1 dX9_motifLine_205 (by decide) ?_
                          refine x_iast (j := iI (z2 + 3)) hE hK hN hP hS 8 (by decide) (fun _ => yG_10 rfl) (iI_in (n := 405) (by omega)) dX9_motifLine_206 (fun ar88 H locs ha88 hP hS => ?_)
                          have hI := YI_ast hI ha88 (by decide)
                          refine lv_goto (tgt := 66) hE.1 hE.2.1 dX9_motifLine_207 (by decide) ?_
                          exact ih7 _ (by omega) (3) (x86_1) (x86_2) (x84_1) v86 ar88 al86 _ _ _ rfl (by omega) (by omega) ex86_1 ex86_2 ((hq86 0 12 (by decide)).trans ex84_1) hI (fun i j h => (((hq86 i j (fun q => h (mem_sub (by decide) q))).trans (hq84 i j (fun q => h (mem_sub (by decide) q)))).trans (hfr7 i j h))) (fun i h => (((upx_ne ha88 i (fun q => h (by rw [q]; decide))).trans ((hqa86 i (fun q => h (mem_subn (by decide) q))).trans (hqa84 i (fun q => h (mem_subn (by decide) q))))).trans (hfa7 i h))) (fun i h => (((hql86 i (fun q => h (mem_subn (by decide) q))).trans (hql84 i (fun q => h (mem_subn (by decide) q)))).trans (hfl7 i h))) hP hS (lv_sub hl [0, 1, 2, 3] rfl)
                        · skip
                          exact kr v84 ar84 al84 _ _ _ _ ⟨hI, fun i j h => ((hq84 i j (fun q => h (mem_sub (by decide) q))).trans ((hfr7 i j (fun q => h (mem_sub (by decide) q))).trans ((hq5 i j (fun q => h (mem_sub (by decide) q))).trans (hfr3 i j (fun q => h (mem_sub (by decide) q)))))), fun i h => ((hqa84 i (fun q => h (mem_subn (by decide) q))).trans ((hfa7 i (fun q => h (mem_subn (by decide) q))).trans ((upx_ne ha6 i (fun q => h (by rw [q]; decide))).trans ((hqa5 i (fun q => h (mem_subn (by decide) q))).trans (hfa3 i (fun q => h (mem_subn (by decide) q))))))), fun i h => ((hql84 i (fun q => h (mem_subn (by decide) q))).trans ((hfl7 i (fun q => h (mem_subn (by decide) q))).trans ((hql5 i (fun q => h (mem_subn (by decide) q))).trans (hfl3 i (fun q => h (mem_subn (by decide) q)))))), yf7_0, by omega, ((hq84 0 7 (by decide)).trans eyf7_0)⟩ hP hS dX9_motifLine_188
                  · skip
                    refine lv_iconst (v := iI (2)) hE.1 hE.2.1 dX9_motifLine_105 (by decide) ?_
                    refine lv_goto (tgt := 138) hE.1 hE.2.1 dX9_motifLine_106 (by decide) ?_
                    refine lv_istore_n (lv' := [(3, .int (iI (2))), (2, .int (iI (z2))), (1, .int (iI (z1))), (0, .ref (ad 0))]) hE.1 hE.2.1 dX9_motifLine_138 rfl hl (by decide) rfl (fun ls hl => ?_)
                    refine lv_iload_n hE.1 hE.2.1 dX9_motifLine_139 rfl (lv_at hl 0 rfl) ?_
                    refine lv_iconst (v := iI (-1)) hE.1 hE.2.1 dX9_motifLine_140 (by decide) ?_
                    refine s_icmp_eq (a := 2) (b := -1) (tgt := 176) hE.1 hE.2.1 (by omega) (by omega) dX9_motifLine_141 (by decide) (fun c89 => False.elim (by omega)) (fun _ => ?_)
                    refine lv_iload_n hE.1 hE.2.1 dX9_motifLine_144 rfl (lv_at hl 0 rfl) ?_
                    refine lv_iconst (v := iI (4)) hE.1 hE.2.1 dX9_motifLine_145 (by decide) ?_
                    refine s_icmp_ne (a := 2) (b := 4) (tgt := 164) hE.1 hE.2.1 (by omega) (by omega) dX9_motifLine_146 (by decide) (fun _ => ?_) (fun c90 => False.elim (by omega))
                    refine lv_aload_n hE.1 hE.2.1 dX9_motifLine_164 rfl (lv_at hl 3 rfl) ?_
                    refine x_get (x := .ref (ad 8)) hE hK hP 0 (by decide) (yG_9 rfl) rfl hin9 18 (by decide) mw_1352 rfl dX9_motifLine_165 ?_
                    refine lv_iload_n hE.1 hE.2.1 dX9_motifLine_168 rfl (lv_at hl 1 rfl) ?_
                    refine lv_iload_n hE.1 hE.2.1 dX9_motifLine_169 rfl (lv_at hl 0 rfl) ?_
                    refine lv_iadd hE.1 hE.2.1 dX9_motifLine_170 ?_
                    refine x_top (y := iI (z2 + 2)) ((iI_add (z2) (2)).trans (congrArg iI (by omega))) ?_
                    refine x_iald (j := iI (z2 + 2)) hE hK hP 8 (by decide) (yG_10 rfl) (iI_in (n := 405) (by omega)) dX9_motifLine_171 ?_
                    obtain ⟨z93, hz93, ez93⟩ := iI_of (arl7 8 (iI (z2 + 2)).toNatClampNeg)
                    refine x_top ez93 ?_
                    refine lv_iconst (v := iI (1)) hE.1 hE.2.1 dX9_motifLine_172 (by decide) ?_
                    refine s_icmp_ne (a := z93) (b := 1) (tgt := 181) hE.1 hE.2.1 (by omega) (by omega) dX9_motifLine_173 (by decide) (fun c94 => ?_) (fun c94 => ?_)
                    · skip
                      refine lv_aload_n hE.1 hE.2.1 dX9_motifLine_181 rfl (lv_at hl 3 rfl) ?_
                      refine x_get (x := .int (vl7 0 12)) hE hK hP 0 (by decide) (yG_9 rfl) rfl hin9 12 (by decide) mw_1346 rfl dX9_motifLine_182 ?_
                      refine x_top (y := iI (yf7_2)) eyf7_2 ?_
                      refine s_if_eq (a := yf7_2) (tgt := 189) hE.1 hE.2.1 (by omega) dX9_motifLine_185 (by decide) (fun c95 => ?_) (fun c95 => ?_)
                      · skip
                        refine lv_aload_n hE.1 hE.2.1 dX9_motifLine_189 rfl (lv_at hl 3 rfl) ?_
                        refine x_vv (nn := 0) (As := []) (rest := []) hE hK hN hP hS (s_X9_next l D K ad vl7 arl7 all7 hI (w_1) (by omega) ((hfr7 0 6 (by decide)).trans ((hq5 0 6 (by decide)).trans ((hfr3 0 6 (by decide)).trans ew_1))) (yf7_0) (by omega) eyf7_0  (by omega)) (x_recv hK hP 0 (by decide) (yG_9 rfl) rfl) rfl mw_1536 mw_1538 mw_50 mw_123 mw_1539 (by decide +kernel) ⟨by decide, by decide⟩ hl.1 rfl (Nat.le_of_ble_eq_true rfl) ⟨Nat.zero_le _, Nat.zero_le _⟩ dX9_motifLine_190 (fun v96 ar96 al96 H locs hq96 hP hS => ?_)
                        obtain ⟨hI, hq96, hqa96, hql96, x96_1, x96_2, hx96, ex96_1, ex96_2⟩ := hq96
                        have hI : YI v96 ar96 := hI
                        refine lv_iload_n hE.1 hE.2.1 dX9_motifLine_193 rfl (lv_at hl 0 rfl) ?_
                        refine lv_iconst (v := iI (4)) hE.1 hE.2.1 dX9_motifLine_194 (by decide) ?_
                        refine s_icmp_eq (a := 2) (b := 4) (tgt := 210) hE.1 hE.2.1 (by omega) (by omega) dX9_motifLine_195 (by decide) (fun c97 => False.elim (by omega)) (fun _ => ?_)
                        refine lv_aload_n hE.1 hE.2.1 dX9_motifLine_198 rfl (lv_at hl 3 rfl) ?_
                        refine x_get (x := .ref (ad 8)) hE hK hP 0 (by decide) (yG_9 rfl) rfl hin9 18 (by decide) mw_1352 rfl dX9_motifLine_199 ?_
                        refine lv_iload_n hE.1 hE.2.1 dX9_motifLine_202 rfl (lv_at hl 1 rfl) ?_
                        refine lv_iload_n hE.1 hE.2.1 dX9_motifLine_203 rfl (lv_at hl 0 rfl) ?_
                        refine lv_iadd hE.1 hE.2.1 dX9_motifLine_204 ?_
                        refine x_top (y := iI (z2 + 2)) ((iI_add (z2) (2)).trans (congrArg iI (by omega))) ?_
                        refine lv_iconst (v := iI (1)) hE.1 hE.2.1 dX9_motifLine_205 (by decide) ?_
                        refine x_iast (j := iI (z2 + 2)) hE hK hN hP hS 8 (by decide) (fun _ => yG_10 rfl) (iI_in (n := 405) (by omega)) dX9_motifLine_206 (fun ar98 H locs ha98 hP hS => ?_)
                        have hI := YI_ast hI ha98 (by decide)
                        refine lv_goto (tgt := 66) hE.1 hE.2.1 dX9_motifLine_207 (by decide) ?_
                        exact ih7 _ (by omega) (2) (x96_1) (x96_2) (yf7_2) v96 ar98 al96 _ _ _ rfl (by omega) (by omega) ex96_1 ex96_2 ((hq96 0 12 (by decide)).trans eyf7_2) hI (fun i j h => ((hq96 i j (fun q => h (mem_sub (by decide) q))).trans (hfr7 i j h))) (fun i h => (((upx_ne ha98 i (fun q => h (by rw [q]; decide))).trans (hqa96 i (fun q => h (mem_subn (by decide) q)))).trans (hfa7 i h))) (fun i h => ((hql96 i (fun q => h (mem_subn (by decide) q))).trans (hfl7 i h))) hP hS (lv_sub hl [0, 1, 2, 3] rfl)
                      · skip
                        exact kr vl7 arl7 all7 _ _ _ _ ⟨hI, fun i j h => ((hfr7 i j (fun q => h (mem_sub (by decide) q))).trans ((hq5 i j (fun q => h (mem_sub (by decide) q))).trans (hfr3 i j (fun q => h (mem_sub (by decide) q))))), fun i h => ((hfa7 i (fun q => h (mem_subn (by decide) q))).trans ((upx_ne ha6 i (fun q => h (by rw [q]; decide))).trans ((hqa5 i (fun q => h (mem_subn (by decide) q))).trans (hfa3 i (fun q => h (mem_subn (by decide) q)))))), fun i h => ((hfl7 i (fun q => h (mem_subn (by decide) q))).trans ((hql5 i (fun q => h (mem_subn (by decide) q))).trans (hfl3 i (fun q => h (mem_subn (by decide) q))))), yf7_0, by omega, eyf7_0⟩ hP hS dX9_motifLine_188
                    · skip
                      refine lv_aload_n hE.1 hE.2.1 dX9_motifLine_176 rfl (lv_at hl 3 rfl) ?_
                      refine lv_iconst (v := iI (1)) hE.1 hE.2.1 dX9_motifLine_177 (by decide) ?_
                      refine x_vv (nn := 1) (As := [.int (iI (1))]) (rest := []) hE hK hN hP hS (s_X9_fails l D K ad vl7 arl7 all7 hI  (1) (by omega)) (x_recv hK hP 0 (by decide) (yG_9 rfl) rfl) rfl mw_1566 mw_1568 mw_56 mw_123 mw_1569 (by decide +kernel) ⟨by decide, by decide⟩ hl.1 rfl (Nat.le_of_ble_eq_true rfl) ⟨Nat.zero_le _, Nat.zero_le _⟩ dX9_motifLine_178 (fun v99 ar99 al99 H locs hq99 hP hS => ?_)
                      obtain ⟨hI, hq99, hqa99, hql99, x99_1, hx99, ex99_1⟩ := hq99
                      have hI : YI v99 ar99 := hI
                      refine lv_aload_n hE.1 hE.2.1 dX9_motifLine_181 rfl (lv_at hl 3 rfl) ?_
                      refine x_get (x := .int (v99 0 12)) hE hK hP 0 (by decide) (yG_9 rfl) rfl hin9 12 (by decide) mw_1346 rfl dX9_motifLine_182 ?_
                      refine x_top (y := iI (x99_1)) ex99_1 ?_
                      refine s_if_eq (a := x99_1) (tgt := 189) hE.1 hE.2.1 (by omega) dX9_motifLine_185 (by decide) (fun c100 => ?_) (fun c100 => ?_)
                      · skip
                        refine lv_aload_n hE.1 hE.2.1 dX9_motifLine_189 rfl (lv_at hl 3 rfl) ?_
                        refine x_vv (nn := 0) (As := []) (rest := []) hE hK hN hP hS (s_X9_next l D K ad v99 ar99 al99 hI (w_1) (by omega) ((hq99 0 6 (by decide)).trans ((hfr7 0 6 (by decide)).trans ((hq5 0 6 (by decide)).trans ((hfr3 0 6 (by decide)).trans ew_1)))) (yf7_0) (by omega) ((hq99 0 7 (by decide)).trans eyf7_0)  (by omega)) (x_recv hK hP 0 (by decide) (yG_9 rfl) rfl) rfl mw_1536 mw_1538 mw_50 mw_123 mw_1539 (by decide +kernel) ⟨by decide, by decide⟩ hl.1 rfl (Nat.le_of_ble_eq_true rfl) ⟨Nat.zero_le _, Nat.zero_le _⟩ dX9_motifLine_190 (fun v101 ar101 al101 H locs hq101 hP hS => ?_)
                        obtain ⟨hI, hq101, hqa101, hql101, x101_1, x101_2, hx101, ex101_1, ex101_2⟩ := hq101
                        have hI : YI v101 ar101 := hI
                        refine lv_iload_n hE.1 hE.2.1 dX9_motifLine_193 rfl (lv_at hl 0 rfl) ?_
                        refine lv_iconst (v := iI (4)) hE.1 hE.2.1 dX9_motifLine_194 (by decide) ?_
                        refine s_icmp_eq (a := 2) (b := 4) (tgt := 210) hE.1 hE.2.1 (by omega) (by omega) dX9_motifLine_195 (by decide) (fun c102 => False.elim (by omega)) (fun _ => ?_)
                        refine lv_aload_n hE.1 hE.2.1 dX9_motifLine_198 rfl (lv_at hl 3 rfl) ?_
                        refine x_get (x := .ref (ad 8)) hE hK hP 0 (by decide) (yG_9 rfl) rfl hin9 18 (by decide) mw_1352 rfl dX9_motifLine_199 ?_
                        refine lv_iload_n hE.1 hE.2.1 dX9_motifLine_202 rfl (lv_at hl 1 rfl) ?_
                        refine lv_iload_n hE.1 hE.2.1 dX9_motifLine_203 rfl (lv_at hl 0 rfl) ?_
                        refine lv_iadd hE.1 hE.2.1 dX9_motifLine_204 ?_
                        refine x_top (y := iI (z2 + 2)) ((iI_add (z2) (2)).trans (congrArg iI (by omega))) ?_
                        refine lv_iconst (v := iI (1)) hE.1 hE.2.1 dX9_motifLine_205 (by decide) ?_
                        refine x_iast (j := iI (z2 + 2)) hE hK hN hP hS 8 (by decide) (fun _ => yG_10 rfl) (iI_in (n := 405) (by omega)) dX9_motifLine_206 (fun ar103 H locs ha103 hP hS => ?_)
                        have hI := YI_ast hI ha103 (by decide)
                        refine lv_goto (tgt := 66) hE.1 hE.2.1 dX9_motifLine_207 (by decide) ?_
                        exact ih7 _ (by omega) (2) (x101_1) (x101_2) (x99_1) v101 ar103 al101 _ _ _ rfl (by omega) (by omega) ex101_1 ex101_2 ((hq101 0 12 (by decide)).trans ex99_1) hI (fun i j h => (((hq101 i j (fun q => h (mem_sub (by decide) q))).trans (hq99 i j (fun q => h (mem_sub (by decide) q)))).trans (hfr7 i j h))) (fun i h => (((upx_ne ha103 i (fun q => h (by rw [q]; decide))).trans ((hqa101 i (fun q => h (mem_subn (by decide) q))).trans (hqa99 i (fun q => h (mem_subn (by decide) q))))).trans (hfa7 i h))) (fun i h => (((hql101 i (fun q => h (mem_subn (by decide) q))).trans (hql99 i (fun q => h (mem_subn (by decide) q)))).trans (hfl7 i h))) hP hS (lv_sub hl [0, 1, 2, 3] rfl)
                      · skip
                        exact kr v99 ar99 al99 _ _ _ _ ⟨hI, fun i j h => ((hq99 i j (fun q => h (mem_sub (by decide) q))).trans ((hfr7 i j (fun q => h (mem_sub (by decide) q))).trans ((hq5 i j (fun q => h (mem_sub (by decide) q))).trans (hfr3 i j (fun q => h (mem_sub (by decide) q)))))), fun i h => ((hqa99 i (fun q => h (mem_subn (by decide) q))).trans ((hfa7 i (fun q => h (mem_subn (by decide) q))).trans ((upx_ne ha6 i (fun q => h (by rw [q]; decide))).trans ((hqa5 i (fun q => h (mem_subn (by decide) q))).trans (hfa3 i (fun q => h (mem_subn (by decide) q))))))), fun i h => ((hql99 i (fun q => h (mem_subn (by decide) q))).trans ((hfl7 i (fun q => h (mem_subn (by decide) q))).trans ((hql5 i (fun q => h (mem_subn (by decide) q))).trans (hfl3 i (fun q => h (mem_subn (by decide) q)))))), yf7_0, by omega, ((hq99 0 7 (by decide)).trans eyf7_0)⟩ hP hS dX9_motifLine_188
                · skip
                  refine lv_iconst (v := iI (1)) hE.1 hE.2.1 dX9_motifLine_91 (by decide) ?_
                  refine lv_goto (tgt := 138) hE.1 hE.2.1 dX9_motifLine_92 (by decide) ?_
                  refine lv_istore_n (lv' := [(3, .int (iI (1))), (2, .int (iI (z2))), (1, .int (iI (z1))), (0, .ref (ad 0))]) hE.1 hE.2.1 dX9_motifLine_138 rfl hl (by decide) rfl (fun ls hl => ?_)
                  refine lv_iload_n hE.1 hE.2.1 dX9_motifLine_139 rfl (lv_at hl 0 rfl) ?_
                  refine lv_iconst (v := iI (-1)) hE.1 hE.2.1 dX9_motifLine_140 (by decide) ?_
                  refine s_icmp_eq (a := 1) (b := -1) (tgt := 176) hE.1 hE.2.1 (by omega) (by omega) dX9_motifLine_141 (by decide) (fun c104 => False.elim (by omega)) (fun _ => ?_)
                  refine lv_iload_n hE.1 hE.2.1 dX9_motifLine_144 rfl (lv_at hl 0 rfl) ?_
                  refine lv_iconst (v := iI (4)) hE.1 hE.2.1 dX9_motifLine_145 (by decide) ?_
                  refine s_icmp_ne (a := 1) (b := 4) (tgt := 164) hE.1 hE.2.1 (by omega) (by omega) dX9_motifLine_146 (by decide) (fun _ => ?_) (fun c105 => False.elim (by omega))
                  refine lv_aload_n hE.1 hE.2.1 dX9_motifLine_164 rfl (lv_at hl 3 rfl) ?_
                  refine x_get (x := .ref (ad 8)) hE hK hP 0 (by decide) (yG_9 rfl) rfl hin9 18 (by decide) mw_1352 rfl dX9_motifLine_165 ?_
                  refine lv_iload_n hE.1 hE.2.1 dX9_motifLine_168 rfl (lv_at hl 1 rfl) ?_
                  refine lv_iload_n hE.1 hE.2.1 dX9_motifLine_169 rfl (lv_at hl 0 rfl) ?_
                  refine lv_iadd hE.1 hE.2.1 dX9_motifLine_170 ?_
                  refine x_top (y := iI (z2 + 1)) ((iI_add (z2) (1)).trans (congrArg iI (by omega))) ?_
                  refine x_iald (j := iI (z2 + 1)) hE hK hP 8 (by decide) (yG_10 rfl) (iI_in (n := 405) (by omega)) dX9_motifLine_171 ?_
                  obtain ⟨z108, hz108, ez108⟩ := iI_of (arl7 8 (iI (z2 + 1)).toNatClampNeg)
                  refine x_top ez108 ?_
                  refine lv_iconst (v := iI (1)) hE.1 hE.2.1 dX9_motifLine_172 (by decide) ?_
                  refine s_icmp_ne (a := z108) (b := 1) (tgt := 181) hE.1 hE.2.1 (by omega) (by omega) dX9_motifLine_173 (by decide) (fun c109 => ?_) (fun c109 => ?_)
                  · skip
                    refine lv_aload_n hE.1 hE.2.1 dX9_motifLine_181 rfl (lv_at hl 3 rfl) ?_
                    refine x_get (x := .int (vl7 0 12)) hE hK hP 0 (by decide) (yG_9 rfl) rfl hin9 12 (by decide) mw_1346 rfl dX9_motifLine_182 ?_
                    refine x_top (y := iI (yf7_2)) eyf7_2 ?_
                    refine s_if_eq (a := yf7_2) (tgt := 189) hE.1 hE.2.1 (by omega) dX9_motifLine_185 (by decide) (fun c110 => ?_) (fun c110 => ?_)
                    · skip
                      refine lv_aload_n hE.1 hE.2.1 dX9_motifLine_189 rfl (lv_at hl 3 rfl) ?_
                      refine x_vv (nn := 0) (As := []) (rest := []) hE hK hN hP hS (s_X9_next l D K ad vl7 arl7 all7 hI (w_1) (by omega) ((hfr7 0 6 (by decide)).trans ((hq5 0 6 (by decide)).trans ((hfr3 0 6 (by decide)).trans ew_1))) (yf7_0) (by omega) eyf7_0  (by omega)) (x_recv hK hP 0 (by decide) (yG_9 rfl) rfl) rfl mw_1536 mw_1538 mw_50 mw_123 mw_1539 (by decide +kernel) ⟨by decide, by decide⟩ hl.1 rfl (Nat.le_of_ble_eq_true rfl) ⟨Nat.zero_le _, Nat.zero_le _⟩ dX9_motifLine_190 (fun v111 ar111 al111 H locs hq111 hP hS => ?_)
                      obtain ⟨hI, hq111, hqa111, hql111, x111_1, x111_2, hx111, ex111_1, ex111_2⟩ := hq111
                      have hI : YI v111 ar111 := hI
                      refine lv_iload_n hE.1 hE.2.1 dX9_motifLine_193 rfl (lv_at hl 0 rfl) ?_
                      refine lv_iconst (v := iI (4)) hE.1 hE.2.1 dX9_motifLine_194 (by decide) ?_
                      refine s_icmp_eq (a := 1) (b := 4) (tgt := 210) hE.1 hE.2.1 (by omega) (by omega) dX9_motifLine_195 (by decide) (fun c112 => False.elim (by omega)) (fun _ => ?_)
                      refine lv_aload_n hE.1 hE.2.1 dX9_motifLine_198 rfl (lv_at hl 3 rfl) ?_
                      refine x_get (x := .ref (ad 8)) hE hK hP 0 (by decide) (yG_9 rfl) rfl hin9 18 (by decide) mw_1352 rfl dX9_motifLine_199 ?_
                      refine lv_iload_n hE.1 hE.2.1 dX9_motifLine_202 rfl (lv_at hl 1 rfl) ?_
                      refine lv_iload_n hE.1 hE.2.1 dX9_motifLine_203 rfl (lv_at hl 0 rfl) ?_
                      refine lv_iadd hE.1 hE.2.1 dX9_motifLine_204 ?_
                      refine x_top (y := iI (z2 + 1)) ((iI_add (z2) (1)).trans (congrArg iI (by omega))) ?_
                      refine lv_iconst (v := iI (1)) hE.1 hE.2.1 dX9_motifLine_205 (by decide) ?_
                      refine x_iast (j := iI (z2 + 1)) hE hK hN hP hS 8 (by decide) (fun _ => yG_10 rfl) (iI_in (n := 405) (by omega)) dX9_motifLine_206 (fun ar113 H locs ha113 hP hS => ?_)
                      have hI := YI_ast hI ha113 (by decide)
                      refine lv_goto (tgt := 66) hE.1 hE.2.1 dX9_motifLine_207 (by decide) ?_
                      exact ih7 _ (by omega) (1) (x111_1) (x111_2) (yf7_2) v111 ar113 al111 _ _ _ rfl (by omega) (by omega) ex111_1 ex111_2 ((hq111 0 12 (by decide)).trans eyf7_2) hI (fun i j h => ((hq111 i j (fun q => h (mem_sub (by decide) q))).trans (hfr7 i j h))) (fun i h => (((upx_ne ha113 i (fun q => h (by rw [q]; decide))).trans (hqa111 i (fun q => h (mem_subn (by decide) q)))).trans (hfa7 i h))) (fun i h => ((hql111 i (fun q => h (mem_subn (by decide) q))).trans (hfl7 i h))) hP hS (lv_sub hl [0, 1, 2, 3] rfl)
                    · skip
                      exact kr vl7 arl7 all7 _ _ _ _ ⟨hI, fun i j h => ((hfr7 i j (fun q => h (mem_sub (by decide) q))).trans ((hq5 i j (fun q => h (mem_sub (by decide) q))).trans (hfr3 i j (fun q => h (mem_sub (by decide) q))))), fun i h => ((hfa7 i (fun q => h (mem_subn (by decide) q))).trans ((upx_ne ha6 i (fun q => h (by rw [q]; decide))).trans ((hqa5 i (fun q => h (mem_subn (by decide) q))).trans (hfa3 i (fun q => h (mem_subn (by decide) q)))))), fun i h => ((hfl7 i (fun q => h (mem_subn (by decide) q))).trans ((hql5 i (fun q => h (mem_subn (by decide) q))).trans (hfl3 i (fun q => h (mem_subn (by decide) q))))), yf7_0, by omega, eyf7_0⟩ hP hS dX9_motifLine_188
                  · skip
                    refine lv_aload_n hE.1 hE.2.1 dX9_motifLine_176 rfl (lv_at hl 3 rfl) ?_
                    refine lv_iconst (v := iI (1)) hE.1 hE.2.1 dX9_motifLine_177 (by decide) ?_
                    refine x_vv (nn := 1) (As := [.int (iI (1))]) (rest := []) hE hK hN hP hS (s_X9_fails l D K ad vl7 arl7 all7 hI  (1) (by omega)) (x_recv hK hP 0 (by decide) (yG_9 rfl) rfl) rfl mw_1566 mw_1568 mw_56 mw_123 mw_1569 (by decide +kernel) ⟨by decide, by decide⟩ hl.1 rfl (Nat.le_of_ble_eq_true rfl) ⟨Nat.zero_le _, Nat.zero_le _⟩ dX9_motifLine_178 (fun v114 ar114 al114 H locs hq114 hP hS => ?_)
                    obtain ⟨hI, hq114, hqa114, hql114, x114_1, hx114, ex114_1⟩ := hq114
                    have hI : YI v114 ar114 := hI
                    refine lv_aload_n hE.1 hE.2.1 dX9_motifLine_181 rfl (lv_at hl 3 rfl) ?_
                    refine x_get (x := .int (v114 0 12)) hE hK hP 0 (by decide) (yG_9 rfl) rfl hin9 12 (by decide) mw_1346 rfl dX9_motifLine_182 ?_
                    refine x_top (y := iI (x114_1)) ex114_1 ?_
                    refine s_if_eq (a := x114_1) (tgt := 189) hE.1 hE.2.1 (by omega) dX9_motifLine_185 (by decide) (fun c115 => ?_) (fun c115 => ?_)
                    · skip
                      refine lv_aload_n hE.1 hE.2.1 dX9_motifLine_189 rfl (lv_at hl 3 rfl) ?_
                      refine x_vv (nn := 0) (As := []) (rest := []) hE hK hN hP hS (s_X9_next l D K ad v114 ar114 al114 hI (w_1) (by omega) ((hq114 0 6 (by decide)).trans ((hfr7 0 6 (by decide)).trans ((hq5 0 6 (by decide)).trans ((hfr3 0 6 (by decide)).trans ew_1)))) (yf7_0) (by omega) ((hq114 0 7 (by decide)).trans eyf7_0)  (by omega)) (x_recv hK hP 0 (by decide) (yG_9 rfl) rfl) rfl mw_1536 mw_1538 mw_50 mw_123 mw_1539 (by decide +kernel) ⟨by decide, by decide⟩ hl.1 rfl (Nat.le_of_ble_eq_true rfl) ⟨Nat.zero_le _, Nat.zero_le _⟩ dX9_motifLine_190 (fun v116 ar116 al116 H locs hq116 hP hS => ?_)
                      obtain ⟨hI, hq116, hqa116, hql116, x116_1, x116_2, hx116, ex116_1, ex116_2⟩ := hq116
                      have hI : YI v116 ar116 := hI
                      refine lv_iload_n hE.1 hE.2.1 dX9_motifLine_193 rfl (lv_at hl 0 rfl) ?_
                      refine lv_iconst (v := iI (4)) hE.1 hE.2.1 dX9_motifLine_194 (by decide) ?_
                      refine s_icmp_eq (a := 1) (b := 4) (tgt := 210) hE.1 hE.2.1 (by omega) (by omega) dX9_motifLine_195 (by decide) (fun c117 => False.elim (by omega)) (fun _ => ?_)
                      refine lv_aload_n hE.1 hE.2.1 dX9_motifLine_198 rfl (lv_at hl 3 rfl) ?_
                      refine x_get (x := .ref (ad 8)) hE hK hP 0 (by decide) (yG_9 rfl) rfl hin9 18 (by decide) mw_1352 rfl dX9_motifLine_199 ?_
                      refine lv_iload_n hE.1 hE.2.1 dX9_motifLine_202 rfl (lv_at hl 1 rfl) ?_
                      refine lv_iload_n hE.1 hE.2.1 dX9_motifLine_203 rfl (lv_at hl 0 rfl) ?_
                      refine lv_iadd hE.1 hE.2.1 dX9_motifLine_204 ?_
                      refine x_top (y := iI (z2 + 1)) ((iI_add (z2) (1)).trans (congrArg iI (by omega))) ?_
                      refine lv_iconst (v := iI (1)) hE.1 hE.2.1 dX9_motifLine_205 (by decide) ?_
                      refine x_iast (j := iI (z2 + 1)) hE hK hN hP hS 8 (by decide) (fun _ => yG_10 rfl) (iI_in (n := 405) (by omega)) dX9_motifLine_206 (fun ar118 H locs ha118 hP hS => ?_)
                      have hI := YI_ast hI ha118 (by decide)
                      refine lv_goto (tgt := 66) hE.1 hE.2.1 dX9_motifLine_207 (by decide) ?_
                      exact ih7 _ (by omega) (1) (x116_1) (x116_2) (x114_1) v116 ar118 al116 _ _ _ rfl (by omega) (by omega) ex116_1 ex116_2 ((hq116 0 12 (by decide)).trans ex114_1) hI (fun i j h => (((hq116 i j (fun q => h (mem_sub (by decide) q))).trans (hq114 i j (fun q => h (mem_sub (by decide) q)))).trans (hfr7 i j h))) (fun i h => (((upx_ne ha118 i (fun q => h (by rw [q]; decide))).trans ((hqa116 i (fun q => h (mem_subn (by decide) q))).trans (hqa114 i (fun q => h (mem_subn (by decide) q))))).trans (hfa7 i h))) (fun i h => (((hql116 i (fun q => h (mem_subn (by decide) q))).trans (hql114 i (fun q => h (mem_subn (by decide) q)))).trans (hfl7 i h))) hP hS (lv_sub hl [0, 1, 2, 3] rfl)
                    · skip
                      exact kr v114 ar114 al114 _ _ _ _ ⟨hI, fun i j h => ((hq114 i j (fun q => h (mem_sub (by decide) q))).trans ((hfr7 i j (fun q => h (mem_sub (by decide) q))).trans ((hq5 i j (fun q => h (mem_sub (by decide) q))).trans (hfr3 i j (fun q => h (mem_sub (by decide) q)))))), fun i h => ((hqa114 i (fun q => h (mem_subn (by decide) q))).trans ((hfa7 i (fun q => h (mem_subn (by decide) q))).trans ((upx_ne ha6 i (fun q => h (by rw [q]; decide))).trans ((hqa5 i (fun q => h (mem_subn (by decide) q))).trans (hfa3 i (fun q => h (mem_subn (by decide) q))))))), fun i h => ((hql114 i (fun q => h (mem_subn (by decide) q))).trans ((hfl7 i (fun q => h (mem_subn (by decide) q))).trans ((hql5 i (fun q => h (mem_subn (by decide) q))).trans (hfl3 i (fun q => h (mem_subn (by decide) q)))))), yf7_0, by omega, ((hq114 0 7 (by decide)).trans eyf7_0)⟩ hP hS dX9_motifLine_188
        exact loop7 _ (y3_3) (x5_1) (x5_2) (x5_3) v5 ar6 al5 _ _ _ rfl (by omega) (by omega) ex5_1 ex5_2 ex5_3 hI (fun _ _ _ => rfl) (fun _ _ => rfl) (fun _ _ => rfl) hP hS hl
      · skip
        refine lv_aload_n hE.1 hE.2.1 dX9_motifLine_20 rfl (lv_at hl 3 rfl) ?_
        refine x_get (x := .ref (ad 8)) hE hK hP 0 (by decide) (yG_9 rfl) rfl hin9 18 (by decide) mw_1352 rfl dX9_motifLine_21 ?_
        refine lv_iload_n hE.1 hE.2.1 dX9_motifLine_24 rfl (lv_at hl 1 rfl) ?_
        refine lv_iload_n hE.1 hE.2.1 dX9_motifLine_25 rfl (lv_at hl 0 rfl) ?_
        refine lv_iadd hE.1 hE.2.1 dX9_motifLine_26 ?_
        refine x_top (y := iI (y3_3 + z2)) ((iI_add (z2) (y3_3)).trans (congrArg iI (by omega))) ?_
        refine lv_iload_n hE.1 hE.2.1 dX9_motifLine_27 rfl (lv_at hl 0 rfl) ?_
        refine lv_iconst (v := iI (4)) hE.1 hE.2.1 dX9_motifLine_28 (by decide) ?_
        refine s_icmp_eq (a := y3_3) (b := 4) (tgt := 38) hE.1 hE.2.1 (by omega) (by omega) dX9_motifLine_29 (by decide) (fun c119 => ?_) (fun c119 => ?_)
        · skip
          refine lv_iconst (v := iI (-1)) hE.1 hE.2.1 dX9_motifLine_38 (by decide) ?_
          refine lv_goto (tgt := 43) hE.1 hE.2.1 dX9_motifLine_39 (by decide) ?_
          refine x_iast (j := iI (y3_3 + z2)) hE hK hN hP hS 8 (by decide) (fun _ => yG_10 rfl) (iI_in (n := 405) (by omega)) dX9_motifLine_43 (fun ar120 H locs ha120 hP hS => ?_)
          have hI := YI_ast hI ha120 (by decide)
          refine lv_iinc (v := iI (y3_3 + 1)) (lv' := [(3, .int (iI (y3_3 + 1))), (2, .int (iI (z2))), (1, .int (iI (z1))), (0, .ref (ad 0))]) hE.1 hE.2.1 dX9_motifLine_44 hl (k := 0) rfl ((iI_add (y3_3) (1)).trans (congrArg iI (by omega))) (by decide) rfl (fun ls hl => ?_)
          refine lv_goto (tgt := 14) hE.1 hE.2.1 dX9_motifLine_47 (by decide) ?_
          exact ih3 _ (by omega) (y3_3 + 1)  vl3 ar120 all3 _ _ _ rfl (by omega)  hI (fun i j h => (hfr3 i j h)) (fun i h => ((upx_ne ha120 i (fun q => h (by rw [q]; decide))).trans (hfa3 i h))) (fun i h => (hfl3 i h)) hP hS (lv_sub hl [0, 1, 2, 3] rfl)
        · skip
          refine lv_iload_n hE.1 hE.2.1 dX9_motifLine_32 rfl (lv_at hl 0 rfl) ?_
          refine lv_bipush (v := iI (6)) hE.1 hE.2.1 dX9_motifLine_33 (by decide) ?_
          refine s_icmp_ne (a := y3_3) (b := 6) (tgt := 42) hE.1 hE.2.1 (by omega) (by omega) dX9_motifLine_35 (by decide) (fun c121 => ?_) (fun c121 => ?_)
          · skip
            refine lv_iconst (v := iI (0)) hE.1 hE.2.1 dX9_motifLine_42 (by decide) ?_
            refine x_iast (j := iI (y3_3 + z2)) hE hK hN hP hS 8 (by decide) (fun _ => yG_10 rfl) (iI_in (n := 405) (by omega)) dX9_motifLine_43 (fun ar122 H locs ha122 hP hS => ?_)
            have hI := YI_ast hI ha122 (by decide)
            refine lv_iinc (v := iI (y3_3 + 1)) (lv' := [(3, .int (iI (y3_3 + 1))), (2, .int (iI (z2))), (1, .int (iI (z1))), (0, .ref (ad 0))]) hE.1 hE.2.1 dX9_motifLine_44 hl (k := 0) rfl ((iI_add (y3_3) (1)).trans (congrArg iI (by omega))) (by decide) rfl (fun ls hl => ?_)
            refine lv_goto (tgt := 14) hE.1 hE.2.1 dX9_motifLine_47 (by decide) ?_
            exact ih3 _ (by omega) (y3_3 + 1)  vl3 ar122 all3 _ _ _ rfl (by omega)  hI (fun i j h => (hfr3 i j h)) (fun i h => ((upx_ne ha122 i (fun q => h (by rw [q]; decide))).trans (hfa3 i h))) (fun i h => (hfl3 i h)) hP hS (lv_sub hl [0, 1, 2, 3] rfl)
          · skip
            refine lv_iconst (v := iI (-1)) hE.1 hE.2.1 dX9_motifLine_38 (by decide) ?_
            refine lv_goto (tgt := 43) hE.1 hE.2.1 dX9_motifLine_39 (by decide) ?_
            refine x_iast (j := iI (y3_3 + z2)) hE hK hN hP hS 8 (by decide) (fun _ => yG_10 rfl) (iI_in (n := 405) (by omega)) dX9_motifLine_43 (fun ar123 H locs ha123 hP hS => ?_)
            have hI := YI_ast hI ha123 (by decide)
            refine lv_iinc (v := iI (y3_3 + 1)) (lv' := [(3, .int (iI (y3_3 + 1))), (2, .int (iI (z2))), (1, .int (iI (z1))), (0, .ref (ad 0))]) hE.1 hE.2.1 dX9_motifLine_44 hl (k := 0) rfl ((iI_add (y3_3) (1)).trans (congrArg iI (by omega))) (by decide) rfl (fun ls hl => ?_)
            refine lv_goto (tgt := 14) hE.1 hE.2.1 dX9_motifLine_47 (by decide) ?_
            exact ih3 _ (by omega) (y3_3 + 1)  vl3 ar123 all3 _ _ _ rfl (by omega)  hI (fun i j h => (hfr3 i j h)) (fun i h => ((upx_ne ha123 i (fun q => h (by rw [q]; decide))).trans (hfa3 i h))) (fun i h => (hfl3 i h)) hP hS (lv_sub hl [0, 1, 2, 3] rfl)
  exact loop3 _ (0)  v ar al _ _ _ rfl (by omega)  hI (fun _ _ _ => rfl) (fun _ _ => rfl) (fun _ _ => rfl) hP hS hl

set_option maxHeartbeats 4000000 in
set_option maxRecDepth 100000 in
theorem s_X9_hasRead_c0_3 (l : Launch) (D : va_G) (K : Nat → ClassId) (ad : Nat → Nat) (v ar : sI) (al : sL) (hI : YI v ar) (w_1 : Int) (hw_1 : 0 ≤ w_1 ∧ w_1 ≤ 8) (ew_1 : ar 7 27 = iI w_1) : Met l yX9_hasRead (wM yX9_hasRead cX9_hasRead 2 (some .int)) (rmD 0) (va_Pc [.ref (ad 0), .int (iI (3))] (wPre D K ad (yG ad K) 21 v ar al)) (vp_Si (fun r => ∃ z : Int, (z = w_1) ∧ r = iI z)) 0 0 (fun _ => False) := by
  refine s_metP (by decide) (Nat.le_of_ble_eq_true rfl) ?_
  intro p e s m below meth c ls args Q hE hB hl kr
  have hE : CallFix p m c cX9_hasRead 2 s args tbG "TaleCourtModel" := hE
  obtain ⟨hP, hK, hN⟩ := hB
  have hl : lv_has ls 2 [(0, .ref (ad 0)), (1, .int (iI (3)))] := hl
  refine lv_aload_n hE.1 hE.2.1 dX9_hasRead_0 rfl (lv_at hl 0 rfl) ?_
  refine x_get (x := .ref (ad 7)) hE hK hP 0 (by decide) (yG_9 rfl) rfl hin9 17 (by decide) mw_1351 rfl dX9_hasRead_1 ?_
  refine lv_bipush (v := iI (24)) hE.1 hE.2.1 dX9_hasRead_4 (by decide) ?_
  refine lv_iload_n hE.1 hE.2.1 dX9_hasRead_6 rfl (lv_at hl 1 rfl) ?_
  refine lv_iadd hE.1 hE.2.1 dX9_hasRead_7 ?_
  refine x_top (y := iI (27)) ((iI_add (24) (3)).trans (congrArg iI (by omega))) ?_
  refine x_iald (j := iI (27)) hE hK hP 7 (by decide) (yG_10 rfl) (iI_in (n := 30) (by omega)) dX9_hasRead_8 ?_
  refine x_top (y := iI (w_1)) (by rw [show (iI (27)).toNatClampNeg = 27 from by decide]; exact ew_1) ?_
  exact kr _ _ _ rfl ⟨w_1, by omega, rfl⟩ dX9_hasRead_9

theorem dX9_motifHere_0 : decode cX9_motifHere 0 = .ok (.aload_n 0, 1) := by decide +kernel
theorem dX9_motifHere_1 : decode cX9_motifHere 1 = .ok (.iconst 0, 1) := by decide +kernel
theorem dX9_motifHere_2 : decode cX9_motifHere 2 = .ok (.aload_n 0, 1) := by decide +kernel
theorem dX9_motifHere_3 : decode cX9_motifHere 3 = .ok (.iconst 2, 1) := by decide +kernel
theorem dX9_motifHere_4 : decode cX9_motifHere 4 = .ok (.invokevirtual 163, 3) := by decide +kernel
theorem dX9_motifHere_7 : decode cX9_motifHere 7 = .ok (.iconst 1, 1) := by decide +kernel
theorem dX9_motifHere_8 : decode cX9_motifHere 8 = .ok (.isub, 1) := by decide +kernel
theorem dX9_motifHere_9 : decode cX9_motifHere 9 = .ok (.invokevirtual 156, 3) := by decide +kernel
theorem dX9_motifHere_12 : decode cX9_motifHere 12 = .ok (.ireturn, 1) := by decide +kernel
set_option maxHeartbeats 4000000 in
set_option maxRecDepth 100000 in
theorem s_X9_motifHere (l : Launch) (D : va_G) (K : Nat → ClassId) (ad : Nat → Nat) (v ar : sI) (al : sL) (hI : YI v ar) (w_1 : Int) (hw_1 : 0 ≤ w_1 ∧ w_1 ≤ 1600) (ew_1 : v 0 6 = iI w_1) (w_2 : Int) (hw_2 : 0 ≤ w_2 ∧ w_2 ≤ 1600) (ew_2 : v 0 7 = iI w_2) (w_3 : Int) (hw_3 : 0 ≤ w_3 ∧ w_3 ≤ 9) (ew_3 : ar 7 26 = iI w_3) (hyp : w_2 ≤ w_1) : Met l yX9_motifHere (wM yX9_motifHere cX9_motifHere 1 (some .int)) (rmD 3) (va_Pc [.ref (ad 0)] (wPre D K ad (yG ad K) 21 v ar al)) (va_Qi (fun (r : Int32) (u : sT) => (∃ z : Int, (z = 0 ∨ (0 ≤ z ∧ z < w_3)) ∧ r = iI z) ∧ YI u.1 u.2.1 ∧ (∀ i j : Nat, (i, j) ∉ ([(0, 7), (0, 8), (0, 9), (0, 10), (0, 12), (0, 13)] : List (Nat × Nat)) → u.1 i j = v i j) ∧ (∀ i : Nat, i ∉ ([] : List Nat) → u.2.1 i = ar i) ∧ (∀ i : Nat, i ∉ ([0] : List Nat) → u.2.2 i = al i) ∧ (∃ x_1 x_2 x_3 : Int, (0 ≤ x_1 ∧ x_1 ≤ 1600 ∧ -2147483648 ≤ x_2 ∧ x_2 ≤ 2147483647 ∧ -2147483648 ≤ x_3 ∧ x_3 ≤ 2147483647 ∧ (w_2 ≤ x_1 ∧ x_1 ≤ w_1 ∧ (x_3 ≠ 0 ∨ x_2 = 0 ∨ w_2 + 1 ≤ x_1))) ∧ u.1 0 7 = iI x_1 ∧ u.1 0 8 = iI x_2 ∧ u.1 0 12 = iI x_3)) (wB D ad (yG ad K) 21) (inW ad 21)) 0 0 (inW ad 21) := by
  refine s_metI (by decide) (Nat.le_of_ble_eq_true rfl) ?_
  intro p e s m below meth c ls args Q hE hB hl kr
  have hE : CallFix p m c cX9_motifHere 1 s args tbG "TaleCourtModel" := hE
  obtain ⟨hP, hK, hN⟩ := hB
  have hS : va_S (inW ad 21) s.heap s.heap [] := va_S.rf
  have hl : lv_has ls 1 [(0, .ref (ad 0))] := hl
  refine lv_aload_n hE.1 hE.2.1 dX9_motifHere_0 rfl (lv_at hl 0 rfl) ?_
  refine lv_iconst (v := iI (0)) hE.1 hE.2.1 dX9_motifHere_1 (by decide) ?_
  refine lv_aload_n hE.1 hE.2.1 dX9_motifHere_2 rfl (lv_at hl 0 rfl) ?_
  refine lv_iconst (v := iI (2)) hE.1 hE.2.1 dX9_motifHere_3 (by decide) ?_
  refine x_vp (nn := 1) (As := [.int (iI (2))]) (rest := [.int (iI (0)), .ref (ad 0)]) hE (s_X9_hasRead_c0_2 l D K ad v ar al hI (w_3) (by omega) ew_3 ) wPre_blind (wPre_now hK hN hP) (x_recv hK hP 0 (by decide) (yG_9 rfl) rfl) rfl mw_1586 mw_1588 mw_60 mw_123 mw_1589 (by decide +kernel) ⟨by decide, by decide⟩ hl.1 rfl (Nat.le_of_ble_eq_true rfl) ⟨Nat.zero_le _, Nat.zero_le _⟩ dX9_motifHere_4 (fun r1 hr1 => ?_)
  obtain ⟨z1, hz1, rfl⟩ := hr1
  refine lv_iconst (v := iI (1)) hE.1 hE.2.1 dX9_motifHere_7 (by decide) ?_
  refine lv_isub hE.1 hE.2.1 dX9_motifHere_8 ?_
  refine x_top (y := iI (z1 - 1)) ((iI_sub (z1) (1)).trans (congrArg iI (by omega))) ?_
  refine x_vi (nn := 2) (As := [.int (iI (0)), .int (iI (z1 - 1))]) (rest := []) hE hK hN hP hS (s_X9_number l D K ad v ar al hI (w_1) (by omega) ew_1 (w_2) (by omega) ew_2 (0) (by omega) (z1 - 1) (by omega) (by omega)) (x_recv hK hP 0 (by decide) (yG_9 rfl) rfl) rfl mw_1575 mw_1577 mw_58 mw_123 mw_1578 (by decide +kernel) ⟨by decide, by decide⟩ hl.1 rfl (Nat.le_of_ble_eq_true rfl) ⟨Nat.zero_le _, Nat.zero_le _⟩ dX9_motifHere_9 (fun r2 v2 ar2 al2 H locs hq2 hP hS => ?_)
  obtain ⟨⟨z2, hz2, rfl⟩, hI, hq2, hqa2, hql2, x2_1, x2_2, x2_3, hx2, ex2_1, ex2_2, ex2_3⟩ := hq2
  have hI : YI v2 ar2 := hI
  exact kr _ v2 ar2 al2 _ _ _ _ rfl ⟨⟨z2, by omega, rfl⟩, hI, fun i j h => (hq2 i j (fun q => h (mem_sub (by decide) q))), fun i h => (hqa2 i (fun q => h (mem_subn (by decide) q))), fun i h => (hql2 i (fun q => h (mem_subn (by decide) q))), x2_1, x2_2, x2_3, by omega, ex2_1, ex2_2, ex2_3⟩ hP hS dX9_motifHere_12

theorem dX9_listenerLine_0 : decode cX9_listenerLine 0 = .ok (.iconst 2, 1) := by decide +kernel
theorem dX9_listenerLine_1 : decode cX9_listenerLine 1 = .ok (.bipush 32, 2) := by decide +kernel
theorem dX9_listenerLine_3 : decode cX9_listenerLine 3 = .ok (.aload_n 0, 1) := by decide +kernel
theorem dX9_listenerLine_4 : decode cX9_listenerLine 4 = .ok (.iconst 3, 1) := by decide +kernel
theorem dX9_listenerLine_5 : decode cX9_listenerLine 5 = .ok (.invokevirtual 163, 3) := by decide +kernel
theorem dX9_listenerLine_8 : decode cX9_listenerLine 8 = .ok (.iadd, 1) := by decide +kernel
theorem dX9_listenerLine_9 : decode cX9_listenerLine 9 = .ok (.imul, 1) := by decide +kernel
theorem dX9_listenerLine_10 : decode cX9_listenerLine 10 = .ok (.istore_n 1, 1) := by decide +kernel
theorem dX9_listenerLine_11 : decode cX9_listenerLine 11 = .ok (.aload_n 0, 1) := by decide +kernel
theorem dX9_listenerLine_12 : decode cX9_listenerLine 12 = .ok (.getfield 40, 3) := by decide +kernel
theorem dX9_listenerLine_15 : decode cX9_listenerLine 15 = .ok (.iload_n 1, 1) := by decide +kernel
theorem dX9_listenerLine_16 : decode cX9_listenerLine 16 = .ok (.aload_n 0, 1) := by decide +kernel
theorem dX9_listenerLine_17 : decode cX9_listenerLine 17 = .ok (.ldc2_w 197, 3) := by decide +kernel
theorem dX9_listenerLine_20 : decode cX9_listenerLine 20 = .ok (.iconst 0, 1) := by decide +kernel
theorem dX9_listenerLine_21 : decode cX9_listenerLine 21 = .ok (.bipush 9, 2) := by decide +kernel
theorem dX9_listenerLine_23 : decode cX9_listenerLine 23 = .ok (.invokevirtual 172, 3) := by decide +kernel
theorem dX9_listenerLine_26 : decode cX9_listenerLine 26 = .ok (.iastore, 1) := by decide +kernel
theorem dX9_listenerLine_27 : decode cX9_listenerLine 27 = .ok (.aload_n 0, 1) := by decide +kernel
theorem dX9_listenerLine_28 : decode cX9_listenerLine 28 = .ok (.getfield 40, 3) := by decide +kernel
theorem dX9_listenerLine_31 : decode cX9_listenerLine 31 = .ok (.iload_n 1, 1) := by decide +kernel
theorem dX9_listenerLine_32 : decode cX9_listenerLine 32 = .ok (.iconst 1, 1) := by decide +kernel
theorem dX9_listenerLine_33 : decode cX9_listenerLine 33 = .ok (.iadd, 1) := by decide +kernel
theorem dX9_listenerLine_34 : decode cX9_listenerLine 34 = .ok (.iconst 0, 1) := by decide +kernel
theorem dX9_listenerLine_35 : decode cX9_listenerLine 35 = .ok (.iastore, 1) := by decide +kernel
theorem dX9_listenerLine_36 : decode cX9_listenerLine 36 = .ok (.aload_n 0, 1) := by decide +kernel
theorem dX9_listenerLine_37 : decode cX9_listenerLine 37 = .ok (.invokevirtual 175, 3) := by decide +kernel
theorem dX9_listenerLine_40 : decode cX9_listenerLine 40 = .ok (.ifCond .eq 67, 3) := by decide +kernel
theorem dX9_listenerLine_43 : decode cX9_listenerLine 43 = .ok (.aload_n 0, 1) := by decide +kernel
theorem dX9_listenerLine_44 : decode cX9_listenerLine 44 = .ok (.getfield 122, 3) := by decide +kernel
theorem dX9_listenerLine_47 : decode cX9_listenerLine 47 = .ok (.iconst 2, 1) := by decide +kernel
theorem dX9_listenerLine_48 : decode cX9_listenerLine 48 = .ok (.if_icmp .ne 59, 3) := by decide +kernel
theorem dX9_listenerLine_51 : decode cX9_listenerLine 51 = .ok (.aload_n 0, 1) := by decide +kernel
theorem dX9_listenerLine_52 : decode cX9_listenerLine 52 = .ok (.getfield 115, 3) := by decide +kernel
theorem dX9_listenerLine_55 : decode cX9_listenerLine 55 = .ok (.aload_n 0, 1) := by decide +kernel
theorem dX9_listenerLine_56 : decode cX9_listenerLine 56 = .ok (.iconst 2, 1) := by decide +kernel
theorem dX9_listenerLine_57 : decode cX9_listenerLine 57 = .ok (.invokevirtual 163, 3) := by decide +kernel
theorem dX9_listenerLine_60 : decode cX9_listenerLine 60 = .ok (.if_icmp .ge 27, 3) := by decide +kernel
theorem dX9_listenerLine_63 : decode cX9_listenerLine 63 = .ok (.aload_n 0, 1) := by decide +kernel
theorem dX9_listenerLine_64 : decode cX9_listenerLine 64 = .ok (.getfield 40, 3) := by decide +kernel
theorem dX9_listenerLine_67 : decode cX9_listenerLine 67 = .ok (.iload_n 1, 1) := by decide +kernel
theorem dX9_listenerLine_68 : decode cX9_listenerLine 68 = .ok (.iconst 1, 1) := by decide +kernel
theorem dX9_listenerLine_69 : decode cX9_listenerLine 69 = .ok (.iadd, 1) := by decide +kernel
theorem dX9_listenerLine_70 : decode cX9_listenerLine 70 = .ok (.iaload, 1) := by decide +kernel
theorem dX9_listenerLine_71 : decode cX9_listenerLine 71 = .ok (.aload_n 0, 1) := by decide +kernel
theorem dX9_listenerLine_72 : decode cX9_listenerLine 72 = .ok (.getfield 115, 3) := by decide +kernel
theorem dX9_listenerLine_75 : decode cX9_listenerLine 75 = .ok (.ishr, 1) := by decide +kernel
theorem dX9_listenerLine_76 : decode cX9_listenerLine 76 = .ok (.iconst 1, 1) := by decide +kernel
theorem dX9_listenerLine_77 : decode cX9_listenerLine 77 = .ok (.iand, 1) := by decide +kernel
theorem dX9_listenerLine_78 : decode cX9_listenerLine 78 = .ok (.iconst 1, 1) := by decide +kernel
theorem dX9_listenerLine_79 : decode cX9_listenerLine 79 = .ok (.if_icmp .ne 8, 3) := by decide +kernel
theorem dX9_listenerLine_82 : decode cX9_listenerLine 82 = .ok (.aload_n 0, 1) := by decide +kernel
theorem dX9_listenerLine_83 : decode cX9_listenerLine 83 = .ok (.iconst 2, 1) := by decide +kernel
theorem dX9_listenerLine_84 : decode cX9_listenerLine 84 = .ok (.invokevirtual 149, 3) := by decide +kernel
theorem dX9_listenerLine_87 : decode cX9_listenerLine 87 = .ok (.aload_n 0, 1) := by decide +kernel
theorem dX9_listenerLine_88 : decode cX9_listenerLine 88 = .ok (.getfield 40, 3) := by decide +kernel
theorem dX9_listenerLine_91 : decode cX9_listenerLine 91 = .ok (.iload_n 1, 1) := by decide +kernel
theorem dX9_listenerLine_92 : decode cX9_listenerLine 92 = .ok (.iconst 1, 1) := by decide +kernel
theorem dX9_listenerLine_93 : decode cX9_listenerLine 93 = .ok (.iadd, 1) := by decide +kernel
theorem dX9_listenerLine_94 : decode cX9_listenerLine 94 = .ok (.dup2, 1) := by decide +kernel
theorem dX9_listenerLine_95 : decode cX9_listenerLine 95 = .ok (.iaload, 1) := by decide +kernel
theorem dX9_listenerLine_96 : decode cX9_listenerLine 96 = .ok (.iconst 1, 1) := by decide +kernel
theorem dX9_listenerLine_97 : decode cX9_listenerLine 97 = .ok (.aload_n 0, 1) := by decide +kernel
theorem dX9_listenerLine_98 : decode cX9_listenerLine 98 = .ok (.invokevirtual 189, 3) := by decide +kernel
theorem dX9_listenerLine_101 : decode cX9_listenerLine 101 = .ok (.ishl, 1) := by decide +kernel
theorem dX9_listenerLine_102 : decode cX9_listenerLine 102 = .ok (.ior, 1) := by decide +kernel
theorem dX9_listenerLine_103 : decode cX9_listenerLine 103 = .ok (.iastore, 1) := by decide +kernel
theorem dX9_listenerLine_104 : decode cX9_listenerLine 104 = .ok (.goto (-68), 3) := by decide +kernel
theorem dX9_listenerLine_107 : decode cX9_listenerLine 107 = .ok (.aload_n 0, 1) := by decide +kernel
theorem dX9_listenerLine_108 : decode cX9_listenerLine 108 = .ok (.getfield 34, 3) := by decide +kernel
theorem dX9_listenerLine_111 : decode cX9_listenerLine 111 = .ok (.bipush 27, 2) := by decide +kernel
theorem dX9_listenerLine_113 : decode cX9_listenerLine 113 = .ok (.dup2, 1) := by decide +kernel
theorem dX9_listenerLine_114 : decode cX9_listenerLine 114 = .ok (.iaload, 1) := by decide +kernel
theorem dX9_listenerLine_115 : decode cX9_listenerLine 115 = .ok (.iconst 1, 1) := by decide +kernel
theorem dX9_listenerLine_116 : decode cX9_listenerLine 116 = .ok (.iadd, 1) := by decide +kernel
theorem dX9_listenerLine_117 : decode cX9_listenerLine 117 = .ok (.iastore, 1) := by decide +kernel
theorem dX9_listenerLine_118 : decode cX9_listenerLine 118 = .ok (.return_, 1) := by decide +kernel
set_option maxHeartbeats 4000000 in
set_option maxRecDepth 100000 in
theorem s_X9_listenerLine (l : Launch) (D : va_G) (K : Nat → ClassId) (ad : Nat → Nat) (v ar : sI) (al : sL) (hI : YI v ar) (w_1 : Int) (hw_1 : 0 ≤ w_1 ∧ w_1 ≤ 1600) (ew_1 : v 0 6 = iI w_1) (w_2 : Int) (hw_2 : 0 ≤ w_2 ∧ w_2 ≤ 1600) (ew_2 : v 0 7 = iI w_2) (w_3 : Int) (hw_3 : 0 ≤ w_3 ∧ w_3 ≤ 7) (ew_3 : ar 7 27 = iI w_3) (hyp : w_2 ≤ w_1) : Met l yX9_listenerLine (wM yX9_listenerLine cX9_listenerLine 2 none) (rmD 5) (va_Pc [.ref (ad 0)] (wPre D K ad (yG ad K) 21 v ar al)) (va_Qv (fun u : sT => YI u.1 u.2.1 ∧ (∀ i j : Nat, (i, j) ∉ ([(0, 7), (0, 8), (0, 9), (0, 10), (0, 12), (0, 13)] : List (Nat × Nat)) → u.1 i j = v i j) ∧ (∀ i : Nat, i ∉ ([7, 9] : List Nat) → u.2.1 i = ar i) ∧ (∀ i : Nat, i ∉ ([0] : List Nat) → u.2.2 i = al i) ∧ (∃ x_1 : Int, (0 ≤ x_1 ∧ x_1 ≤ 1600 ∧ (w_2 ≤ x_1 ∧ x_1 ≤ w_1)) ∧ u.1 0 7 = iI x_1)) (wB D ad (yG ad K) 21) (inW ad 21)) 0 0 (inW ad 21) := by
  refine s_metV (by decide) (Nat.le_of_ble_eq_true rfl) ?_
  intro p e s m below meth c ls args Q hE hB hl kr
  have hE : CallFix p m c cX9_listenerLine 2 s args tbG "TaleCourtModel" := hE
  obtain ⟨hP, hK, hN⟩ := hB
  have hS : va_S (inW ad 21) s.heap s.heap [] := va_S.rf
  have hl : lv_has ls 2 [(0, .ref (ad 0))] := hl
  refine lv_iconst (v := iI (2)) hE.1 hE.2.1 dX9_listenerLine_0 (by decide) ?_
  refine lv_bipush (v := iI (32)) hE.1 hE.2.1 dX9_listenerLine_1 (by decide) ?_
  refine lv_aload_n hE.1 hE.2.1 dX9_listenerLine_3 rfl (lv_at hl 0 rfl) ?_
  refine lv_iconst (v := iI (3)) hE.1 hE.2.1 dX9_listenerLine_4 (by decide) ?_
  refine x_vp (nn := 1) (As := [.int (iI (3))]) (rest := [.int (iI (32)), .int (iI (2))]) hE (s_X9_hasRead_c0_3 l D K ad v ar al hI (w_3) (by omega) ew_3 ) wPre_blind (wPre_now hK hN hP) (x_recv hK hP 0 (by decide) (yG_9 rfl) rfl) rfl mw_1586 mw_1588 mw_60 mw_123 mw_1589 (by decide +kernel) ⟨by decide, by decide⟩ hl.1 rfl (Nat.le_of_ble_eq_true rfl) ⟨Nat.zero_le _, Nat.zero_le _⟩ dX9_listenerLine_5 (fun r1 hr1 => ?_)
  obtain ⟨z1, hz1, rfl⟩ := hr1
  refine lv_iadd hE.1 hE.2.1 dX9_listenerLine_8 ?_
  refine x_top (y := iI (z1 + 32)) ((iI_add (32) (z1)).trans (congrArg iI (by omega))) ?_
  refine lv_imul hE.1 hE.2.1 dX9_listenerLine_9 ?_
  refine x_top (y := iI (2 * z1 + 64)) ((iI_mul (2) (z1 + 32)).trans (congrArg iI (by omega))) ?_
  refine lv_istore_n (lv' := [(1, .int (iI (2 * z1 + 64))), (0, .ref (ad 0))]) hE.1 hE.2.1 dX9_listenerLine_10 rfl hl (by decide) rfl (fun ls hl => ?_)
  refine lv_aload_n hE.1 hE.2.1 dX9_listenerLine_11 rfl (lv_at hl 1 rfl) ?_
  refine x_get (x := .ref (ad 9)) hE hK hP 0 (by decide) (yG_9 rfl) rfl hin9 19 (by decide) mw_1353 rfl dX9_listenerLine_12 ?_
  refine lv_iload_n hE.1 hE.2.1 dX9_listenerLine_15 rfl (lv_at hl 0 rfl) ?_
  refine lv_aload_n hE.1 hE.2.1 dX9_listenerLine_16 rfl (lv_at hl 1 rfl) ?_
  refine lv_ldc2 (v := 6688729) hE.1 hE.2.1 hE.2.2.2.1 (hE.2.2.2.2 _ mw_1608) dX9_listenerLine_17 ?_
  refine x_topl (y := lI (6688729)) (by decide) ?_
  refine lv_iconst (v := iI (0)) hE.1 hE.2.1 dX9_listenerLine_20 (by decide) ?_
  refine lv_bipush (v := iI (9)) hE.1 hE.2.1 dX9_listenerLine_21 (by decide) ?_
  refine x_vi (nn := 3) (As := [.long (lI (6688729)), .int (iI (0)), .int (iI (9))]) (rest := [.int (iI (2 * z1 + 64)), .ref (ad 9)]) hE hK hN hP hS (s_X9_number_ l D K ad v ar al hI (w_1) (by omega) ew_1 (w_2) (by omega) ew_2 (6688729) (by omega) (0) (by omega) (9) (by omega) (by omega)) (x_recv hK hP 0 (by decide) (yG_9 rfl) rfl) rfl mw_1571 mw_1573 mw_57 mw_123 mw_1574 (by decide +kernel) ⟨by decide, by decide⟩ hl.1 rfl (Nat.le_of_ble_eq_true rfl) ⟨Nat.zero_le _, Nat.zero_le _⟩ dX9_listenerLine_23 (fun r2 v2 ar2 al2 H locs hq2 hP hS => ?_)
  obtain ⟨⟨z2, hz2, rfl⟩, hI, hq2, hqa2, hql2, x2_1, x2_2, x2_3, hx2, ex2_1, ex2_2, ex2_3⟩ := hq2
  have hI : YI v2 ar2 := hI
  refine x_iast (j := iI (2 * z1 + 64)) hE hK hN hP hS 9 (by decide) (fun _ => yG_10 rfl) (iI_in (n := 80) (by omega)) dX9_listenerLine_26 (fun ar3 H locs ha3 hP hS => ?_)
  have hI := YI_ast hI ha3 (by decide)
  refine lv_aload_n hE.1 hE.2.1 dX9_listenerLine_27 rfl (lv_at hl 1 rfl) ?_
  refine x_get (x := .ref (ad 9)) hE hK hP 0 (by decide) (yG_9 rfl) rfl hin9 19 (by decide) mw_1353 rfl dX9_listenerLine_28 ?_
  refine lv_iload_n hE.1 hE.2.1 dX9_listenerLine_31 rfl (lv_at hl 0 rfl) ?_
  refine lv_iconst (v := iI (1)) hE.1 hE.2.1 dX9_listenerLine_32 (by decide) ?_
  refine lv_iadd hE.1 hE.2.1 dX9_listenerLine_33 ?_
  refine x_top (y := iI (2 * z1 + 65)) ((iI_add (2 * z1 + 64) (1)).trans (congrArg iI (by omega))) ?_
  refine lv_iconst (v := iI (0)) hE.1 hE.2.1 dX9_listenerLine_34 (by decide) ?_
  refine x_iast (j := iI (2 * z1 + 65)) hE hK hN hP hS 9 (by decide) (fun _ => yG_10 rfl) (iI_in (n := 80) (by omega)) dX9_listenerLine_35 (fun ar4 H locs ha4 hP hS => ?_)
  have hI := YI_ast hI ha4 (by decide)
  have loop5 : ∀ (k5 : Nat) (yf5_0 : Int) (yf5_1 : Int) (yf5_2 : Int) (vl5 arl5 : sI) (all5 : sL) (H : Heap) (locs : List Loc) (ls : Array Slot), (if yf5_1 = 2 ∧ yf5_2 = 0 then 1601 - yf5_0 else 0).toNat = k5 → (0 ≤ yf5_0 ∧ yf5_0 ≤ 1600 ∧ -2147483648 ≤ yf5_1 ∧ yf5_1 ≤ 2147483647 ∧ -2147483648 ≤ yf5_2 ∧ yf5_2 ≤ 2147483647 ∧ (yf5_0 ≤ w_1 ∧ w_2 ≤ yf5_0)) → (vl5 0 7 = iI yf5_0) → (vl5 0 8 = iI yf5_1) → (vl5 0 12 = iI yf5_2) → YI vl5 arl5 → (∀ i j : Nat, (i, j) ∉ ([(0, 7), (0, 8), (0, 9), (0, 10), (0, 12), (0, 13)] : List (Nat × Nat)) → vl5 i j = v2 i j) → (∀ i : Nat, i ∉ ([9] : List Nat) → arl5 i = ar4 i) → (∀ i : Nat, i ∉ ([0] : List Nat) → all5 i = al2 i) → va_P D xcl (wW ad (yG ad K) 21 vl5 arl5 all5) H → va_S (inW ad 21) s.heap H locs → lv_has ls 2 [(1, .int (iI (2 * z1 + 64))), (0, .ref (ad 0))] → W p l e (rmD 5) s m args below meth c H locs 0 0 Q (F0 m 36 ls []) := by
    intro k5
    induction k5 using Nat.strongRecOn with
    | _ k5 ih5 =>
      intro  yf5_0 yf5_1 yf5_2 vl5 arl5 all5 H locs ls hk5  hyf5 eyf5_0 eyf5_1 eyf5_2 hI hfr5 hfa5 hfl5 hP hS hl
      refine lv_aload_n hE.1 hE.2.1 dX9_listenerLine_36 rfl (lv_at hl 1 rfl) ?_
      refine x_vp (nn := 0) (As := []) (rest := []) hE (s_X9_isGood l D K ad vl5 arl5 all5 hI (yf5_2) (by omega) eyf5_2 ) wPre_blind (wPre_now hK hN hP) (x_recv hK hP 0 (by decide) (yG_9 rfl) rfl) rfl mw_1549 mw_1551 mw_52 mw_123 mw_1552 (by decide +kernel) ⟨by decide, by decide⟩ hl.1 rfl (Nat.le_of_ble_eq_true rfl) ⟨Nat.zero_le _, Nat.zero_le _⟩ dX9_listenerLine_37 (fun r6 hr6 => ?_)
      obtain ⟨z6, hz6, rfl⟩ := hr6
      refine s_if_eq (a := z6) (tgt := 107) hE.1 hE.2.1 (by omega) dX9_listenerLine_40 (by decide) (fun c7 => ?_) (fun c7 => ?_)
      · skip
        refine lv_aload_n hE.1 hE.2.1 dX9_listenerLine_107 rfl (lv_at hl 1 rfl) ?_
        refine x_get (x := .ref (ad 7)) hE hK hP 0 (by decide) (yG_9 rfl) rfl hin9 17 (by decide) mw_1351 rfl dX9_listenerLine_108 ?_
        refine lv_bipush (v := iI (27)) hE.1 hE.2.1 dX9_listenerLine_111 (by decide) ?_
        refine lv_dup2_11 hE.1 hE.2.1 dX9_listenerLine_113 rfl rfl ?_
        refine x_iald (j := iI (27)) hE hK hP 7 (by decide) (yG_10 rfl) (iI_in (n := 30) (by omega)) dX9_listenerLine_114 ?_
        refine x_top (y := iI (w_3)) (by rw [show (iI (27)).toNatClampNeg = 27 from by decide]; exact ((congrFun (hfa5 7 (by decide)) 27).trans ((congrFun (upa_ne ha4 7 (by decide)) 27).trans ((congrFun (upa_ne ha3 7 (by decide)) 27).trans ((congrFun (hqa2 7 (by decide)) 27).trans ew_3))))) ?_
        refine lv_iconst (v := iI (1)) hE.1 hE.2.1 dX9_listenerLine_115 (by decide) ?_
        refine lv_iadd hE.1 hE.2.1 dX9_listenerLine_116 ?_
        refine x_top (y := iI (w_3 + 1)) ((iI_add (w_3) (1)).trans (congrArg iI (by omega))) ?_
        refine x_iast (j := iI (27)) hE hK hN hP hS 7 (by decide) (fun _ => yG_10 rfl) (iI_in (n := 30) (by omega)) dX9_listenerLine_117 (fun ar9 H locs ha9 hP hS => ?_)
        have hI := YI_read7 (z := w_3 + 1) (k := 27) hI ha9 (by decide) (by omega) (by unfold hasB; omega) (Or.inr ⟨by decide, fun q => absurd q (by decide)⟩)
        exact kr vl5 ar9 all5 _ _ _ _ ⟨hI, fun i j h => ((hfr5 i j (fun q => h (mem_sub (by decide) q))).trans (hq2 i j (fun q => h (mem_sub (by decide) q)))), fun i h => ((upx_ne ha9 i (fun q => h (by rw [q]; decide))).trans ((hfa5 i (fun q => h (mem_subn (by decide) q))).trans ((upx_ne ha4 i (fun q => h (by rw [q]; decide))).trans ((upx_ne ha3 i (fun q => h (by rw [q]; decide))).trans (hqa2 i (fun q => h (mem_subn (by decide) q))))))), fun i h => ((hfl5 i (fun q => h (mem_subn (by decide) q))).trans (hql2 i (fun q => h (mem_subn (by decide) q)))), yf5_0, by omega, eyf5_0⟩ hP hS dX9_listenerLine_118
      · skip
        refine lv_aload_n hE.1 hE.2.1 dX9_listenerLine_43 rfl (lv_at hl 1 rfl) ?_
        refine x_get (x := .int (vl5 0 8)) hE hK hP 0 (by decide) (yG_9 rfl) rfl hin9 8 (by decide) mw_1342 rfl dX9_listenerLine_44 ?_
        refine x_top (y := iI (yf5_1)) eyf5_1 ?_
        refine lv_iconst (v := iI (2)) hE.1 hE.2.1 dX9_listenerLine_47 (by decide) ?_
        refine s_icmp_ne (a := yf5_1) (b := 2) (tgt := 107) hE.1 hE.2.1 (by omega) (by omega) dX9_listenerLine_48 (by decide) (fun c10 => ?_) (fun c10 => ?_)
        · skip
          refine lv_aload_n hE.1 hE.2.1 dX9_listenerLine_107 rfl (lv_at hl 1 rfl) ?_
          refine x_get (x := .ref (ad 7)) hE hK hP 0 (by decide) (yG_9 rfl) rfl hin9 17 (by decide) mw_1351 rfl dX9_listenerLine_108 ?_
          refine lv_bipush (v := iI (27)) hE.1 hE.2.1 dX9_listenerLine_111 (by decide) ?_
          refine lv_dup2_11 hE.1 hE.2.1 dX9_listenerLine_113 rfl rfl ?_
          refine x_iald (j := iI (27)) hE hK hP 7 (by decide) (yG_10 rfl) (iI_in (n := 30) (by omega)) dX9_listenerLine_114 ?_
          refine x_top (y := iI (w_3)) (by rw [show (iI (27)).toNatClampNeg = 27 from by decide]; exact ((congrFun (hfa5 7 (by decide)) 27).trans ((congrFun (upa_ne ha4 7 (by decide)) 27).trans ((congrFun (upa_ne ha3 7 (by decide)) 27).trans ((congrFun (hqa2 7 (by decide)) 27).trans ew_3))))) ?_
          refine lv_iconst (v := iI (1)) hE.1 hE.2.1 dX9_listenerLine_115 (by decide) ?_
          refine lv_iadd hE.1 hE.2.1 dX9_listenerLine_116 ?_
          refine x_top (y := iI (w_3 + 1)) ((iI_add (w_3) (1)).trans (congrArg iI (by omega))) ?_
          refine x_iast (j := iI (27)) hE hK hN hP hS 7 (by decide) (fun _ => yG_10 rfl) (iI_in (n := 30) (by omega)) dX9_listenerLine_117 (fun ar12 H locs ha12 hP hS => ?_)
          have hI := YI_read7 (z := w_3 + 1) (k := 27) hI ha12 (by decide) (by omega) (by unfold hasB; omega) (Or.inr ⟨by decide, fun q => absurd q (by decide)⟩)
          exact kr vl5 ar12 all5 _ _ _ _ ⟨hI, fun i j h => ((hfr5 i j (fun q => h (mem_sub (by decide) q))).trans (hq2 i j (fun q => h (mem_sub (by decide) q)))), fun i h => ((upx_ne ha12 i (fun q => h (by rw [q]; decide))).trans ((hfa5 i (fun q => h (mem_subn (by decide) q))).trans ((upx_ne ha4 i (fun q => h (by rw [q]; decide))).trans ((upx_ne ha3 i (fun q => h (by rw [q]; decide))).trans (hqa2 i (fun q => h (mem_subn (by decide) q))))))), fun i h => ((hfl5 i (fun q => h (mem_subn (by decide) q))).trans (hql2 i (fun q => h (mem_subn (by decide) q)))), yf5_0, by omega, eyf5_0⟩ hP hS dX9_listenerLine_118
        · skip
          refine lv_aload_n hE.1 hE.2.1 dX9_listenerLine_51 rfl (lv_at hl 1 rfl) ?_
          obtain ⟨z13, hz13, ez13⟩ := iI_of (vl5 0 10)
          refine x_get (x := .int (vl5 0 10)) hE hK hP 0 (by decide) (yG_9 rfl) rfl hin9 10 (by decide) mw_1344 rfl dX9_listenerLine_52 ?_
          refine x_top (y := iI (z13)) ez13 ?_
          refine lv_aload_n hE.1 hE.2.1 dX9_listenerLine_55 rfl (lv_at hl 1 rfl) ?_
          refine lv_iconst (v := iI (2)) hE.1 hE.2.1 dX9_listenerLine_56 (by decide) ?_
          obtain ⟨z14, hz14, ez14⟩ := YI_h2 hI 26 (by decide)
          refine x_vp (nn := 1) (As := [.int (iI (2))]) (rest := [.int (iI (z13))]) hE (s_X9_hasRead_c0_2 l D K ad vl5 arl5 all5 hI (z14) (by omega) ez14 ) wPre_blind (wPre_now hK hN hP) (x_recv hK hP 0 (by decide) (yG_9 rfl) rfl) rfl mw_1586 mw_1588 mw_60 mw_123 mw_1589 (by decide +kernel) ⟨by decide, by decide⟩ hl.1 rfl (Nat.le_of_ble_eq_true rfl) ⟨Nat.zero_le _, Nat.zero_le _⟩ dX9_listenerLine_57 (fun r15 hr15 => ?_)
          obtain ⟨z15, hz15, rfl⟩ := hr15
          refine s_icmp_ge (a := z13) (b := z15) (tgt := 87) hE.1 hE.2.1 (by omega) (by omega) dX9_listenerLine_60 (by decide) (fun c16 => ?_) (fun c16 => ?_)
          · skip
            refine lv_aload_n hE.1 hE.2.1 dX9_listenerLine_87 rfl (lv_at hl 1 rfl) ?_
            refine x_get (x := .ref (ad 9)) hE hK hP 0 (by decide) (yG_9 rfl) rfl hin9 19 (by decide) mw_1353 rfl dX9_listenerLine_88 ?_
            refine lv_iload_n hE.1 hE.2.1 dX9_listenerLine_91 rfl (lv_at hl 0 rfl) ?_
            refine lv_iconst (v := iI (1)) hE.1 hE.2.1 dX9_listenerLine_92 (by decide) ?_
            refine lv_iadd hE.1 hE.2.1 dX9_listenerLine_93 ?_
            refine x_top (y := iI (2 * z1 + 65)) ((iI_add (2 * z1 + 64) (1)).trans (congrArg iI (by omega))) ?_
            refine lv_dup2_11 hE.1 hE.2.1 dX9_listenerLine_94 rfl rfl ?_
            refine x_iald (j := iI (2 * z1 + 65)) hE hK hP 9 (by decide) (yG_10 rfl) (iI_in (n := 80) (by omega)) dX9_listenerLine_95 ?_
            obtain ⟨z19, hz19, ez19⟩ := iI_of (arl5 9 (iI (2 * z1 + 65)).toNatClampNeg)
            refine x_top ez19 ?_
            refine lv_iconst (v := iI (1)) hE.1 hE.2.1 dX9_listenerLine_96 (by decide) ?_
            refine lv_aload_n hE.1 hE.2.1 dX9_listenerLine_97 rfl (lv_at hl 1 rfl) ?_
            refine x_vi (nn := 0) (As := []) (rest := [.int (iI (1)), .int (iI (z19)), .int (iI (2 * z1 + 65)), .ref (ad 9)]) hE hK hN hP hS (s_X9_motifHere l D K ad vl5 arl5 all5 hI (w_1) (by omega) ((hfr5 0 6 (by decide)).trans ((hq2 0 6 (by decide)).trans ew_1)) (yf5_0) (by omega) eyf5_0 (z14) (by omega) ez14  (by omega)) (x_recv hK hP 0 (by decide) (yG_9 rfl) rfl) rfl mw_1609 mw_1611 mw_64 mw_123 mw_1612 (by decide +kernel) ⟨by decide, by decide⟩ hl.1 rfl (Nat.le_of_ble_eq_true rfl) ⟨Nat.zero_le _, Nat.zero_le _⟩ dX9_listenerLine_98 (fun r20 v20 ar20 al20 H locs hq20 hP hS => ?_)
            obtain ⟨⟨z20, hz20, rfl⟩, hI, hq20, hqa20, hql20, x20_1, x20_2, x20_3, hx20, ex20_1, ex20_2, ex20_3⟩ := hq20
            have hI : YI v20 ar20 := hI
            refine lv_ishl hE.1 hE.2.1 dX9_listenerLine_101 ?_
            obtain ⟨z21, hz21, ez21⟩ := iI_shl8 (a := z20) (by omega)
            refine x_top ez21 ?_
            refine lv_ior hE.1 hE.2.1 dX9_listenerLine_102 ?_
            obtain ⟨z22, hz22, ez22⟩ := iI_of (iI (z19) ||| iI (z21))
            refine x_top ez22 ?_
            refine x_iast (j := iI (2 * z1 + 65)) hE hK hN hP hS 9 (by decide) (fun _ => yG_10 rfl) (iI_in (n := 80) (by omega)) dX9_listenerLine_103 (fun ar23 H locs ha23 hP hS => ?_)
            have hI := YI_ast hI ha23 (by decide)
            refine lv_goto (tgt := 36) hE.1 hE.2.1 dX9_listenerLine_104 (by decide) ?_
            exact ih5 _ (by omega)  (x20_1) (x20_2) (x20_3) v20 ar23 al20 _ _ _ rfl  (by omega) ex20_1 ex20_2 ex20_3 hI (fun i j h => ((hq20 i j (fun q => h (mem_sub (by decide) q))).trans (hfr5 i j h))) (fun i h => (((upx_ne ha23 i (fun q => h (by rw [q]; decide))).trans (hqa20 i (fun q => h (mem_subn (by decide) q)))).trans (hfa5 i h))) (fun i h => ((hql20 i (fun q => h (mem_subn (by decide) q))).trans (hfl5 i h))) hP hS (lv_sub hl [0, 1] rfl)
          · skip
            refine lv_aload_n hE.1 hE.2.1 dX9_listenerLine_63 rfl (lv_at hl 1 rfl) ?_
            refine x_get (x := .ref (ad 9)) hE hK hP 0 (by decide) (yG_9 rfl) rfl hin9 19 (by decide) mw_1353 rfl dX9_listenerLine_64 ?_
            refine lv_iload_n hE.1 hE.2.1 dX9_listenerLine_67 rfl (lv_at hl 0 rfl) ?_
            refine lv_iconst (v := iI (1)) hE.1 hE.2.1 dX9_listenerLine_68 (by decide) ?_
            refine lv_iadd hE.1 hE.2.1 dX9_listenerLine_69 ?_
            refine x_top (y := iI (2 * z1 + 65)) ((iI_add (2 * z1 + 64) (1)).trans (congrArg iI (by omega))) ?_
            refine x_iald (j := iI (2 * z1 + 65)) hE hK hP 9 (by decide) (yG_10 rfl) (iI_in (n := 80) (by omega)) dX9_listenerLine_70 ?_
            obtain ⟨z26, hz26, ez26⟩ := iI_of (arl5 9 (iI (2 * z1 + 65)).toNatClampNeg)
            refine x_top ez26 ?_
            refine lv_aload_n hE.1 hE.2.1 dX9_listenerLine_71 rfl (lv_at hl 1 rfl) ?_
            refine x_get (x := .int (vl5 0 10)) hE hK hP 0 (by decide) (yG_9 rfl) rfl hin9 10 (by decide) mw_1344 rfl dX9_listenerLine_72 ?_
            refine x_top (y := iI (z13)) ez13 ?_
            refine lv_ishr hE.1 hE.2.1 dX9_listenerLine_75 ?_
            obtain ⟨z27, hz27, ez27⟩ := iI_of (iI (z26) >>> (iI (z13) &&& 31))
            refine x_top ez27 ?_
            refine lv_iconst (v := iI (1)) hE.1 hE.2.1 dX9_listenerLine_76 (by decide) ?_
            refine lv_iand hE.1 hE.2.1 dX9_listenerLine_77 ?_
            obtain ⟨z28, hz28, ez28⟩ := iI_and (iI (z27)) (iI (1)) 1 (by decide)
            refine x_top ez28 ?_
            refine lv_iconst (v := iI (1)) hE.1 hE.2.1 dX9_listenerLine_78 (by decide) ?_
            refine s_icmp_ne (a := z28) (b := 1) (tgt := 87) hE.1 hE.2.1 (by omega) (by omega) dX9_listenerLine_79 (by decide) (fun c29 => ?_) (fun c29 => ?_)
            · skip
              refine lv_aload_n hE.1 hE.2.1 dX9_listenerLine_87 rfl (lv_at hl 1 rfl) ?_
              refine x_get (x := .ref (ad 9)) hE hK hP 0 (by decide) (yG_9 rfl) rfl hin9 19 (by decide) mw_1353 rfl dX9_listenerLine_88 ?_
              refine lv_iload_n hE.1 hE.2.1 dX9_listenerLine_91 rfl (lv_at hl 0 rfl) ?_
              refine lv_iconst (v := iI (1)) hE.1 hE.2.1 dX9_listenerLine_92 (by decide) ?_
              refine lv_iadd hE.1 hE.2.1 dX9_listenerLine_93 ?_
              refine x_top (y := iI (2 * z1 + 65)) ((iI_add (2 * z1 + 64) (1)).trans (congrArg iI (by omega))) ?_
              refine lv_dup2_11 hE.1 hE.2.1 dX9_listenerLine_94 rfl rfl ?_
              refine x_iald (j := iI (2 * z1 + 65)) hE hK hP 9 (by decide) (yG_10 rfl) (iI_in (n := 80) (by omega)) dX9_listenerLine_95 ?_
              obtain ⟨z32, hz32, ez32⟩ := iI_of (arl5 9 (iI (2 * z1 + 65)).toNatClampNeg)
              refine x_top ez32 ?_
              refine lv_iconst (v := iI (1)) hE.1 hE.2.1 dX9_listenerLine_96 (by decide) ?_
              refine lv_aload_n hE.1 hE.2.1 dX9_listenerLine_97 rfl (lv_at hl 1 rfl) ?_
              refine x_vi (nn := 0) (As := []) (rest := [.int (iI (1)), .int (iI (z32)), .int (iI (2 * z1 + 65)), .ref (ad 9)]) hE hK hN hP hS (s_X9_motifHere l D K ad vl5 arl5 all5 hI (w_1) (by omega) ((hfr5 0 6 (by decide)).trans ((hq2 0 6 (by decide)).trans ew_1)) (yf5_0) (by omega) eyf5_0 (z14) (by omega) ez14  (by omega)) (x_recv hK hP 0 (by decide) (yG_9 rfl) rfl) rfl mw_1609 mw_1611 mw_64 mw_123 mw_1612 (by decide +kernel) ⟨by decide, by decide⟩ hl.1 rfl (Nat.le_of_ble_eq_true rfl) ⟨Nat.zero_le _, Nat.zero_le _⟩ dX9_listenerLine_98 (fun r33 v33 ar33 al33 H locs hq33 hP hS => ?_)
              obtain ⟨⟨z33, hz33, rfl⟩, hI, hq33, hqa33, hql33, x33_1, x33_2, x33_3, hx33, ex33_1, ex33_2, ex33_3⟩ := hq33
              have hI : YI v33 ar33 := hI
              refine lv_ishl hE.1 hE.2.1 dX9_listenerLine_101 ?_
              obtain ⟨z34, hz34, ez34⟩ := iI_shl8 (a := z33) (by omega)
              refine x_top ez34 ?_
              refine lv_ior hE.1 hE.2.1 dX9_listenerLine_102 ?_
              obtain ⟨z35, hz35, ez35⟩ := iI_of (iI (z32) ||| iI (z34))
              refine x_top ez35 ?_
              refine x_iast (j := iI (2 * z1 + 65)) hE hK hN hP hS 9 (by decide) (fun _ => yG_10 rfl) (iI_in (n := 80) (by omega)) dX9_listenerLine_103 (fun ar36 H locs ha36 hP hS => ?_)
              have hI := YI_ast hI ha36 (by decide)
              refine lv_goto (tgt := 36) hE.1 hE.2.1 dX9_listenerLine_104 (by decide) ?_
              exact ih5 _ (by omega)  (x33_1) (x33_2) (x33_3) v33 ar36 al33 _ _ _ rfl  (by omega) ex33_1 ex33_2 ex33_3 hI (fun i j h => ((hq33 i j (fun q => h (mem_sub (by decide) q))).trans (hfr5 i j h))) (fun i h => (((upx_ne ha36 i (fun q => h (by rw [q]; decide))).trans (hqa33 i (fun q => h (mem_subn (by decide) q)))).trans (hfa5 i h))) (fun i h => ((hql33 i (fun q => h (mem_subn (by decide) q))).trans (hfl5 i h))) hP hS (lv_sub hl [0, 1] rfl)
            · skip
              refine lv_aload_n hE.1 hE.2.1 dX9_listenerLine_82 rfl (lv_at hl 1 rfl) ?_
              refine lv_iconst (v := iI (2)) hE.1 hE.2.1 dX9_listenerLine_83 (by decide) ?_
              refine x_vv (nn := 1) (As := [.int (iI (2))]) (rest := []) hE hK hN hP hS (s_X9_fails l D K ad vl5 arl5 all5 hI  (2) (by omega)) (x_recv hK hP 0 (by decide) (yG_9 rfl) rfl) rfl mw_1566 mw_1568 mw_56 mw_123 mw_1569 (by decide +kernel) ⟨by decide, by decide⟩ hl.1 rfl (Nat.le_of_ble_eq_true rfl) ⟨Nat.zero_le _, Nat.zero_le _⟩ dX9_listenerLine_84 (fun v37 ar37 al37 H locs hq37 hP hS => ?_)
              obtain ⟨hI, hq37, hqa37, hql37, x37_1, hx37, ex37_1⟩ := hq37
              have hI : YI v37 ar37 := hI
              refine lv_aload_n hE.1 hE.2.1 dX9_listenerLine_87 rfl (lv_at hl 1 rfl) ?_
              refine x_get (x := .ref (ad 9)) hE hK hP 0 (by decide) (yG_9 rfl) rfl hin9 19 (by decide) mw_1353 rfl dX9_listenerLine_88 ?_
              refine lv_iload_n hE.1 hE.2.1 dX9_listenerLine_91 rfl (lv_at hl 0 rfl) ?_
              refine lv_iconst (v := iI (1)) hE.1 hE.2.1 dX9_listenerLine_92 (by decide) ?_
              refine lv_iadd hE.1 hE.2.1 dX9_listenerLine_93 ?_
              refine x_top (y := iI (2 * z1 + 65)) ((iI_add (2 * z1 + 64) (1)).trans (congrArg iI (by omega))) ?_
              refine lv_dup2_11 hE.1 hE.2.1 dX9_listenerLine_94 rfl rfl ?_
              refine x_iald (j := iI (2 * z1 + 65)) hE hK hP 9 (by decide) (yG_10 rfl) (iI_in (n := 80) (by omega)) dX9_listenerLine_95 ?_
              obtain ⟨z40, hz40, ez40⟩ := iI_of (ar37 9 (iI (2 * z1 + 65)).toNatClampNeg)
              refine x_top ez40 ?_
              refine lv_iconst (v := iI (1)) hE.1 hE.2.1 dX9_listenerLine_96 (by decide) ?_
              refine lv_aload_n hE.1 hE.2.1 dX9_listenerLine_97 rfl (lv_at hl 1 rfl) ?_
              refine x_vi (nn := 0) (As := []) (rest := [.int (iI (1)), .int (iI (z40)), .int (iI (2 * z1 + 65)), .ref (ad 9)]) hE hK hN hP hS (s_X9_motifHere l D K ad v37 ar37 al37 hI (w_1) (by omega) ((hq37 0 6 (by decide)).trans ((hfr5 0 6 (by decide)).trans ((hq2 0 6 (by decide)).trans ew_1))) (yf5_0) (by omega) ((hq37 0 7 (by decide)).trans eyf5_0) (z14) (by omega) ((congrFun (hqa37 7 (by decide)) 26).trans ez14)  (by omega)) (x_recv hK hP 0 (by decide) (yG_9 rfl) rfl) rfl mw_1609 mw_1611 mw_64 mw_123 mw_1612 (by decide +kernel) ⟨by decide, by decide⟩ hl.1 rfl (Nat.le_of_ble_eq_true rfl) ⟨Nat.zero_le _, Nat.zero_le _⟩ dX9_listenerLine_98 (fun r41 v41 ar41 al41 H locs hq41 hP hS => ?_)
              obtain ⟨⟨z41, hz41, rfl⟩, hI, hq41, hqa41, hql41, x41_1, x41_2, x41_3, hx41, ex41_1, ex41_2, ex41_3⟩ := hq41
              have hI : YI v41 ar41 := hI
              refine lv_ishl hE.1 hE.2.1 dX9_listenerLine_101 ?_
              obtain ⟨z42, hz42, ez42⟩ := iI_shl8 (a := z41) (by omega)
              refine x_top ez42 ?_
              refine lv_ior hE.1 hE.2.1 dX9_listenerLine_102 ?_
              obtain ⟨z43, hz43, ez43⟩ := iI_of (iI (z40) ||| iI (z42))
              refine x_top ez43 ?_
              refine x_iast (j := iI (2 * z1 + 65)) hE hK hN hP hS 9 (by decide) (fun _ => yG_10 rfl) (iI_in (n := 80) (by omega)) dX9_listenerLine_103 (fun ar44 H locs ha44 hP hS => ?_)
              have hI := YI_ast hI ha44 (by decide)
              refine lv_goto (tgt := 36) hE.1 hE.2.1 dX9_listenerLine_104 (by decide) ?_
              exact ih5 _ (by omega)  (x41_1) (x41_2) (x41_3) v41 ar44 al41 _ _ _ rfl  (by omega) ex41_1 ex41_2 ex41_3 hI (fun i j h => (((hq41 i j (fun q => h (mem_sub (by decide) q))).trans (hq37 i j (fun q => h (mem_sub (by decide) q)))).trans (hfr5 i j h))) (fun i h => (((upx_ne ha44 i (fun q => h (by rw [q]; decide))).trans ((hqa41 i (fun q => h (mem_subn (by decide) q))).trans (hqa37 i (fun q => h (mem_subn (by decide) q))))).trans (hfa5 i h))) (fun i h => (((hql41 i (fun q => h (mem_subn (by decide) q))).trans (hql37 i (fun q => h (mem_subn (by decide) q)))).trans (hfl5 i h))) hP hS (lv_sub hl [0, 1] rfl)
  exact loop5 _  (x2_1) (x2_2) (x2_3) v2 ar4 al2 _ _ _ rfl  (by omega) ex2_1 ex2_2 ex2_3 hI (fun _ _ _ => rfl) (fun _ _ => rfl) (fun _ _ => rfl) hP hS hl

theorem dX9_pairLine_0 : decode cX9_pairLine 0 = .ok (.aload_n 0, 1) := by decide +kernel
theorem dX9_pairLine_1 : decode cX9_pairLine 1 = .ok (.invokevirtual 189, 3) := by decide +kernel
theorem dX9_pairLine_4 : decode cX9_pairLine 4 = .ok (.istore_n 2, 1) := by decide +kernel
theorem dX9_pairLine_5 : decode cX9_pairLine 5 = .ok (.aload_n 0, 1) := by decide +kernel
theorem dX9_pairLine_6 : decode cX9_pairLine 6 = .ok (.iload_n 1, 1) := by decide +kernel
theorem dX9_pairLine_7 : decode cX9_pairLine 7 = .ok (.ifCond .eq 9, 3) := by decide +kernel
theorem dX9_pairLine_10 : decode cX9_pairLine 10 = .ok (.ldc2_w 193, 3) := by decide +kernel
theorem dX9_pairLine_13 : decode cX9_pairLine 13 = .ok (.goto 6, 3) := by decide +kernel
theorem dX9_pairLine_16 : decode cX9_pairLine 16 = .ok (.ldc2_w 195, 3) := by decide +kernel
theorem dX9_pairLine_19 : decode cX9_pairLine 19 = .ok (.invokevirtual 152, 3) := by decide +kernel
theorem dX9_pairLine_22 : decode cX9_pairLine 22 = .ok (.aload_n 0, 1) := by decide +kernel
theorem dX9_pairLine_23 : decode cX9_pairLine 23 = .ok (.getfield 133, 3) := by decide +kernel
theorem dX9_pairLine_26 : decode cX9_pairLine 26 = .ok (.ifCond .ne 69, 3) := by decide +kernel
theorem dX9_pairLine_29 : decode cX9_pairLine 29 = .ok (.aload_n 0, 1) := by decide +kernel
theorem dX9_pairLine_30 : decode cX9_pairLine 30 = .ok (.getfield 122, 3) := by decide +kernel
theorem dX9_pairLine_33 : decode cX9_pairLine 33 = .ok (.iconst 2, 1) := by decide +kernel
theorem dX9_pairLine_34 : decode cX9_pairLine 34 = .ok (.if_icmp .ne 61, 3) := by decide +kernel
theorem dX9_pairLine_37 : decode cX9_pairLine 37 = .ok (.aload_n 0, 1) := by decide +kernel
theorem dX9_pairLine_38 : decode cX9_pairLine 38 = .ok (.getfield 115, 3) := by decide +kernel
theorem dX9_pairLine_41 : decode cX9_pairLine 41 = .ok (.aload_n 0, 1) := by decide +kernel
theorem dX9_pairLine_42 : decode cX9_pairLine 42 = .ok (.iconst 2, 1) := by decide +kernel
theorem dX9_pairLine_43 : decode cX9_pairLine 43 = .ok (.invokevirtual 163, 3) := by decide +kernel
theorem dX9_pairLine_46 : decode cX9_pairLine 46 = .ok (.if_icmp .ge 49, 3) := by decide +kernel
theorem dX9_pairLine_49 : decode cX9_pairLine 49 = .ok (.aload_n 0, 1) := by decide +kernel
theorem dX9_pairLine_50 : decode cX9_pairLine 50 = .ok (.getfield 115, 3) := by decide +kernel
theorem dX9_pairLine_53 : decode cX9_pairLine 53 = .ok (.iload_n 2, 1) := by decide +kernel
theorem dX9_pairLine_54 : decode cX9_pairLine 54 = .ok (.if_icmp .eq 36, 3) := by decide +kernel
theorem dX9_pairLine_57 : decode cX9_pairLine 57 = .ok (.aload_n 0, 1) := by decide +kernel
theorem dX9_pairLine_58 : decode cX9_pairLine 58 = .ok (.getfield 37, 3) := by decide +kernel
theorem dX9_pairLine_61 : decode cX9_pairLine 61 = .ok (.aload_n 0, 1) := by decide +kernel
theorem dX9_pairLine_62 : decode cX9_pairLine 62 = .ok (.iload_n 2, 1) := by decide +kernel
theorem dX9_pairLine_63 : decode cX9_pairLine 63 = .ok (.invokevirtual 167, 3) := by decide +kernel
theorem dX9_pairLine_66 : decode cX9_pairLine 66 = .ok (.iload_n 1, 1) := by decide +kernel
theorem dX9_pairLine_67 : decode cX9_pairLine 67 = .ok (.ifCond .eq 8, 3) := by decide +kernel
theorem dX9_pairLine_70 : decode cX9_pairLine 70 = .ok (.bipush 7, 2) := by decide +kernel
theorem dX9_pairLine_72 : decode cX9_pairLine 72 = .ok (.goto 5, 3) := by decide +kernel
theorem dX9_pairLine_75 : decode cX9_pairLine 75 = .ok (.bipush 8, 2) := by decide +kernel
theorem dX9_pairLine_77 : decode cX9_pairLine 77 = .ok (.iadd, 1) := by decide +kernel
theorem dX9_pairLine_78 : decode cX9_pairLine 78 = .ok (.iaload, 1) := by decide +kernel
theorem dX9_pairLine_79 : decode cX9_pairLine 79 = .ok (.aload_n 0, 1) := by decide +kernel
theorem dX9_pairLine_80 : decode cX9_pairLine 80 = .ok (.getfield 115, 3) := by decide +kernel
theorem dX9_pairLine_83 : decode cX9_pairLine 83 = .ok (.ishr, 1) := by decide +kernel
theorem dX9_pairLine_84 : decode cX9_pairLine 84 = .ok (.iconst 1, 1) := by decide +kernel
theorem dX9_pairLine_85 : decode cX9_pairLine 85 = .ok (.iand, 1) := by decide +kernel
theorem dX9_pairLine_86 : decode cX9_pairLine 86 = .ok (.iconst 1, 1) := by decide +kernel
theorem dX9_pairLine_87 : decode cX9_pairLine 87 = .ok (.if_icmp .ne 8, 3) := by decide +kernel
theorem dX9_pairLine_90 : decode cX9_pairLine 90 = .ok (.aload_n 0, 1) := by decide +kernel
theorem dX9_pairLine_91 : decode cX9_pairLine 91 = .ok (.iconst 2, 1) := by decide +kernel
theorem dX9_pairLine_92 : decode cX9_pairLine 92 = .ok (.invokevirtual 149, 3) := by decide +kernel
theorem dX9_pairLine_95 : decode cX9_pairLine 95 = .ok (.aload_n 0, 1) := by decide +kernel
theorem dX9_pairLine_96 : decode cX9_pairLine 96 = .ok (.invokevirtual 189, 3) := by decide +kernel
theorem dX9_pairLine_99 : decode cX9_pairLine 99 = .ok (.istore_n 3, 1) := by decide +kernel
theorem dX9_pairLine_100 : decode cX9_pairLine 100 = .ok (.aload_n 0, 1) := by decide +kernel
theorem dX9_pairLine_101 : decode cX9_pairLine 101 = .ok (.getfield 133, 3) := by decide +kernel
theorem dX9_pairLine_104 : decode cX9_pairLine 104 = .ok (.ifCond .eq 4, 3) := by decide +kernel
theorem dX9_pairLine_107 : decode cX9_pairLine 107 = .ok (.return_, 1) := by decide +kernel
theorem dX9_pairLine_108 : decode cX9_pairLine 108 = .ok (.aload_n 0, 1) := by decide +kernel
theorem dX9_pairLine_109 : decode cX9_pairLine 109 = .ok (.getfield 37, 3) := by decide +kernel
theorem dX9_pairLine_112 : decode cX9_pairLine 112 = .ok (.aload_n 0, 1) := by decide +kernel
theorem dX9_pairLine_113 : decode cX9_pairLine 113 = .ok (.iload_n 2, 1) := by decide +kernel
theorem dX9_pairLine_114 : decode cX9_pairLine 114 = .ok (.invokevirtual 167, 3) := by decide +kernel
theorem dX9_pairLine_117 : decode cX9_pairLine 117 = .ok (.iload_n 1, 1) := by decide +kernel
theorem dX9_pairLine_118 : decode cX9_pairLine 118 = .ok (.ifCond .eq 8, 3) := by decide +kernel
theorem dX9_pairLine_121 : decode cX9_pairLine 121 = .ok (.bipush 7, 2) := by decide +kernel
theorem dX9_pairLine_123 : decode cX9_pairLine 123 = .ok (.goto 5, 3) := by decide +kernel
theorem dX9_pairLine_126 : decode cX9_pairLine 126 = .ok (.bipush 8, 2) := by decide +kernel
theorem dX9_pairLine_128 : decode cX9_pairLine 128 = .ok (.iadd, 1) := by decide +kernel
theorem dX9_pairLine_129 : decode cX9_pairLine 129 = .ok (.dup2, 1) := by decide +kernel
theorem dX9_pairLine_130 : decode cX9_pairLine 130 = .ok (.iaload, 1) := by decide +kernel
theorem dX9_pairLine_131 : decode cX9_pairLine 131 = .ok (.iconst 1, 1) := by decide +kernel
theorem dX9_pairLine_132 : decode cX9_pairLine 132 = .ok (.iload_n 3, 1) := by decide +kernel
theorem dX9_pairLine_133 : decode cX9_pairLine 133 = .ok (.ishl, 1) := by decide +kernel
theorem dX9_pairLine_134 : decode cX9_pairLine 134 = .ok (.ior, 1) := by decide +kernel
theorem dX9_pairLine_135 : decode cX9_pairLine 135 = .ok (.iastore, 1) := by decide +kernel
theorem dX9_pairLine_136 : decode cX9_pairLine 136 = .ok (.iload_n 1, 1) := by decide +kernel
theorem dX9_pairLine_137 : decode cX9_pairLine 137 = .ok (.ifCond .ne 22, 3) := by decide +kernel
theorem dX9_pairLine_140 : decode cX9_pairLine 140 = .ok (.aload_n 0, 1) := by decide +kernel
theorem dX9_pairLine_141 : decode cX9_pairLine 141 = .ok (.getfield 37, 3) := by decide +kernel
theorem dX9_pairLine_144 : decode cX9_pairLine 144 = .ok (.aload_n 0, 1) := by decide +kernel
theorem dX9_pairLine_145 : decode cX9_pairLine 145 = .ok (.iload_n 3, 1) := by decide +kernel
theorem dX9_pairLine_146 : decode cX9_pairLine 146 = .ok (.invokevirtual 167, 3) := by decide +kernel
theorem dX9_pairLine_149 : decode cX9_pairLine 149 = .ok (.bipush 8, 2) := by decide +kernel
theorem dX9_pairLine_151 : decode cX9_pairLine 151 = .ok (.iadd, 1) := by decide +kernel
theorem dX9_pairLine_152 : decode cX9_pairLine 152 = .ok (.dup2, 1) := by decide +kernel
theorem dX9_pairLine_153 : decode cX9_pairLine 153 = .ok (.iaload, 1) := by decide +kernel
theorem dX9_pairLine_154 : decode cX9_pairLine 154 = .ok (.iconst 1, 1) := by decide +kernel
theorem dX9_pairLine_155 : decode cX9_pairLine 155 = .ok (.iload_n 2, 1) := by decide +kernel
theorem dX9_pairLine_156 : decode cX9_pairLine 156 = .ok (.ishl, 1) := by decide +kernel
theorem dX9_pairLine_157 : decode cX9_pairLine 157 = .ok (.ior, 1) := by decide +kernel
theorem dX9_pairLine_158 : decode cX9_pairLine 158 = .ok (.iastore, 1) := by decide +kernel
theorem dX9_pairLine_159 : decode cX9_pairLine 159 = .ok (.return_, 1) := by decide +kernel
set_option maxHeartbeats 4000000 in
set_option maxRecDepth 100000 in
theorem s_X9_pairLine (l : Launch) (D : va_G) (K : Nat → ClassId) (ad : Nat → Nat) (v ar : sI) (al : sL) (hI : YI v ar) (w_1 : Int) (hw_1 : 0 ≤ w_1 ∧ w_1 ≤ 1600) (ew_1 : v 0 6 = iI w_1) (w_2 : Int) (hw_2 : 0 ≤ w_2 ∧ w_2 ≤ 1600) (ew_2 : v 0 7 = iI w_2) (z_1 : Int) (hz_1 : 0 ≤ z_1 ∧ z_1 ≤ 1) (hyp : w_2 ≤ w_1) : Met l yX9_pairLine (wM yX9_pairLine cX9_pairLine 4 none) (rmD 4) (va_Pc [.ref (ad 0), .int (iI (z_1))] (wPre D K ad (yG ad K) 21 v ar al)) (va_Qv (fun u : sT => YI u.1 u.2.1 ∧ (∀ i j : Nat, (i, j) ∉ ([(0, 7), (0, 8), (0, 9), (0, 10), (0, 12), (0, 13)] : List (Nat × Nat)) → u.1 i j = v i j) ∧ (∀ i : Nat, i ∉ ([8] : List Nat) → u.2.1 i = ar i) ∧ (∀ i : Nat, i ∉ ([0] : List Nat) → u.2.2 i = al i) ∧ (∃ x_1 : Int, (0 ≤ x_1 ∧ x_1 ≤ 1600 ∧ (w_2 ≤ x_1 ∧ x_1 ≤ w_1)) ∧ u.1 0 7 = iI x_1)) (wB D ad (yG ad K) 21) (inW ad 21)) 0 0 (inW ad 21) := by
  refine s_metV (by decide) (Nat.le_of_ble_eq_true rfl) ?_
  intro p e s m below meth c ls args Q hE hB hl kr
  have hE : CallFix p m c cX9_pairLine 4 s args tbG "TaleCourtModel" := hE
  obtain ⟨hP, hK, hN⟩ := hB
  have hS : va_S (inW ad 21) s.heap s.heap [] := va_S.rf
  have hl : lv_has ls 4 [(0, .ref (ad 0)), (1, .int (iI (z_1)))] := hl
  refine lv_aload_n hE.1 hE.2.1 dX9_pairLine_0 rfl (lv_at hl 0 rfl) ?_
  obtain ⟨z1, hz1, ez1⟩ := YI_h2 hI 26 (by decide)
  refine x_vi (nn := 0) (As := []) (rest := []) hE hK hN hP hS (s_X9_motifHere l D K ad v ar al hI (w_1) (by omega) ew_1 (w_2) (by omega) ew_2 (z1) (by omega) ez1  (by omega)) (x_recv hK hP 0 (by decide) (yG_9 rfl) rfl) rfl mw_1609 mw_1611 mw_64 mw_123 mw_1612 (by decide +kernel) ⟨by decide, by decide⟩ hl.1 rfl (Nat.le_of_ble_eq_true rfl) ⟨Nat.zero_le _, Nat.zero_le _⟩ dX9_pairLine_1 (fun r2 v2 ar2 al2 H locs hq2 hP hS => ?_)
  obtain ⟨⟨z2, hz2, rfl⟩, hI, hq2, hqa2, hql2, x2_1, x2_2, x2_3, hx2, ex2_1, ex2_2, ex2_3⟩ := hq2
  have hI : YI v2 ar2 := hI
  refine lv_istore_n (lv' := [(2, .int (iI (z2))), (0, .ref (ad 0)), (1, .int (iI (z_1)))]) hE.1 hE.2.1 dX9_pairLine_4 rfl hl (by decide) rfl (fun ls hl => ?_)
  refine lv_aload_n hE.1 hE.2.1 dX9_pairLine_5 rfl (lv_at hl 1 rfl) ?_
  refine lv_iload_n hE.1 hE.2.1 dX9_pairLine_6 rfl (lv_at hl 2 rfl) ?_
  refine s_if_eq (a := z_1) (tgt := 16) hE.1 hE.2.1 (by omega) dX9_pairLine_7 (by decide) (fun c3 => ?_) (fun c3 => ?_)
  · skip
    refine lv_ldc2 (v := 1111) hE.1 hE.2.1 hE.2.2.2.1 (hE.2.2.2.2 _ mw_1619) dX9_pairLine_16 ?_
    refine x_topl (y := lI (1111)) (by decide) ?_
    refine x_vv (nn := 1) (As := [.long (lI (1111))]) (rest := []) hE hK hN hP hS (s_X9_asks l D K ad v2 ar2 al2 hI (w_1) (by omega) ((hq2 0 6 (by decide)).trans ew_1) (x2_1) (by omega) ex2_1 (1111) (by omega) (by omega)) (x_recv hK hP 0 (by decide) (yG_9 rfl) rfl) rfl mw_1554 mw_1556 mw_53 mw_123 mw_1557 (by decide +kernel) ⟨by decide, by decide⟩ hl.1 rfl (Nat.le_of_ble_eq_true rfl) ⟨Nat.zero_le _, Nat.zero_le _⟩ dX9_pairLine_19 (fun v4 ar4 al4 H locs hq4 hP hS => ?_)
    obtain ⟨hI, hq4, hqa4, hql4, x4_1, hx4, ex4_1⟩ := hq4
    have hI : YI v4 ar4 := hI
    refine lv_aload_n hE.1 hE.2.1 dX9_pairLine_22 rfl (lv_at hl 1 rfl) ?_
    obtain ⟨z5, hz5, ez5⟩ := iI_of (v4 0 12)
    refine x_get (x := .int (v4 0 12)) hE hK hP 0 (by decide) (yG_9 rfl) rfl hin9 12 (by decide) mw_1346 rfl dX9_pairLine_23 ?_
    refine x_top (y := iI (z5)) ez5 ?_
    refine s_if_ne (a := z5) (tgt := 95) hE.1 hE.2.1 (by omega) dX9_pairLine_26 (by decide) (fun c6 => ?_) (fun c6 => ?_)
    · skip
      refine lv_aload_n hE.1 hE.2.1 dX9_pairLine_95 rfl (lv_at hl 1 rfl) ?_
      refine x_vi (nn := 0) (As := []) (rest := []) hE hK hN hP hS (s_X9_motifHere l D K ad v4 ar4 al4 hI (w_1) (by omega) ((hq4 0 6 (by decide)).trans ((hq2 0 6 (by decide)).trans ew_1)) (x4_1) (by omega) ex4_1 (z1) (by omega) ((congrFun (hqa4 7 (by decide)) 26).trans ((congrFun (hqa2 7 (by decide)) 26).trans ez1))  (by omega)) (x_recv hK hP 0 (by decide) (yG_9 rfl) rfl) rfl mw_1609 mw_1611 mw_64 mw_123 mw_1612 (by decide +kernel) ⟨by decide, by decide⟩ hl.1 rfl (Nat.le_of_ble_eq_true rfl) ⟨Nat.zero_le _, Nat.zero_le _⟩ dX9_pairLine_96 (fun r7 v7 ar7 al7 H locs hq7 hP hS => ?_)
      obtain ⟨⟨z7, hz7, rfl⟩, hI, hq7, hqa7, hql7, x7_1, x7_2, x7_3, hx7, ex7_1, ex7_2, ex7_3⟩ := hq7
      have hI : YI v7 ar7 := hI
      refine lv_istore_n (lv' := [(3, .int (iI (z7))), (2, .int (iI (z2))), (0, .ref (ad 0)), (1, .int (iI (z_1)))]) hE.1 hE.2.1 dX9_pairLine_99 rfl hl (by decide) rfl (fun ls hl => ?_)
      refine lv_aload_n hE.1 hE.2.1 dX9_pairLine_100 rfl (lv_at hl 2 rfl) ?_
      refine x_get (x := .int (v7 0 12)) hE hK hP 0 (by decide) (yG_9 rfl) rfl hin9 12 (by decide) mw_1346 rfl dX9_pairLine_101 ?_
      refine x_top (y := iI (x7_3)) ex7_3 ?_
      refine s_if_eq (a := x7_3) (tgt := 108) hE.1 hE.2.1 (by omega) dX9_pairLine_104 (by decide) (fun c8 => ?_) (fun c8 => ?_)
      · skip
        refine lv_aload_n hE.1 hE.2.1 dX9_pairLine_108 rfl (lv_at hl 2 rfl) ?_
        refine x_get (x := .ref (ad 8)) hE hK hP 0 (by decide) (yG_9 rfl) rfl hin9 18 (by decide) mw_1352 rfl dX9_pairLine_109 ?_
        refine lv_aload_n hE.1 hE.2.1 dX9_pairLine_112 rfl (lv_at hl 2 rfl) ?_
        refine lv_iload_n hE.1 hE.2.1 dX9_pairLine_113 rfl (lv_at hl 1 rfl) ?_
        refine x_vp (nn := 1) (As := [.int (iI (z2))]) (rest := [.ref (ad 8)]) hE (s_X9_placeRead l D K ad v7 ar7 al7 hI  (z2) (by omega)) wPre_blind (wPre_now hK hN hP) (x_recv hK hP 0 (by decide) (yG_9 rfl) rfl) rfl mw_1594 mw_1596 mw_62 mw_123 mw_1597 (by decide +kernel) ⟨by decide, by decide⟩ hl.1 rfl (Nat.le_of_ble_eq_true rfl) ⟨Nat.zero_le _, Nat.zero_le _⟩ dX9_pairLine_114 (fun r9 hr9 => ?_)
        obtain ⟨z9, hz9, rfl⟩ := hr9
        refine lv_iload_n hE.1 hE.2.1 dX9_pairLine_117 rfl (lv_at hl 3 rfl) ?_
        refine s_if_eq (a := z_1) (tgt := 126) hE.1 hE.2.1 (by omega) dX9_pairLine_118 (by decide) (fun _ => ?_) (fun c10 => False.elim (by omega))
        refine lv_bipush (v := iI (8)) hE.1 hE.2.1 dX9_pairLine_126 (by decide) ?_
        refine lv_iadd hE.1 hE.2.1 dX9_pairLine_128 ?_
        refine x_top (y := iI (z9 + 8)) ((iI_add (z9) (8)).trans (congrArg iI (by omega))) ?_
        refine lv_dup2_11 hE.1 hE.2.1 dX9_pairLine_129 rfl rfl ?_
        refine x_iald (j := iI (z9 + 8)) hE hK hP 8 (by decide) (yG_10 rfl) (iI_in (n := 405) (by omega)) dX9_pairLine_130 ?_
        obtain ⟨z13, hz13, ez13⟩ := iI_of (ar7 8 (iI (z9 + 8)).toNatClampNeg)
        refine x_top ez13 ?_
        refine lv_iconst (v := iI (1)) hE.1 hE.2.1 dX9_pairLine_131 (by decide) ?_
        refine lv_iload_n hE.1 hE.2.1 dX9_pairLine_132 rfl (lv_at hl 0 rfl) ?_
        refine lv_ishl hE.1 hE.2.1 dX9_pairLine_133 ?_
        obtain ⟨z14, hz14, ez14⟩ := iI_shl8 (a := z7) (by omega)
        refine x_top ez14 ?_
        refine lv_ior hE.1 hE.2.1 dX9_pairLine_134 ?_
        obtain ⟨z15, hz15, ez15⟩ := iI_of (iI (z13) ||| iI (z14))
        refine x_top ez15 ?_
        refine x_iast (j := iI (z9 + 8)) hE hK hN hP hS 8 (by decide) (fun _ => yG_10 rfl) (iI_in (n := 405) (by omega)) dX9_pairLine_135 (fun ar16 H locs ha16 hP hS => ?_)
        have hI := YI_ast hI ha16 (by decide)
        refine lv_iload_n hE.1 hE.2.1 dX9_pairLine_136 rfl (lv_at hl 3 rfl) ?_
        refine s_if_ne (a := z_1) (tgt := 159) hE.1 hE.2.1 (by omega) dX9_pairLine_137 (by decide) (fun c17 => False.elim (by omega)) (fun _ => ?_)
        refine lv_aload_n hE.1 hE.2.1 dX9_pairLine_140 rfl (lv_at hl 2 rfl) ?_
        refine x_get (x := .ref (ad 8)) hE hK hP 0 (by decide) (yG_9 rfl) rfl hin9 18 (by decide) mw_1352 rfl dX9_pairLine_141 ?_
        refine lv_aload_n hE.1 hE.2.1 dX9_pairLine_144 rfl (lv_at hl 2 rfl) ?_
        refine lv_iload_n hE.1 hE.2.1 dX9_pairLine_145 rfl (lv_at hl 0 rfl) ?_
        refine x_vp (nn := 1) (As := [.int (iI (z7))]) (rest := [.ref (ad 8)]) hE (s_X9_placeRead l D K ad v7 ar16 al7 hI  (z7) (by omega)) wPre_blind (wPre_now hK hN hP) (x_recv hK hP 0 (by decide) (yG_9 rfl) rfl) rfl mw_1594 mw_1596 mw_62 mw_123 mw_1597 (by decide +kernel) ⟨by decide, by decide⟩ hl.1 rfl (Nat.le_of_ble_eq_true rfl) ⟨Nat.zero_le _, Nat.zero_le _⟩ dX9_pairLine_146 (fun r18 hr18 => ?_)
        obtain ⟨z18, hz18, rfl⟩ := hr18
        refine lv_bipush (v := iI (8)) hE.1 hE.2.1 dX9_pairLine_149 (by decide) ?_
        refine lv_iadd hE.1 hE.2.1 dX9_pairLine_151 ?_
        refine x_top (y := iI (z18 + 8)) ((iI_add (z18) (8)).trans (congrArg iI (by omega))) ?_
        refine lv_dup2_11 hE.1 hE.2.1 dX9_pairLine_152 rfl rfl ?_
        refine x_iald (j := iI (z18 + 8)) hE hK hP 8 (by decide) (yG_10 rfl) (iI_in (n := 405) (by omega)) dX9_pairLine_153 ?_
        obtain ⟨z21, hz21, ez21⟩ := iI_of (ar16 8 (iI (z18 + 8)).toNatClampNeg)
        refine x_top ez21 ?_
        refine lv_iconst (v := iI (1)) hE.1 hE.2.1 dX9_pairLine_154 (by decide) ?_
        refine lv_iload_n hE.1 hE.2.1 dX9_pairLine_155 rfl (lv_at hl 1 rfl) ?_
        refine lv_ishl hE.1 hE.2.1 dX9_pairLine_156 ?_
        obtain ⟨z22, hz22, ez22⟩ := iI_shl8 (a := z2) (by omega)
        refine x_top ez22 ?_
        refine lv_ior hE.1 hE.2.1 dX9_pairLine_157 ?_
        obtain ⟨z23, hz23, ez23⟩ := iI_of (iI (z21) ||| iI (z22))
        refine x_top ez23 ?_
        refine x_iast (j := iI (z18 + 8)) hE hK hN hP hS 8 (by decide) (fun _ => yG_10 rfl) (iI_in (n := 405) (by omega)) dX9_pairLine_158 (fun ar24 H locs ha24 hP hS => ?_)
        have hI := YI_ast hI ha24 (by decide)
        exact kr v7 ar24 al7 _ _ _ _ ⟨hI, fun i j h => ((hq7 i j (fun q => h (mem_sub (by decide) q))).trans ((hq4 i j (fun q => h (mem_sub (by decide) q))).trans (hq2 i j (fun q => h (mem_sub (by decide) q))))), fun i h => ((upx_ne ha24 i (fun q => h (by rw [q]; decide))).trans ((upx_ne ha16 i (fun q => h (by rw [q]; decide))).trans ((hqa7 i (fun q => h (mem_subn (by decide) q))).trans ((hqa4 i (fun q => h (mem_subn (by decide) q))).trans (hqa2 i (fun q => h (mem_subn (by decide) q))))))), fun i h => ((hql7 i (fun q => h (mem_subn (by decide) q))).trans ((hql4 i (fun q => h (mem_subn (by decide) q))).trans (hql2 i (fun q => h (mem_subn (by decide) q))))), x7_1, by omega, ex7_1⟩ hP hS dX9_pairLine_159
      · skip
        exact kr v7 ar7 al7 _ _ _ _ ⟨hI, fun i j h => ((hq7 i j (fun q => h (mem_sub (by decide) q))).trans ((hq4 i j (fun q => h (mem_sub (by decide) q))).trans (hq2 i j (fun q => h (mem_sub (by decide) q))))), fun i h => ((hqa7 i (fun q => h (mem_subn (by decide) q))).trans ((hqa4 i (fun q => h (mem_subn (by decide) q))).trans (hqa2 i (fun q => h (mem_subn (by decide) q))))), fun i h => ((hql7 i (fun q => h (mem_subn (by decide) q))).trans ((hql4 i (fun q => h (mem_subn (by decide) q))).trans (hql2 i (fun q => h (mem_subn (by decide) q))))), x7_1, by omega, ex7_1⟩ hP hS dX9_pairLine_107
    · skip
      refine lv_aload_n hE.1 hE.2.1 dX9_pairLine_29 rfl (lv_at hl 1 rfl) ?_
      obtain ⟨z25, hz25, ez25⟩ := iI_of (v4 0 8)
      refine x_get (x := .int (v4 0 8)) hE hK hP 0 (by decide) (yG_9 rfl) rfl hin9 8 (by decide) mw_1342 rfl dX9_pairLine_30 ?_
      refine x_top (y := iI (z25)) ez25 ?_
      refine lv_iconst (v := iI (2)) hE.1 hE.2.1 dX9_pairLine_33 (by decide) ?_
      refine s_icmp_ne (a := z25) (b := 2) (tgt := 95) hE.1 hE.2.1 (by omega) (by omega) dX9_pairLine_34 (by decide) (fun c26 => ?_) (fun c26 => ?_)
      · skip
        refine lv_aload_n hE.1 hE.2.1 dX9_pairLine_95 rfl (lv_at hl 1 rfl) ?_
        refine x_vi (nn := 0) (As := []) (rest := []) hE hK hN hP hS (s_X9_motifHere l D K ad v4 ar4 al4 hI (w_1) (by omega) ((hq4 0 6 (by decide)).trans ((hq2 0 6 (by decide)).trans ew_1)) (x4_1) (by omega) ex4_1 (z1) (by omega) ((congrFun (hqa4 7 (by decide)) 26).trans ((congrFun (hqa2 7 (by decide)) 26).trans ez1))  (by omega)) (x_recv hK hP 0 (by decide) (yG_9 rfl) rfl) rfl mw_1609 mw_1611 mw_64 mw_123 mw_1612 (by decide +kernel) ⟨by decide, by decide⟩ hl.1 rfl (Nat.le_of_ble_eq_true rfl) ⟨Nat.zero_le _, Nat.zero_le _⟩ dX9_pairLine_96 (fun r27 v27 ar27 al27 H locs hq27 hP hS => ?_)
        obtain ⟨⟨z27, hz27, rfl⟩, hI, hq27, hqa27, hql27, x27_1, x27_2, x27_3, hx27, ex27_1, ex27_2, ex27_3⟩ := hq27
        have hI : YI v27 ar27 := hI
        refine lv_istore_n (lv' := [(3, .int (iI (z27))), (2, .int (iI (z2))), (0, .ref (ad 0)), (1, .int (iI (z_1)))]) hE.1 hE.2.1 dX9_pairLine_99 rfl hl (by decide) rfl (fun ls hl => ?_)
        refine lv_aload_n hE.1 hE.2.1 dX9_pairLine_100 rfl (lv_at hl 2 rfl) ?_
        refine x_get (x := .int (v27 0 12)) hE hK hP 0 (by decide) (yG_9 rfl) rfl hin9 12 (by decide) mw_1346 rfl dX9_pairLine_101 ?_
        refine x_top (y := iI (x27_3)) ex27_3 ?_
        refine s_if_eq (a := x27_3) (tgt := 108) hE.1 hE.2.1 (by omega) dX9_pairLine_104 (by decide) (fun c28 => ?_) (fun c28 => ?_)
        · skip
          refine lv_aload_n hE.1 hE.2.1 dX9_pairLine_108 rfl (lv_at hl 2 rfl) ?_
          refine x_get (x := .ref (ad 8)) hE hK hP 0 (by decide) (yG_9 rfl) rfl hin9 18 (by decide) mw_1352 rfl dX9_pairLine_109 ?_
          refine lv_aload_n hE.1 hE.2.1 dX9_pairLine_112 rfl (lv_at hl 2 rfl) ?_
          refine lv_iload_n hE.1 hE.2.1 dX9_pairLine_113 rfl (lv_at hl 1 rfl) ?_
          refine x_vp (nn := 1) (As := [.int (iI (z2))]) (rest := [.ref (ad 8)]) hE (s_X9_placeRead l D K ad v27 ar27 al27 hI  (z2) (by omega)) wPre_blind (wPre_now hK hN hP) (x_recv hK hP 0 (by decide) (yG_9 rfl) rfl) rfl mw_1594 mw_1596 mw_62 mw_123 mw_1597 (by decide +kernel) ⟨by decide, by decide⟩ hl.1 rfl (Nat.le_of_ble_eq_true rfl) ⟨Nat.zero_le _, Nat.zero_le _⟩ dX9_pairLine_114 (fun r29 hr29 => ?_)
          obtain ⟨z29, hz29, rfl⟩ := hr29
          refine lv_iload_n hE.1 hE.2.1 dX9_pairLine_117 rfl (lv_at hl 3 rfl) ?_
          refine s_if_eq (a := z_1) (tgt := 126) hE.1 hE.2.1 (by omega) dX9_pairLine_118 (by decide) (fun _ => ?_) (fun c30 => False.elim (by omega))
          refine lv_bipush (v := iI (8)) hE.1 hE.2.1 dX9_pairLine_126 (by decide) ?_
          refine lv_iadd hE.1 hE.2.1 dX9_pairLine_128 ?_
          refine x_top (y := iI (z29 + 8)) ((iI_add (z29) (8)).trans (congrArg iI (by omega))) ?_
          refine lv_dup2_11 hE.1 hE.2.1 dX9_pairLine_129 rfl rfl ?_
          refine x_iald (j := iI (z29 + 8)) hE hK hP 8 (by decide) (yG_10 rfl) (iI_in (n := 405) (by omega)) dX9_pairLine_130 ?_
          obtain ⟨z33, hz33, ez33⟩ := iI_of (ar27 8 (iI (z29 + 8)).toNatClampNeg)
          refine x_top ez33 ?_
          refine lv_iconst (v := iI (1)) hE.1 hE.2.1 dX9_pairLine_131 (by decide) ?_
          refine lv_iload_n hE.1 hE.2.1 dX9_pairLine_132 rfl (lv_at hl 0 rfl) ?_
          refine lv_ishl hE.1 hE.2.1 dX9_pairLine_133 ?_
          obtain ⟨z34, hz34, ez34⟩ := iI_shl8 (a := z27) (by omega)
          refine x_top ez34 ?_
          refine lv_ior hE.1 hE.2.1 dX9_pairLine_134 ?_
          obtain ⟨z35, hz35, ez35⟩ := iI_of (iI (z33) ||| iI (z34))
          refine x_top ez35 ?_
          refine x_iast (j := iI (z29 + 8)) hE hK hN hP hS 8 (by decide) (fun _ => yG_10 rfl) (iI_in (n := 405) (by omega)) dX9_pairLine_135 (fun ar36 H locs ha36 hP hS => ?_)
          have hI := YI_ast hI ha36 (by decide)
          refine lv_iload_n hE.1 hE.2.1 dX9_pairLine_136 rfl (lv_at hl 3 rfl) ?_
          refine s_if_ne (a := z_1) (tgt := 159) hE.1 hE.2.1 (by omega) dX9_pairLine_137 (by decide) (fun c37 => False.elim (by omega)) (fun _ => ?_)
          refine lv_aload_n hE.1 hE.2.1 dX9_pairLine_140 rfl (lv_at hl 2 rfl) ?_
          refine x_get (x := .ref (ad 8)) hE hK hP 0 (by decide) (yG_9 rfl) rfl hin9 18 (by decide) mw_1352 rfl dX9_pairLine_141 ?_
          refine lv_aload_n hE.1 hE.2.1 dX9_pairLine_144 rfl (lv_at hl 2 rfl) ?_
          refine lv_iload_n hE.1 hE.2.1 dX9_pairLine_145 rfl (lv_at hl 0 rfl) ?_
          refine x_vp (nn := 1) (As := [.int (iI (z27))]) (rest := [.ref (ad 8)]) hE (s_X9_placeRead l D K ad v27 ar36 al27 hI  (z27) (by omega)) wPre_blind (wPre_now hK hN hP) (x_recv hK hP 0 (by decide) (yG_9 rfl) rfl) rfl mw_1594 mw_1596 mw_62 mw_123 mw_1597 (by decide +kernel) ⟨by decide, by decide⟩ hl.1 rfl (Nat.le_of_ble_eq_true rfl) ⟨Nat.zero_le _, Nat.zero_le _⟩ dX9_pairLine_146 (fun r38 hr38 => ?_)
          obtain ⟨z38, hz38, rfl⟩ := hr38
          refine lv_bipush (v := iI (8)) hE.1 hE.2.1 dX9_pairLine_149 (by decide) ?_
          refine lv_iadd hE.1 hE.2.1 dX9_pairLine_151 ?_
          refine x_top (y := iI (z38 + 8)) ((iI_add (z38) (8)).trans (congrArg iI (by omega))) ?_
          refine lv_dup2_11 hE.1 hE.2.1 dX9_pairLine_152 rfl rfl ?_
          refine x_iald (j := iI (z38 + 8)) hE hK hP 8 (by decide) (yG_10 rfl) (iI_in (n := 405) (by omega)) dX9_pairLine_153 ?_
          obtain ⟨z41, hz41, ez41⟩ := iI_of (ar36 8 (iI (z38 + 8)).toNatClampNeg)
          refine x_top ez41 ?_
          refine lv_iconst (v := iI (1)) hE.1 hE.2.1 dX9_pairLine_154 (by decide) ?_
          refine lv_iload_n hE.1 hE.2.1 dX9_pairLine_155 rfl (lv_at hl 1 rfl) ?_
          refine lv_ishl hE.1 hE.2.1 dX9_pairLine_156 ?_
          obtain ⟨z42, hz42, ez42⟩ := iI_shl8 (a := z2) (by omega)
          refine x_top ez42 ?_
          refine lv_ior hE.1 hE.2.1 dX9_pairLine_157 ?_
          obtain ⟨z43, hz43, ez43⟩ := iI_of (iI (z41) ||| iI (z42))
          refine x_top ez43 ?_
          refine x_iast (j := iI (z38 + 8)) hE hK hN hP hS 8 (by decide) (fun _ => yG_10 rfl) (iI_in (n := 405) (by omega)) dX9_pairLine_158 (fun ar44 H locs ha44 hP hS => ?_)
          have hI := YI_ast hI ha44 (by decide)
          exact kr v27 ar44 al27 _ _ _ _ ⟨hI, fun i j h => ((hq27 i j (fun q => h (mem_sub (by decide) q))).trans ((hq4 i j (fun q => h (mem_sub (by decide) q))).trans (hq2 i j (fun q => h (mem_sub (by decide) q))))), fun i h => ((upx_ne ha44 i (fun q => h (by rw [q]; decide))).trans ((upx_ne ha36 i (fun q => h (by rw [q]; decide))).trans ((hqa27 i (fun q => h (mem_subn (by decide) q))).trans ((hqa4 i (fun q => h (mem_subn (by decide) q))).trans (hqa2 i (fun q => h (mem_subn (by decide) q))))))), fun i h => ((hql27 i (fun q => h (mem_subn (by decide) q))).trans ((hql4 i (fun q => h (mem_subn (by decide) q))).trans (hql2 i (fun q => h (mem_subn (by decide) q))))), x27_1, by omega, ex27_1⟩ hP hS dX9_pairLine_159
        · skip
          exact kr v27 ar27 al27 _ _ _ _ ⟨hI, fun i j h => ((hq27 i j (fun q => h (mem_sub (by decide) q))).trans ((hq4 i j (fun q => h (mem_sub (by decide) q))).trans (hq2 i j (fun q => h (mem_sub (by decide) q))))), fun i h => ((hqa27 i (fun q => h (mem_subn (by decide) q))).trans ((hqa4 i (fun q => h (mem_subn (by decide) q))).trans (hqa2 i (fun q => h (mem_subn (by decide) q))))), fun i h => ((hql27 i (fun q => h (mem_subn (by decide) q))).trans ((hql4 i (fun q => h (mem_subn (by decide) q))).trans (hql2 i (fun q => h (mem_subn (by decide) q))))), x27_1, by omega, ex27_1⟩ hP hS dX9_pairLine_107
      · skip
        refine lv_aload_n hE.1 hE.2.1 dX9_pairLine_37 rfl (lv_at hl 1 rfl) ?_
        obtain ⟨z45, hz45, ez45⟩ := iI_of (v4 0 10)
        refine x_get (x := .int (v4 0 10)) hE hK hP 0 (by decide) (yG_9 rfl) rfl hin9 10 (by decide) mw_1344 rfl dX9_pairLine_38 ?_
        refine x_top (y := iI (z45)) ez45 ?_
        refine lv_aload_n hE.1 hE.2.1 dX9_pairLine_41 rfl (lv_at hl 1 rfl) ?_
        refine lv_iconst (v := iI (2)) hE.1 hE.2.1 dX9_pairLine_42 (by decide) ?_
        refine x_vp (nn := 1) (As := [.int (iI (2))]) (rest := [.int (iI (z45))]) hE (s_X9_hasRead_c0_2 l D K ad v4 ar4 al4 hI (z1) (by omega) ((congrFun (hqa4 7 (by decide)) 26).trans ((congrFun (hqa2 7 (by decide)) 26).trans ez1)) ) wPre_blind (wPre_now hK hN hP) (x_recv hK hP 0 (by decide) (yG_9 rfl) rfl) rfl mw_1586 mw_1588 mw_60 mw_123 mw_1589 (by decide +kernel) ⟨by decide, by decide⟩ hl.1 rfl (Nat.le_of_ble_eq_true rfl) ⟨Nat.zero_le _, Nat.zero_le _⟩ dX9_pairLine_43 (fun r46 hr46 => ?_)
        obtain ⟨z46, hz46, rfl⟩ := hr46
        refine s_icmp_ge (a := z45) (b := z46) (tgt := 95) hE.1 hE.2.1 (by omega) (by omega) dX9_pairLine_46 (by decide) (fun c47 => ?_) (fun c47 => ?_)
        · skip
          refine lv_aload_n hE.1 hE.2.1 dX9_pairLine_95 rfl (lv_at hl 1 rfl) ?_
          refine x_vi (nn := 0) (As := []) (rest := []) hE hK hN hP hS (s_X9_motifHere l D K ad v4 ar4 al4 hI (w_1) (by omega) ((hq4 0 6 (by decide)).trans ((hq2 0 6 (by decide)).trans ew_1)) (x4_1) (by omega) ex4_1 (z1) (by omega) ((congrFun (hqa4 7 (by decide)) 26).trans ((congrFun (hqa2 7 (by decide)) 26).trans ez1))  (by omega)) (x_recv hK hP 0 (by decide) (yG_9 rfl) rfl) rfl mw_1609 mw_1611 mw_64 mw_123 mw_1612 (by decide +kernel) ⟨by decide, by decide⟩ hl.1 rfl (Nat.le_of_ble_eq_true rfl) ⟨Nat.zero_le _, Nat.zero_le _⟩ dX9_pairLine_96 (fun r48 v48 ar48 al48 H locs hq48 hP hS => ?_)
          obtain ⟨⟨z48, hz48, rfl⟩, hI, hq48, hqa48, hql48, x48_1, x48_2, x48_3, hx48, ex48_1, ex48_2, ex48_3⟩ := hq48
          have hI : YI v48 ar48 := hI
          refine lv_istore_n (lv' := [(3, .int (iI (z48))), (2, .int (iI (z2))), (0, .ref (ad 0)), (1, .int (iI (z_1)))]) hE.1 hE.2.1 dX9_pairLine_99 rfl hl (by decide) rfl (fun ls hl => ?_)
          refine lv_aload_n hE.1 hE.2.1 dX9_pairLine_100 rfl (lv_at hl 2 rfl) ?_
          refine x_get (x := .int (v48 0 12)) hE hK hP 0 (by decide) (yG_9 rfl) rfl hin9 12 (by decide) mw_1346 rfl dX9_pairLine_101 ?_
          refine x_top (y := iI (x48_3)) ex48_3 ?_
          refine s_if_eq (a := x48_3) (tgt := 108) hE.1 hE.2.1 (by omega) dX9_pairLine_104 (by decide) (fun c49 => ?_) (fun c49 => ?_)
          · skip
            refine lv_aload_n hE.1 hE.2.1 dX9_pairLine_108 rfl (lv_at hl 2 rfl) ?_
            refine x_get (x := .ref (ad 8)) hE hK hP 0 (by decide) (yG_9 rfl) rfl hin9 18 (by decide) mw_1352 rfl dX9_pairLine_109 ?_
            refine lv_aload_n hE.1 hE.2.1 dX9_pairLine_112 rfl (lv_at hl 2 rfl) ?_
            refine lv_iload_n hE.1 hE.2.1 dX9_pairLine_113 rfl (lv_at hl 1 rfl) ?_
            refine x_vp (nn := 1) (As := [.int (iI (z2))]) (rest := [.ref (ad 8)]) hE (s_X9_placeRead l D K ad v48 ar48 al48 hI  (z2) (by omega)) wPre_blind (wPre_now hK hN hP) (x_recv hK hP 0 (by decide) (yG_9 rfl) rfl) rfl mw_1594 mw_1596 mw_62 mw_123 mw_1597 (by decide +kernel) ⟨by decide, by decide⟩ hl.1 rfl (Nat.le_of_ble_eq_true rfl) ⟨Nat.zero_le _, Nat.zero_le _⟩ dX9_pairLine_114 (fun r50 hr50 => ?_)
            obtain ⟨z50, hz50, rfl⟩ := hr50
            refine lv_iload_n hE.1 hE.2.1 dX9_pairLine_117 rfl (lv_at hl 3 rfl) ?_
            refine s_if_eq (a := z_1) (tgt := 126) hE.1 hE.2.1 (by omega) dX9_pairLine_118 (by decide) (fun _ => ?_) (fun c51 => False.elim (by omega))
            refine lv_bipush (v := iI (8)) hE.1 hE.2.1 dX9_pairLine_126 (by decide) ?_
            refine lv_iadd hE.1 hE.2.1 dX9_pairLine_128 ?_
            refine x_top (y := iI (z50 + 8)) ((iI_add (z50) (8)).trans (congrArg iI (by omega))) ?_
            refine lv_dup2_11 hE.1 hE.2.1 dX9_pairLine_129 rfl rfl ?_
            refine x_iald (j := iI (z50 + 8)) hE hK hP 8 (by decide) (yG_10 rfl) (iI_in (n := 405) (by omega)) dX9_pairLine_130 ?_
            obtain ⟨z54, hz54, ez54⟩ := iI_of (ar48 8 (iI (z50 + 8)).toNatClampNeg)
            refine x_top ez54 ?_
            refine lv_iconst (v := iI (1)) hE.1 hE.2.1 dX9_pairLine_131 (by decide) ?_
            refine lv_iload_n hE.1 hE.2.1 dX9_pairLine_132 rfl (lv_at hl 0 rfl) ?_
            refine lv_ishl hE.1 hE.2.1 dX9_pairLine_133 ?_
            obtain ⟨z55, hz55, ez55⟩ := iI_shl8 (a := z48) (by omega)
            refine x_top ez55 ?_
            refine lv_ior hE.1 hE.2.1 dX9_pairLine_134 ?_
            obtain ⟨z56, hz56, ez56⟩ := iI_of (iI (z54) ||| iI (z55))
            refine x_top ez56 ?_
            refine x_iast (j := iI (z50 + 8)) hE hK hN hP hS 8 (by decide) (fun _ => yG_10 rfl) (iI_in (n := 405) (by omega)) dX9_pairLine_135 (fun ar57 H locs ha57 hP hS => ?_)
            have hI := YI_ast hI ha57 (by decide)
            refine lv_iload_n hE.1 hE.2.1 dX9_pairLine_136 rfl (lv_at hl 3 rfl) ?_
            refine s_if_ne (a := z_1) (tgt := 159) hE.1 hE.2.1 (by omega) dX9_pairLine_137 (by decide) (fun c58 => False.elim (by omega)) (fun _ => ?_)
            refine lv_aload_n hE.1 hE.2.1 dX9_pairLine_140 rfl (lv_at hl 2 rfl) ?_
            refine x_get (x := .ref (ad 8)) hE hK hP 0 (by decide) (yG_9 rfl) rfl hin9 18 (by decide) mw_1352 rfl dX9_pairLine_141 ?_
            refine lv_aload_n hE.1 hE.2.1 dX9_pairLine_144 rfl (lv_at hl 2 rfl) ?_
            refine lv_iload_n hE.1 hE.2.1 dX9_pairLine_145 rfl (lv_at hl 0 rfl) ?_
            refine x_vp (nn := 1) (As := [.int (iI (z48))]) (rest := [.ref (ad 8)]) hE (s_X9_placeRead l D K ad v48 ar57 al48 hI  (z48) (by omega)) wPre_blind (wPre_now hK hN hP) (x_recv hK hP 0 (by decide) (yG_9 rfl) rfl) rfl mw_1594 mw_1596 mw_62 mw_123 mw_1597 (by decide +kernel) ⟨by decide, by decide⟩ hl.1 rfl (Nat.le_of_ble_eq_true rfl) ⟨Nat.zero_le _, Nat.zero_le _⟩ dX9_pairLine_146 (fun r59 hr59 => ?_)
            obtain ⟨z59, hz59, rfl⟩ := hr59
            refine lv_bipush (v := iI (8)) hE.1 hE.2.1 dX9_pairLine_149 (by decide) ?_
            refine lv_iadd hE.1 hE.2.1 dX9_pairLine_151 ?_
            refine x_top (y := iI (z59 + 8)) ((iI_add (z59) (8)).trans (congrArg iI (by omega))) ?_
            refine lv_dup2_11 hE.1 hE.2.1 dX9_pairLine_152 rfl rfl ?_
            refine x_iald (j := iI (z59 + 8)) hE hK hP 8 (by decide) (yG_10 rfl) (iI_in (n := 405) (by omega)) dX9_pairLine_153 ?_
            obtain ⟨z62, hz62, ez62⟩ := iI_of (ar57 8 (iI (z59 + 8)).toNatClampNeg)
            refine x_top ez62 ?_
            refine lv_iconst (v := iI (1)) hE.1 hE.2.1 dX9_pairLine_154 (by decide) ?_
            refine lv_iload_n hE.1 hE.2.1 dX9_pairLine_155 rfl (lv_at hl 1 rfl) ?_
            refine lv_ishl hE.1 hE.2.1 dX9_pairLine_156 ?_
            obtain ⟨z63, hz63, ez63⟩ := iI_shl8 (a := z2) (by omega)
            refine x_top ez63 ?_
            refine lv_ior hE.1 hE.2.1 dX9_pairLine_157 ?_
            obtain ⟨z64, hz64, ez64⟩ := iI_of (iI (z62) ||| iI (z63))
            refine x_top ez64 ?_
            refine x_iast (j := iI (z59 + 8)) hE hK hN hP hS 8 (by decide) (fun _ => yG_10 rfl) (iI_in (n := 405) (by omega)) dX9_pairLine_158 (fun ar65 H locs ha65 hP hS => ?_)
            have hI := YI_ast hI ha65 (by decide)
            exact kr v48 ar65 al48 _ _ _ _ ⟨hI, fun i j h => ((hq48 i j (fun q => h (mem_sub (by decide) q))).trans ((hq4 i j (fun q => h (mem_sub (by decide) q))).trans (hq2 i j (fun q => h (mem_sub (by decide) q))))), fun i h => ((upx_ne ha65 i (fun q => h (by rw [q]; decide))).trans ((upx_ne ha57 i (fun q => h (by rw [q]; decide))).trans ((hqa48 i (fun q => h (mem_subn (by decide) q))).trans ((hqa4 i (fun q => h (mem_subn (by decide) q))).trans (hqa2 i (fun q => h (mem_subn (by decide) q))))))), fun i h => ((hql48 i (fun q => h (mem_subn (by decide) q))).trans ((hql4 i (fun q => h (mem_subn (by decide) q))).trans (hql2 i (fun q => h (mem_subn (by decide) q))))), x48_1, by omega, ex48_1⟩ hP hS dX9_pairLine_159
          · skip
            exact kr v48 ar48 al48 _ _ _ _ ⟨hI, fun i j h => ((hq48 i j (fun q => h (mem_sub (by decide) q))).trans ((hq4 i j (fun q => h (mem_sub (by decide) q))).trans (hq2 i j (fun q => h (mem_sub (by decide) q))))), fun i h => ((hqa48 i (fun q => h (mem_subn (by decide) q))).trans ((hqa4 i (fun q => h (mem_subn (by decide) q))).trans (hqa2 i (fun q => h (mem_subn (by decide) q))))), fun i h => ((hql48 i (fun q => h (mem_subn (by decide) q))).trans ((hql4 i (fun q => h (mem_subn (by decide) q))).trans (hql2 i (fun q => h (mem_subn (by decide) q))))), x48_1, by omega, ex48_1⟩ hP hS dX9_pairLine_107
        · skip
          refine lv_aload_n hE.1 hE.2.1 dX9_pairLine_49 rfl (lv_at hl 1 rfl) ?_
          refine x_get (x := .int (v4 0 10)) hE hK hP 0 (by decide) (yG_9 rfl) rfl hin9 10 (by decide) mw_1344 rfl dX9_pairLine_50 ?_
          refine x_top (y := iI (z45)) ez45 ?_
          refine lv_iload_n hE.1 hE.2.1 dX9_pairLine_53 rfl (lv_at hl 0 rfl) ?_
          refine s_icmp_eq (a := z45) (b := z2) (tgt := 90) hE.1 hE.2.1 (by omega) (by omega) dX9_pairLine_54 (by decide) (fun c66 => ?_) (fun c66 => ?_)
          · skip
            refine lv_aload_n hE.1 hE.2.1 dX9_pairLine_90 rfl (lv_at hl 1 rfl) ?_
            refine lv_iconst (v := iI (2)) hE.1 hE.2.1 dX9_pairLine_91 (by decide) ?_
            refine x_vv (nn := 1) (As := [.int (iI (2))]) (rest := []) hE hK hN hP hS (s_X9_fails l D K ad v4 ar4 al4 hI  (2) (by omega)) (x_recv hK hP 0 (by decide) (yG_9 rfl) rfl) rfl mw_1566 mw_1568 mw_56 mw_123 mw_1569 (by decide +kernel) ⟨by decide, by decide⟩ hl.1 rfl (Nat.le_of_ble_eq_true rfl) ⟨Nat.zero_le _, Nat.zero_le _⟩ dX9_pairLine_92 (fun v67 ar67 al67 H locs hq67 hP hS => ?_)
            obtain ⟨hI, hq67, hqa67, hql67, x67_1, hx67, ex67_1⟩ := hq67
            have hI : YI v67 ar67 := hI
            refine lv_aload_n hE.1 hE.2.1 dX9_pairLine_95 rfl (lv_at hl 1 rfl) ?_
            refine x_vi (nn := 0) (As := []) (rest := []) hE hK hN hP hS (s_X9_motifHere l D K ad v67 ar67 al67 hI (w_1) (by omega) ((hq67 0 6 (by decide)).trans ((hq4 0 6 (by decide)).trans ((hq2 0 6 (by decide)).trans ew_1))) (x4_1) (by omega) ((hq67 0 7 (by decide)).trans ex4_1) (z1) (by omega) ((congrFun (hqa67 7 (by decide)) 26).trans ((congrFun (hqa4 7 (by decide)) 26).trans ((congrFun (hqa2 7 (by decide)) 26).trans ez1)))  (by omega)) (x_recv hK hP 0 (by decide) (yG_9 rfl) rfl) rfl mw_1609 mw_1611 mw_64 mw_123 mw_1612 (by decide +kernel) ⟨by decide, by decide⟩ hl.1 rfl (Nat.le_of_ble_eq_true rfl) ⟨Nat.zero_le _, Nat.zero_le _⟩ dX9_pairLine_96 (fun r68 v68 ar68 al68 H locs hq68 hP hS => ?_)
            obtain ⟨⟨z68, hz68, rfl⟩, hI, hq68, hqa68, hql68, x68_1, x68_2, x68_3, hx68, ex68_1, ex68_2, ex68_3⟩ := hq68
            have hI : YI v68 ar68 := hI
            refine lv_istore_n (lv' := [(3, .int (iI (z68))), (2, .int (iI (z2))), (0, .ref (ad 0)), (1, .int (iI (z_1)))]) hE.1 hE.2.1 dX9_pairLine_99 rfl hl (by decide) rfl (fun ls hl => ?_)
            refine lv_aload_n hE.1 hE.2.1 dX9_pairLine_100 rfl (lv_at hl 2 rfl) ?_
            refine x_get (x := .int (v68 0 12)) hE hK hP 0 (by decide) (yG_9 rfl) rfl hin9 12 (by decide) mw_1346 rfl dX9_pairLine_101 ?_
            refine x_top (y := iI (x68_3)) ex68_3 ?_
            refine s_if_eq (a := x68_3) (tgt := 108) hE.1 hE.2.1 (by omega) dX9_pairLine_104 (by decide) (fun c69 => ?_) (fun c69 => ?_)
            · skip
              refine lv_aload_n hE.1 hE.2.1 dX9_pairLine_108 rfl (lv_at hl 2 rfl) ?_
              refine x_get (x := .ref (ad 8)) hE hK hP 0 (by decide) (yG_9 rfl) rfl hin9 18 (by decide) mw_1352 rfl dX9_pairLine_109 ?_
              refine lv_aload_n hE.1 hE.2.1 dX9_pairLine_112 rfl (lv_at hl 2 rfl) ?_
              refine lv_iload_n hE.1 hE.2.1 dX9_pairLine_113 rfl (lv_at hl 1 rfl) ?_
              refine x_vp (nn := 1) (As := [.int (iI (z2))]) (rest := [.ref (ad 8)]) hE (s_X9_placeRead l D K ad v68 ar68 al68 hI  (z2) (by omega)) wPre_blind (wPre_now hK hN hP) (x_recv hK hP 0 (by decide) (yG_9 rfl) rfl) rfl mw_1594 mw_1596 mw_62 mw_123 mw_1597 (by decide +kernel) ⟨by decide, by decide⟩ hl.1 rfl (Nat.le_of_ble_eq_true rfl) ⟨Nat.zero_le _, Nat.zero_le _⟩ dX9_pairLine_114 (fun r70 hr70 => ?_)
              obtain ⟨z70, hz70, rfl⟩ := hr70
              refine lv_iload_n hE.1 hE.2.1 dX9_pairLine_117 rfl (lv_at hl 3 rfl) ?_
              refine s_if_eq (a := z_1) (tgt := 126) hE.1 hE.2.1 (by omega) dX9_pairLine_118 (by decide) (fun _ => ?_) (fun c71 => False.elim (by omega))
              refine lv_bipush (v := iI (8)) hE.1 hE.2.1 dX9_pairLine_126 (by decide) ?_
              refine lv_iadd hE.1 hE.2.1 dX9_pairLine_128 ?_
              refine x_top (y := iI (z70 + 8)) ((iI_add (z70) (8)).trans (congrArg iI (by omega))) ?_
              refine lv_dup2_11 hE.1 hE.2.1 dX9_pairLine_129 rfl rfl ?_
              refine x_iald (j := iI (z70 + 8)) hE hK hP 8 (by decide) (yG_10 rfl) (iI_in (n := 405) (by omega)) dX9_pairLine_130 ?_
              obtain ⟨z74, hz74, ez74⟩ := iI_of (ar68 8 (iI (z70 + 8)).toNatClampNeg)
              refine x_top ez74 ?_
              refine lv_iconst (v := iI (1)) hE.1 hE.2.1 dX9_pairLine_131 (by decide) ?_
              refine lv_iload_n hE.1 hE.2.1 dX9_pairLine_132 rfl (lv_at hl 0 rfl) ?_
              refine lv_ishl hE.1 hE.2.1 dX9_pairLine_133 ?_
              obtain ⟨z75, hz75, ez75⟩ := iI_shl8 (a := z68) (by omega)
              refine x_top ez75 ?_
              refine lv_ior hE.1 hE.2.1 dX9_pairLine_134 ?_
              obtain ⟨z76, hz76, ez76⟩ := iI_of (iI (z74) ||| iI (z75))
              refine x_top ez76 ?_
              refine x_iast (j := iI (z70 + 8)) hE hK hN hP hS 8 (by decide) (fun _ => yG_10 rfl) (iI_in (n := 405) (by omega)) dX9_pairLine_135 (fun ar77 H locs ha77 hP hS => ?_)
              have hI := YI_ast hI ha77 (by decide)
              refine lv_iload_n hE.1 hE.2.1 dX9_pairLine_136 rfl (lv_at hl 3 rfl) ?_
              refine s_if_ne (a := z_1) (tgt := 159) hE.1 hE.2.1 (by omega) dX9_pairLine_137 (by decide) (fun c78 => False.elim (by omega)) (fun _ => ?_)
              refine lv_aload_n hE.1 hE.2.1 dX9_pairLine_140 rfl (lv_at hl 2 rfl) ?_
              refine x_get (x := .ref (ad 8)) hE hK hP 0 (by decide) (yG_9 rfl) rfl hin9 18 (by decide) mw_1352 rfl dX9_pairLine_141 ?_
              refine lv_aload_n hE.1 hE.2.1 dX9_pairLine_144 rfl (lv_at hl 2 rfl) ?_
              refine lv_iload_n hE.1 hE.2.1 dX9_pairLine_145 rfl (lv_at hl 0 rfl) ?_
              refine x_vp (nn := 1) (As := [.int (iI (z68))]) (rest := [.ref (ad 8)]) hE (s_X9_placeRead l D K ad v68 ar77 al68 hI  (z68) (by omega)) wPre_blind (wPre_now hK hN hP) (x_recv hK hP 0 (by decide) (yG_9 rfl) rfl) rfl mw_1594 mw_1596 mw_62 mw_123 mw_1597 (by decide +kernel) ⟨by decide, by decide⟩ hl.1 rfl (Nat.le_of_ble_eq_true rfl) ⟨Nat.zero_le _, Nat.zero_le _⟩ dX9_pairLine_146 (fun r79 hr79 => ?_)
              obtain ⟨z79, hz79, rfl⟩ := hr79
              refine lv_bipush (v := iI (8)) hE.1 hE.2.1 dX9_pairLine_149 (by decide) ?_
              refine lv_iadd hE.1 hE.2.1 dX9_pairLine_151 ?_
              refine x_top (y := iI (z79 + 8)) ((iI_add (z79) (8)).trans (congrArg iI (by omega))) ?_
              refine lv_dup2_11 hE.1 hE.2.1 dX9_pairLine_152 rfl rfl ?_
              refine x_iald (j := iI (z79 + 8)) hE hK hP 8 (by decide) (yG_10 rfl) (iI_in (n := 405) (by omega)) dX9_pairLine_153 ?_
              obtain ⟨z82, hz82, ez82⟩ := iI_of (ar77 8 (iI (z79 + 8)).toNatClampNeg)
              refine x_top ez82 ?_
              refine lv_iconst (v := iI (1)) hE.1 hE.2.1 dX9_pairLine_154 (by decide) ?_
              refine lv_iload_n hE.1 hE.2.1 dX9_pairLine_155 rfl (lv_at hl 1 rfl) ?_
              refine lv_ishl hE.1 hE.2.1 dX9_pairLine_156 ?_
              obtain ⟨z83, hz83, ez83⟩ := iI_shl8 (a := z2) (by omega)
              refine x_top ez83 ?_
              refine lv_ior hE.1 hE.2.1 dX9_pairLine_157 ?_
              obtain ⟨z84, hz84, ez84⟩ := iI_of (iI (z82) ||| iI (z83))
              refine x_top ez84 ?_
              refine x_iast (j := iI (z79 + 8)) hE hK hN hP hS 8 (by decide) (fun _ => yG_10 rfl) (iI_in (n := 405) (by omega)) dX9_pairLine_158 (fun ar85 H locs ha85 hP hS => ?_)
              have hI := YI_ast hI ha85 (by decide)
              exact kr v68 ar85 al68 _ _ _ _ ⟨hI, fun i j h => ((hq68 i j (fun q => h (mem_sub (by decide) q))).trans ((hq67 i j (fun q => h (mem_sub (by decide) q))).trans ((hq4 i j (fun q => h (mem_sub (by decide) q))).trans (hq2 i j (fun q => h (mem_sub (by decide) q)))))), fun i h => ((upx_ne ha85 i (fun q => h (by rw [q]; decide))).trans ((upx_ne ha77 i (fun q => h (by rw [q]; decide))).trans ((hqa68 i (fun q => h (mem_subn (by decide) q))).trans ((hqa67 i (fun q => h (mem_subn (by decide) q))).trans ((hqa4 i (fun q => h (mem_subn (by decide) q))).trans (hqa2 i (fun q => h (mem_subn (by decide) q)))))))), fun i h => ((hql68 i (fun q => h (mem_subn (by decide) q))).trans ((hql67 i (fun q => h (mem_subn (by decide) q))).trans ((hql4 i (fun q => h (mem_subn (by decide) q))).trans (hql2 i (fun q => h (mem_subn (by decide) q)))))), x68_1, by omega, ex68_1⟩ hP hS dX9_pairLine_159
            · skip
              exact kr v68 ar68 al68 _ _ _ _ ⟨hI, fun i j h => ((hq68 i j (fun q => h (mem_sub (by decide) q))).trans ((hq67 i j (fun q => h (mem_sub (by decide) q))).trans ((hq4 i j (fun q => h (mem_sub (by decide) q))).trans (hq2 i j (fun q => h (mem_sub (by decide) q)))))), fun i h => ((hqa68 i (fun q => h (mem_subn (by decide) q))).trans ((hqa67 i (fun q => h (mem_subn (by decide) q))).trans ((hqa4 i (fun q => h (mem_subn (by decide) q))).trans (hqa2 i (fun q => h (mem_subn (by decide) q)))))), fun i h => ((hql68 i (fun q => h (mem_subn (by decide) q))).trans ((hql67 i (fun q => h (mem_subn (by decide) q))).trans ((hql4 i (fun q => h (mem_subn (by decide) q))).trans (hql2 i (fun q => h (mem_subn (by decide) q)))))), x68_1, by omega, ex68_1⟩ hP hS dX9_pairLine_107
          · skip
            refine lv_aload_n hE.1 hE.2.1 dX9_pairLine_57 rfl (lv_at hl 1 rfl) ?_
            refine x_get (x := .ref (ad 8)) hE hK hP 0 (by decide) (yG_9 rfl) rfl hin9 18 (by decide) mw_1352 rfl dX9_pairLine_58 ?_
            refine lv_aload_n hE.1 hE.2.1 dX9_pairLine_61 rfl (lv_at hl 1 rfl) ?_
            refine lv_iload_n hE.1 hE.2.1 dX9_pairLine_62 rfl (lv_at hl 0 rfl) ?_
            refine x_vp (nn := 1) (As := [.int (iI (z2))]) (rest := [.ref (ad 8)]) hE (s_X9_placeRead l D K ad v4 ar4 al4 hI  (z2) (by omega)) wPre_blind (wPre_now hK hN hP) (x_recv hK hP 0 (by decide) (yG_9 rfl) rfl) rfl mw_1594 mw_1596 mw_62 mw_123 mw_1597 (by decide +kernel) ⟨by decide, by decide⟩ hl.1 rfl (Nat.le_of_ble_eq_true rfl) ⟨Nat.zero_le _, Nat.zero_le _⟩ dX9_pairLine_63 (fun r86 hr86 => ?_)
            obtain ⟨z86, hz86, rfl⟩ := hr86
            refine lv_iload_n hE.1 hE.2.1 dX9_pairLine_66 rfl (lv_at hl 2 rfl) ?_
            refine s_if_eq (a := z_1) (tgt := 75) hE.1 hE.2.1 (by omega) dX9_pairLine_67 (by decide) (fun _ => ?_) (fun c87 => False.elim (by omega))
            refine lv_bipush (v := iI (8)) hE.1 hE.2.1 dX9_pairLine_75 (by decide) ?_
            refine lv_iadd hE.1 hE.2.1 dX9_pairLine_77 ?_
            refine x_top (y := iI (z86 + 8)) ((iI_add (z86) (8)).trans (congrArg iI (by omega))) ?_
            refine x_iald (j := iI (z86 + 8)) hE hK hP 8 (by decide) (yG_10 rfl) (iI_in (n := 405) (by omega)) dX9_pairLine_78 ?_
            obtain ⟨z90, hz90, ez90⟩ := iI_of (ar4 8 (iI (z86 + 8)).toNatClampNeg)
            refine x_top ez90 ?_
            refine lv_aload_n hE.1 hE.2.1 dX9_pairLine_79 rfl (lv_at hl 1 rfl) ?_
            refine x_get (x := .int (v4 0 10)) hE hK hP 0 (by decide) (yG_9 rfl) rfl hin9 10 (by decide) mw_1344 rfl dX9_pairLine_80 ?_
            refine x_top (y := iI (z45)) ez45 ?_
            refine lv_ishr hE.1 hE.2.1 dX9_pairLine_83 ?_
            obtain ⟨z91, hz91, ez91⟩ := iI_of (iI (z90) >>> (iI (z45) &&& 31))
            refine x_top ez91 ?_
            refine lv_iconst (v := iI (1)) hE.1 hE.2.1 dX9_pairLine_84 (by decide) ?_
            refine lv_iand hE.1 hE.2.1 dX9_pairLine_85 ?_
            obtain ⟨z92, hz92, ez92⟩ := iI_and (iI (z91)) (iI (1)) 1 (by decide)
            refine x_top ez92 ?_
            refine lv_iconst (v := iI (1)) hE.1 hE.2.1 dX9_pairLine_86 (by decide) ?_
            refine s_icmp_ne (a := z92) (b := 1) (tgt := 95) hE.1 hE.2.1 (by omega) (by omega) dX9_pairLine_87 (by decide) (fun c93 => ?_) (fun c93 => ?_)
            · skip
              refine lv_aload_n hE.1 hE.2.1 dX9_pairLine_95 rfl (lv_at hl 1 rfl) ?_
              refine x_vi (nn := 0) (As := []) (rest := []) hE hK hN hP hS (s_X9_motifHere l D K ad v4 ar4 al4 hI (w_1) (by omega) ((hq4 0 6 (by decide)).trans ((hq2 0 6 (by decide)).trans ew_1)) (x4_1) (by omega) ex4_1 (z1) (by omega) ((congrFun (hqa4 7 (by decide)) 26).trans ((congrFun (hqa2 7 (by decide)) 26).trans ez1))  (by omega)) (x_recv hK hP 0 (by decide) (yG_9 rfl) rfl) rfl mw_1609 mw_1611 mw_64 mw_123 mw_1612 (by decide +kernel) ⟨by decide, by decide⟩ hl.1 rfl (Nat.le_of_ble_eq_true rfl) ⟨Nat.zero_le _, Nat.zero_le _⟩ dX9_pairLine_96 (fun r94 v94 ar94 al94 H locs hq94 hP hS => ?_)
              obtain ⟨⟨z94, hz94, rfl⟩, hI, hq94, hqa94, hql94, x94_1, x94_2, x94_3, hx94, ex94_1, ex94_2, ex94_3⟩ := hq94
              have hI : YI v94 ar94 := hI
              refine lv_istore_n (lv' := [(3, .int (iI (z94))), (2, .int (iI (z2))), (0, .ref (ad 0)), (1, .int (iI (z_1)))]) hE.1 hE.2.1 dX9_pairLine_99 rfl hl (by decide) rfl (fun ls hl => ?_)
              refine lv_aload_n hE.1 hE.2.1 dX9_pairLine_100 rfl (lv_at hl 2 rfl) ?_
              refine x_get (x := .int (v94 0 12)) hE hK hP 0 (by decide) (yG_9 rfl) rfl hin9 12 (by decide) mw_1346 rfl dX9_pairLine_101 ?_
              refine x_top (y := iI (x94_3)) ex94_3 ?_
              refine s_if_eq (a := x94_3) (tgt := 108) hE.1 hE.2.1 (by omega) dX9_pairLine_104 (by decide) (fun c95 => ?_) (fun c95 => ?_)
              · skip
                refine lv_aload_n hE.1 hE.2.1 dX9_pairLine_108 rfl (lv_at hl 2 rfl) ?_
                refine x_get (x := .ref (ad 8)) hE hK hP 0 (by decide) (yG_9 rfl) rfl hin9 18 (by decide) mw_1352 rfl dX9_pairLine_109 ?_
                refine lv_aload_n hE.1 hE.2.1 dX9_pairLine_112 rfl (lv_at hl 2 rfl) ?_
                refine lv_iload_n hE.1 hE.2.1 dX9_pairLine_113 rfl (lv_at hl 1 rfl) ?_
                refine x_vp (nn := 1) (As := [.int (iI (z2))]) (rest := [.ref (ad 8)]) hE (s_X9_placeRead l D K ad v94 ar94 al94 hI  (z2) (by omega)) wPre_blind (wPre_now hK hN hP) (x_recv hK hP 0 (by decide) (yG_9 rfl) rfl) rfl mw_1594 mw_1596 mw_62 mw_123 mw_1597 (by decide +kernel) ⟨by decide, by decide⟩ hl.1 rfl (Nat.le_of_ble_eq_true rfl) ⟨Nat.zero_le _, Nat.zero_le _⟩ dX9_pairLine_114 (fun r96 hr96 => ?_)
                obtain ⟨z96, hz96, rfl⟩ := hr96
                refine lv_iload_n hE.1 hE.2.1 dX9_pairLine_117 rfl (lv_at hl 3 rfl) ?_
                refine s_if_eq (a := z_1) (tgt := 126) hE.1 hE.2.1 (by omega) dX9_pairLine_118 (by decide) (fun _ => ?_) (fun c97 => False.elim (by omega))
                refine lv_bipush (v := iI (8)) hE.1 hE.2.1 dX9_pairLine_126 (by decide) ?_
                refine lv_iadd hE.1 hE.2.1 dX9_pairLine_128 ?_
                refine x_top (y := iI (z96 + 8)) ((iI_add (z96) (8)).trans (congrArg iI (by omega))) ?_
                refine lv_dup2_11 hE.1 hE.2.1 dX9_pairLine_129 rfl rfl ?_
                refine x_iald (j := iI (z96 + 8)) hE hK hP 8 (by decide) (yG_10 rfl) (iI_in (n := 405) (by omega)) dX9_pairLine_130 ?_
                obtain ⟨z100, hz100, ez100⟩ := iI_of (ar94 8 (iI (z96 + 8)).toNatClampNeg)
                refine x_top ez100 ?_
                refine lv_iconst (v := iI (1)) hE.1 hE.2.1 dX9_pairLine_131 (by decide) ?_
                refine lv_iload_n hE.1 hE.2.1 dX9_pairLine_132 rfl (lv_at hl 0 rfl) ?_
                refine lv_ishl hE.1 hE.2.1 dX9_pairLine_133 ?_
                obtain ⟨z101, hz101, ez101⟩ := iI_shl8 (a := z94) (by omega)
                refine x_top ez101 ?_
                refine lv_ior hE.1 hE.2.1 dX9_pairLine_134 ?_
                obtain ⟨z102, hz102, ez102⟩ := iI_of (iI (z100) ||| iI (z101))
                refine x_top ez102 ?_
                refine x_iast (j := iI (z96 + 8)) hE hK hN hP hS 8 (by decide) (fun _ => yG_10 rfl) (iI_in (n := 405) (by omega)) dX9_pairLine_135 (fun ar103 H locs ha103 hP hS => ?_)
                have hI := YI_ast hI ha103 (by decide)
                refine lv_iload_n hE.1 hE.2.1 dX9_pairLine_136 rfl (lv_at hl 3 rfl) ?_
                refine s_if_ne (a := z_1) (tgt := 159) hE.1 hE.2.1 (by omega) dX9_pairLine_137 (by decide) (fun c104 => False.elim (by omega)) (fun _ => ?_)
                refine lv_aload_n hE.1 hE.2.1 dX9_pairLine_140 rfl (lv_at hl 2 rfl) ?_
                refine x_get (x := .ref (ad 8)) hE hK hP 0 (by decide) (yG_9 rfl) rfl hin9 18 (by decide) mw_1352 rfl dX9_pairLine_141 ?_
                refine lv_aload_n hE.1 hE.2.1 dX9_pairLine_144 rfl (lv_at hl 2 rfl) ?_
                refine lv_iload_n hE.1 hE.2.1 dX9_pairLine_145 rfl (lv_at hl 0 rfl) ?_
                refine x_vp (nn := 1) (As := [.int (iI (z94))]) (rest := [.ref (ad 8)]) hE (s_X9_placeRead l D K ad v94 ar103 al94 hI  (z94) (by omega)) wPre_blind (wPre_now hK hN hP) (x_recv hK hP 0 (by decide) (yG_9 rfl) rfl) rfl mw_1594 mw_1596 mw_62 mw_123 mw_1597 (by decide +kernel) ⟨by decide, by decide⟩ hl.1 rfl (Nat.le_of_ble_eq_true rfl) ⟨Nat.zero_le _, Nat.zero_le _⟩ dX9_pairLine_146 (fun r105 hr105 => ?_)
                obtain ⟨z105, hz105, rfl⟩ := hr105
                refine lv_bipush (v := iI (8)) hE.1 hE.2.1 dX9_pairLine_149 (by decide) ?_
                refine lv_iadd hE.1 hE.2.1 dX9_pairLine_151 ?_
                refine x_top (y := iI (z105 + 8)) ((iI_add (z105) (8)).trans (congrArg iI (by omega))) ?_
                refine lv_dup2_11 hE.1 hE.2.1 dX9_pairLine_152 rfl rfl ?_
                refine x_iald (j := iI (z105 + 8)) hE hK hP 8 (by decide) (yG_10 rfl) (iI_in (n := 405) (by omega)) dX9_pairLine_153 ?_
                obtain ⟨z108, hz108, ez108⟩ := iI_of (ar103 8 (iI (z105 + 8)).toNatClampNeg)
                refine x_top ez108 ?_
                refine lv_iconst (v := iI (1)) hE.1 hE.2.1 dX9_pairLine_154 (by decide) ?_
                refine lv_iload_n hE.1 hE.2.1 dX9_pairLine_155 rfl (lv_at hl 1 rfl) ?_
                refine lv_ishl hE.1 hE.2.1 dX9_pairLine_156 ?_
                obtain ⟨z109, hz109, ez109⟩ := iI_shl8 (a := z2) (by omega)
                refine x_top ez109 ?_
                refine lv_ior hE.1 hE.2.1 dX9_pairLine_157 ?_
                obtain ⟨z110, hz110, ez110⟩ := iI_of (iI (z108) ||| iI (z109))
                refine x_top ez110 ?_
                refine x_iast (j := iI (z105 + 8)) hE hK hN hP hS 8 (by decide) (fun _ => yG_10 rfl) (iI_in (n := 405) (by omega)) dX9_pairLine_158 (fun ar111 H locs ha111 hP hS => ?_)
                have hI := YI_ast hI ha111 (by decide)
                exact kr v94 ar111 al94 _ _ _ _ ⟨hI, fun i j h => ((hq94 i j (fun q => h (mem_sub (by decide) q))).trans ((hq4 i j (fun q => h (mem_sub (by decide) q))).trans (hq2 i j (fun q => h (mem_sub (by decide) q))))), fun i h => ((upx_ne ha111 i (fun q => h (by rw [q]; decide))).trans ((upx_ne ha103 i (fun q => h (by rw [q]; decide))).trans ((hqa94 i (fun q => h (mem_subn (by decide) q))).trans ((hqa4 i (fun q => h (mem_subn (by decide) q))).trans (hqa2 i (fun q => h (mem_subn (by decide) q))))))), fun i h => ((hql94 i (fun q => h (mem_subn (by decide) q))).trans ((hql4 i (fun q => h (mem_subn (by decide) q))).trans (hql2 i (fun q => h (mem_subn (by decide) q))))), x94_1, by omega, ex94_1⟩ hP hS dX9_pairLine_159
              · skip
                exact kr v94 ar94 al94 _ _ _ _ ⟨hI, fun i j h => ((hq94 i j (fun q => h (mem_sub (by decide) q))).trans ((hq4 i j (fun q => h (mem_sub (by decide) q))).trans (hq2 i j (fun q => h (mem_sub (by decide) q))))), fun i h => ((hqa94 i (fun q => h (mem_subn (by decide) q))).trans ((hqa4 i (fun q => h (mem_subn (by decide) q))).trans (hqa2 i (fun q => h (mem_subn (by decide) q))))), fun i h => ((hql94 i (fun q => h (mem_subn (by decide) q))).trans ((hql4 i (fun q => h (mem_subn (by decide) q))).trans (hql2 i (fun q => h (mem_subn (by decide) q))))), x94_1, by omega, ex94_1⟩ hP hS dX9_pairLine_107
            · skip
              refine lv_aload_n hE.1 hE.2.1 dX9_pairLine_90 rfl (lv_at hl 1 rfl) ?_
              refine lv_iconst (v := iI (2)) hE.1 hE.2.1 dX9_pairLine_91 (by decide) ?_
              refine x_vv (nn := 1) (As := [.int (iI (2))]) (rest := []) hE hK hN hP hS (s_X9_fails l D K ad v4 ar4 al4 hI  (2) (by omega)) (x_recv hK hP 0 (by decide) (yG_9 rfl) rfl) rfl mw_1566 mw_1568 mw_56 mw_123 mw_1569 (by decide +kernel) ⟨by decide, by decide⟩ hl.1 rfl (Nat.le_of_ble_eq_true rfl) ⟨Nat.zero_le _, Nat.zero_le _⟩ dX9_pairLine_92 (fun v112 ar112 al112 H locs hq112 hP hS => ?_)
              obtain ⟨hI, hq112, hqa112, hql112, x112_1, hx112, ex112_1⟩ := hq112
              have hI : YI v112 ar112 := hI
              refine lv_aload_n hE.1 hE.2.1 dX9_pairLine_95 rfl (lv_at hl 1 rfl) ?_
              refine x_vi (nn := 0) (As := []) (rest := []) hE hK hN hP hS (s_X9_motifHere l D K ad v112 ar112 al112 hI (w_1) (by omega) ((hq112 0 6 (by decide)).trans ((hq4 0 6 (by decide)).trans ((hq2 0 6 (by decide)).trans ew_1))) (x4_1) (by omega) ((hq112 0 7 (by decide)).trans ex4_1) (z1) (by omega) ((congrFun (hqa112 7 (by decide)) 26).trans ((congrFun (hqa4 7 (by decide)) 26).trans ((congrFun (hqa2 7 (by decide)) 26).trans ez1)))  (by omega)) (x_recv hK hP 0 (by decide) (yG_9 rfl) rfl) rfl mw_1609 mw_1611 mw_64 mw_123 mw_1612 (by decide +kernel) ⟨by decide, by decide⟩ hl.1 rfl (Nat.le_of_ble_eq_true rfl) ⟨Nat.zero_le _, Nat.zero_le _⟩ dX9_pairLine_96 (fun r113 v113 ar113 al113 H locs hq113 hP hS => ?_)
              obtain ⟨⟨z113, hz113, rfl⟩, hI, hq113, hqa113, hql113, x113_1, x113_2, x113_3, hx113, ex113_1, ex113_2, ex113_3⟩ := hq113
              have hI : YI v113 ar113 := hI
              refine lv_istore_n (lv' := [(3, .int (iI (z113))), (2, .int (iI (z2))), (0, .ref (ad 0)), (1, .int (iI (z_1)))]) hE.1 hE.2.1 dX9_pairLine_99 rfl hl (by decide) rfl (fun ls hl => ?_)
              refine lv_aload_n hE.1 hE.2.1 dX9_pairLine_100 rfl (lv_at hl 2 rfl) ?_
              refine x_get (x := .int (v113 0 12)) hE hK hP 0 (by decide) (yG_9 rfl) rfl hin9 12 (by decide) mw_1346 rfl dX9_pairLine_101 ?_
              refine x_top (y := iI (x113_3)) ex113_3 ?_
              refine s_if_eq (a := x113_3) (tgt := 108) hE.1 hE.2.1 (by omega) dX9_pairLine_104 (by decide) (fun c114 => ?_) (fun c114 => ?_)
              · skip
                refine lv_aload_n hE.1 hE.2.1 dX9_pairLine_108 rfl (lv_at hl 2 rfl) ?_
                refine x_get (x := .ref (ad 8)) hE hK hP 0 (by decide) (yG_9 rfl) rfl hin9 18 (by decide) mw_1352 rfl dX9_pairLine_109 ?_
                refine lv_aload_n hE.1 hE.2.1 dX9_pairLine_112 rfl (lv_at hl 2 rfl) ?_
                refine lv_iload_n hE.1 hE.2.1 dX9_pairLine_113 rfl (lv_at hl 1 rfl) ?_
                refine x_vp (nn := 1) (As := [.int (iI (z2))]) (rest := [.ref (ad 8)]) hE (s_X9_placeRead l D K ad v113 ar113 al113 hI  (z2) (by omega)) wPre_blind (wPre_now hK hN hP) (x_recv hK hP 0 (by decide) (yG_9 rfl) rfl) rfl mw_1594 mw_1596 mw_62 mw_123 mw_1597 (by decide +kernel) ⟨by decide, by decide⟩ hl.1 rfl (Nat.le_of_ble_eq_true rfl) ⟨Nat.zero_le _, Nat.zero_le _⟩ dX9_pairLine_114 (fun r115 hr115 => ?_)
                obtain ⟨z115, hz115, rfl⟩ := hr115
                refine lv_iload_n hE.1 hE.2.1 dX9_pairLine_117 rfl (lv_at hl 3 rfl) ?_
                refine s_if_eq (a := z_1) (tgt := 126) hE.1 hE.2.1 (by omega) dX9_pairLine_118 (by decide) (fun _ => ?_) (fun c116 => False.elim (by omega))
                refine lv_bipush (v := iI (8)) hE.1 hE.2.1 dX9_pairLine_126 (by decide) ?_
                refine lv_iadd hE.1 hE.2.1 dX9_pairLine_128 ?_
                refine x_top (y := iI (z115 + 8)) ((iI_add (z115) (8)).trans (congrArg iI (by omega))) ?_
                refine lv_dup2_11 hE.1 hE.2.1 dX9_pairLine_129 rfl rfl ?_
                refine x_iald (j := iI (z115 + 8)) hE hK hP 8 (by decide) (yG_10 rfl) (iI_in (n := 405) (by omega)) dX9_pairLine_130 ?_
                obtain ⟨z119, hz119, ez119⟩ := iI_of (ar113 8 (iI (z115 + 8)).toNatClampNeg)
                refine x_top ez119 ?_
                refine lv_iconst (v := iI (1)) hE.1 hE.2.1 dX9_pairLine_131 (by decide) ?_
                refine lv_iload_n hE.1 hE.2.1 dX9_pairLine_132 rfl (lv_at hl 0 rfl) ?_
                refine lv_ishl hE.1 hE.2.1 dX9_pairLine_133 ?_
                obtain ⟨z120, hz120, ez120⟩ := iI_shl8 (a := z113) (by omega)
                refine x_top ez120 ?_
                refine lv_ior hE.1 hE.2.1 dX9_pairLine_134 ?_
                obtain ⟨z121, hz121, ez121⟩ := iI_of (iI (z119) ||| iI (z120))
                refine x_top ez121 ?_
                refine x_iast (j := iI (z115 + 8)) hE hK hN hP hS 8 (by decide) (fun _ => yG_10 rfl) (iI_in (n := 405) (by omega)) dX9_pairLine_135 (fun ar122 H locs ha122 hP hS => ?_)
                have hI := YI_ast hI ha122 (by decide)
                refine lv_iload_n hE.1 hE.2.1 dX9_pairLine_136 rfl (lv_at hl 3 rfl) ?_
                refine s_if_ne (a := z_1) (tgt := 159) hE.1 hE.2.1 (by omega) dX9_pairLine_137 (by decide) (fun c123 => False.elim (by omega)) (fun _ => ?_)
                refine lv_aload_n hE.1 hE.2.1 dX9_pairLine_140 rfl (lv_at hl 2 rfl) ?_
                refine x_get (x := .ref (ad 8)) hE hK hP 0 (by decide) (yG_9 rfl) rfl hin9 18 (by decide) mw_1352 rfl dX9_pairLine_141 ?_
                refine lv_aload_n hE.1 hE.2.1 dX9_pairLine_144 rfl (lv_at hl 2 rfl) ?_
                refine lv_iload_n hE.1 hE.2.1 dX9_pairLine_145 rfl (lv_at hl 0 rfl) ?_
                refine x_vp (nn := 1) (As := [.int (iI (z113))]) (rest := [.ref (ad 8)]) hE (s_X9_placeRead l D K ad v113 ar122 al113 hI  (z113) (by omega)) wPre_blind (wPre_now hK hN hP) (x_recv hK hP 0 (by decide) (yG_9 rfl) rfl) rfl mw_1594 mw_1596 mw_62 mw_123 mw_1597 (by decide +kernel) ⟨by decide, by decide⟩ hl.1 rfl (Nat.le_of_ble_eq_true rfl) ⟨Nat.zero_le _, Nat.zero_le _⟩ dX9_pairLine_146 (fun r124 hr124 => ?_)
                obtain ⟨z124, hz124, rfl⟩ := hr124
                refine lv_bipush (v := iI (8)) hE.1 hE.2.1 dX9_pairLine_149 (by decide) ?_
                refine lv_iadd hE.1 hE.2.1 dX9_pairLine_151 ?_
                refine x_top (y := iI (z124 + 8)) ((iI_add (z124) (8)).trans (congrArg iI (by omega))) ?_
                refine lv_dup2_11 hE.1 hE.2.1 dX9_pairLine_152 rfl rfl ?_
                refine x_iald (j := iI (z124 + 8)) hE hK hP 8 (by decide) (yG_10 rfl) (iI_in (n := 405) (by omega)) dX9_pairLine_153 ?_
                obtain ⟨z127, hz127, ez127⟩ := iI_of (ar122 8 (iI (z124 + 8)).toNatClampNeg)
                refine x_top ez127 ?_
                refine lv_iconst (v := iI (1)) hE.1 hE.2.1 dX9_pairLine_154 (by decide) ?_
                refine lv_iload_n hE.1 hE.2.1 dX9_pairLine_155 rfl (lv_at hl 1 rfl) ?_
                refine lv_ishl hE.1 hE.2.1 dX9_pairLine_156 ?_
                obtain ⟨z128, hz128, ez128⟩ := iI_shl8 (a := z2) (by omega)
                refine x_top ez128 ?_
                refine lv_ior hE.1 hE.2.1 dX9_pairLine_157 ?_
                obtain ⟨z129, hz129, ez129⟩ := iI_of (iI (z127) ||| iI (z128))
                refine x_top ez129 ?_
                refine x_iast (j := iI (z124 + 8)) hE hK hN hP hS 8 (by decide) (fun _ => yG_10 rfl) (iI_in (n := 405) (by omega)) dX9_pairLine_158 (fun ar130 H locs ha130 hP hS => ?_)
                have hI := YI_ast hI ha130 (by decide)
                exact kr v113 ar130 al113 _ _ _ _ ⟨hI, fun i j h => ((hq113 i j (fun q => h (mem_sub (by decide) q))).trans ((hq112 i j (fun q => h (mem_sub (by decide) q))).trans ((hq4 i j (fun q => h (mem_sub (by decide) q))).trans (hq2 i j (fun q => h (mem_sub (by decide) q)))))), fun i h => ((upx_ne ha130 i (fun q => h (by rw [q]; decide))).trans ((upx_ne ha122 i (fun q => h (by rw [q]; decide))).trans ((hqa113 i (fun q => h (mem_subn (by decide) q))).trans ((hqa112 i (fun q => h (mem_subn (by decide) q))).trans ((hqa4 i (fun q => h (mem_subn (by decide) q))).trans (hqa2 i (fun q => h (mem_subn (by decide) q)))))))), fun i h => ((hql113 i (fun q => h (mem_subn (by decide) q))).trans ((hql112 i (fun q => h (mem_subn (by decide) q))).trans ((hql4 i (fun q => h (mem_subn (by decide) q))).trans (hql2 i (fun q => h (mem_subn (by decide) q)))))), x113_1, by omega, ex113_1⟩ hP hS dX9_pairLine_159
              · skip
                exact kr v113 ar113 al113 _ _ _ _ ⟨hI, fun i j h => ((hq113 i j (fun q => h (mem_sub (by decide) q))).trans ((hq112 i j (fun q => h (mem_sub (by decide) q))).trans ((hq4 i j (fun q => h (mem_sub (by decide) q))).trans (hq2 i j (fun q => h (mem_sub (by decide) q)))))), fun i h => ((hqa113 i (fun q => h (mem_subn (by decide) q))).trans ((hqa112 i (fun q => h (mem_subn (by decide) q))).trans ((hqa4 i (fun q => h (mem_subn (by decide) q))).trans (hqa2 i (fun q => h (mem_subn (by decide) q)))))), fun i h => ((hql113 i (fun q => h (mem_subn (by decide) q))).trans ((hql112 i (fun q => h (mem_subn (by decide) q))).trans ((hql4 i (fun q => h (mem_subn (by decide) q))).trans (hql2 i (fun q => h (mem_subn (by decide) q)))))), x113_1, by omega, ex113_1⟩ hP hS dX9_pairLine_107
  · skip
    refine lv_ldc2 (v := 555) hE.1 hE.2.1 hE.2.2.2.1 (hE.2.2.2.2 _ mw_1618) dX9_pairLine_10 ?_
    refine x_topl (y := lI (555)) (by decide) ?_
    refine lv_goto (tgt := 19) hE.1 hE.2.1 dX9_pairLine_13 (by decide) ?_
    refine x_vv (nn := 1) (As := [.long (lI (555))]) (rest := []) hE hK hN hP hS (s_X9_asks l D K ad v2 ar2 al2 hI (w_1) (by omega) ((hq2 0 6 (by decide)).trans ew_1) (x2_1) (by omega) ex2_1 (555) (by omega) (by omega)) (x_recv hK hP 0 (by decide) (yG_9 rfl) rfl) rfl mw_1554 mw_1556 mw_53 mw_123 mw_1557 (by decide +kernel) ⟨by decide, by decide⟩ hl.1 rfl (Nat.le_of_ble_eq_true rfl) ⟨Nat.zero_le _, Nat.zero_le _⟩ dX9_pairLine_19 (fun v131 ar131 al131 H locs hq131 hP hS => ?_)
    obtain ⟨hI, hq131, hqa131, hql131, x131_1, hx131, ex131_1⟩ := hq131
    have hI : YI v131 ar131 := hI
    refine lv_aload_n hE.1 hE.2.1 dX9_pairLine_22 rfl (lv_at hl 1 rfl) ?_
    obtain ⟨z132, hz132, ez132⟩ := iI_of (v131 0 12)
    refine x_get (x := .int (v131 0 12)) hE hK hP 0 (by decide) (yG_9 rfl) rfl hin9 12 (by decide) mw_1346 rfl dX9_pairLine_23 ?_
    refine x_top (y := iI (z132)) ez132 ?_
    refine s_if_ne (a := z132) (tgt := 95) hE.1 hE.2.1 (by omega) dX9_pairLine_26 (by decide) (fun c133 => ?_) (fun c133 => ?_)
    · skip
      refine lv_aload_n hE.1 hE.2.1 dX9_pairLine_95 rfl (lv_at hl 1 rfl) ?_
      refine x_vi (nn := 0) (As := []) (rest := []) hE hK hN hP hS (s_X9_motifHere l D K ad v131 ar131 al131 hI (w_1) (by omega) ((hq131 0 6 (by decide)).trans ((hq2 0 6 (by decide)).trans ew_1)) (x131_1) (by omega) ex131_1 (z1) (by omega) ((congrFun (hqa131 7 (by decide)) 26).trans ((congrFun (hqa2 7 (by decide)) 26).trans ez1))  (by omega)) (x_recv hK hP 0 (by decide) (yG_9 rfl) rfl) rfl mw_1609 mw_1611 mw_64 mw_123 mw_1612 (by decide +kernel) ⟨by decide, by decide⟩ hl.1 rfl (Nat.le_of_ble_eq_true rfl) ⟨Nat.zero_le _, Nat.zero_le _⟩ dX9_pairLine_96 (fun r134 v134 ar134 al134 H locs hq134 hP hS => ?_)
      obtain ⟨⟨z134, hz134, rfl⟩, hI, hq134, hqa134, hql134, x134_1, x134_2, x134_3, hx134, ex134_1, ex134_2, ex134_3⟩ := hq134
      have hI : YI v134 ar134 := hI
      refine lv_istore_n (lv' := [(3, .int (iI (z134))), (2, .int (iI (z2))), (0, .ref (ad 0)), (1, .int (iI (z_1)))]) hE.1 hE.2.1 dX9_pairLine_99 rfl hl (by decide) rfl (fun ls hl => ?_)
      refine lv_aload_n hE.1 hE.2.1 dX9_pairLine_100 rfl (lv_at hl 2 rfl) ?_
      refine x_get (x := .int (v134 0 12)) hE hK hP 0 (by decide) (yG_9 rfl) rfl hin9 12 (by decide) mw_1346 rfl dX9_pairLine_101 ?_
      refine x_top (y := iI (x134_3)) ex134_3 ?_
      refine s_if_eq (a := x134_3) (tgt := 108) hE.1 hE.2.1 (by omega) dX9_pairLine_104 (by decide) (fun c135 => ?_) (fun c135 => ?_)
      · skip
        refine lv_aload_n hE.1 hE.2.1 dX9_pairLine_108 rfl (lv_at hl 2 rfl) ?_
        refine x_get (x := .ref (ad 8)) hE hK hP 0 (by decide) (yG_9 rfl) rfl hin9 18 (by decide) mw_1352 rfl dX9_pairLine_109 ?_
        refine lv_aload_n hE.1 hE.2.1 dX9_pairLine_112 rfl (lv_at hl 2 rfl) ?_
        refine lv_iload_n hE.1 hE.2.1 dX9_pairLine_113 rfl (lv_at hl 1 rfl) ?_
        refine x_vp (nn := 1) (As := [.int (iI (z2))]) (rest := [.ref (ad 8)]) hE (s_X9_placeRead l D K ad v134 ar134 al134 hI  (z2) (by omega)) wPre_blind (wPre_now hK hN hP) (x_recv hK hP 0 (by decide) (yG_9 rfl) rfl) rfl mw_1594 mw_1596 mw_62 mw_123 mw_1597 (by decide +kernel) ⟨by decide, by decide⟩ hl.1 rfl (Nat.le_of_ble_eq_true rfl) ⟨Nat.zero_le _, Nat.zero_le _⟩ dX9_pairLine_114 (fun r136 hr136 => ?_)
        obtain ⟨z136, hz136, rfl⟩ := hr136
        refine lv_iload_n hE.1 hE.2.1 dX9_pairLine_117 rfl (lv_at hl 3 rfl) ?_
        refine s_if_eq (a := z_1) (tgt := 126) hE.1 hE.2.1 (by omega) dX9_pairLine_118 (by decide) (fun c137 => False.elim (by omega)) (fun _ => ?_)
        refine lv_bipush (v := iI (7)) hE.1 hE.2.1 dX9_pairLine_121 (by decide) ?_
        refine lv_goto (tgt := 128) hE.1 hE.2.1 dX9_pairLine_123 (by decide) ?_
        refine lv_iadd hE.1 hE.2.1 dX9_pairLine_128 ?_
        refine x_top (y := iI (z136 + 7)) ((iI_add (z136) (7)).trans (congrArg iI (by omega))) ?_
        refine lv_dup2_11 hE.1 hE.2.1 dX9_pairLine_129 rfl rfl ?_
        refine x_iald (j := iI (z136 + 7)) hE hK hP 8 (by decide) (yG_10 rfl) (iI_in (n := 405) (by omega)) dX9_pairLine_130 ?_
        obtain ⟨z140, hz140, ez140⟩ := iI_of (ar134 8 (iI (z136 + 7)).toNatClampNeg)
        refine x_top ez140 ?_
        refine lv_iconst (v := iI (1)) hE.1 hE.2.1 dX9_pairLine_131 (by decide) ?_
        refine lv_iload_n hE.1 hE.2.1 dX9_pairLine_132 rfl (lv_at hl 0 rfl) ?_
        refine lv_ishl hE.1 hE.2.1 dX9_pairLine_133 ?_
        obtain ⟨z141, hz141, ez141⟩ := iI_shl8 (a := z134) (by omega)
        refine x_top ez141 ?_
        refine lv_ior hE.1 hE.2.1 dX9_pairLine_134 ?_
        obtain ⟨z142, hz142, ez142⟩ := iI_of (iI (z140) ||| iI (z141))
        refine x_top ez142 ?_
        refine x_iast (j := iI (z136 + 7)) hE hK hN hP hS 8 (by decide) (fun _ => yG_10 rfl) (iI_in (n := 405) (by omega)) dX9_pairLine_135 (fun ar143 H locs ha143 hP hS => ?_)
        have hI := YI_ast hI ha143 (by decide)
        refine lv_iload_n hE.1 hE.2.1 dX9_pairLine_136 rfl (lv_at hl 3 rfl) ?_
        refine s_if_ne (a := z_1) (tgt := 159) hE.1 hE.2.1 (by omega) dX9_pairLine_137 (by decide) (fun _ => ?_) (fun c144 => False.elim (by omega))
        exact kr v134 ar143 al134 _ _ _ _ ⟨hI, fun i j h => ((hq134 i j (fun q => h (mem_sub (by decide) q))).trans ((hq131 i j (fun q => h (mem_sub (by decide) q))).trans (hq2 i j (fun q => h (mem_sub (by decide) q))))), fun i h => ((upx_ne ha143 i (fun q => h (by rw [q]; decide))).trans ((hqa134 i (fun q => h (mem_subn (by decide) q))).trans ((hqa131 i (fun q => h (mem_subn (by decide) q))).trans (hqa2 i (fun q => h (mem_subn (by decide) q)))))), fun i h => ((hql134 i (fun q => h (mem_subn (by decide) q))).trans ((hql131 i (fun q => h (mem_subn (by decide) q))).trans (hql2 i (fun q => h (mem_subn (by decide) q))))), x134_1, by omega, ex134_1⟩ hP hS dX9_pairLine_159
      · skip
        exact kr v134 ar134 al134 _ _ _ _ ⟨hI, fun i j h => ((hq134 i j (fun q => h (mem_sub (by decide) q))).trans ((hq131 i j (fun q => h (mem_sub (by decide) q))).trans (hq2 i j (fun q => h (mem_sub (by decide) q))))), fun i h => ((hqa134 i (fun q => h (mem_subn (by decide) q))).trans ((hqa131 i (fun q => h (mem_subn (by decide) q))).trans (hqa2 i (fun q => h (mem_subn (by decide) q))))), fun i h => ((hql134 i (fun q => h (mem_subn (by decide) q))).trans ((hql131 i (fun q => h (mem_subn (by decide) q))).trans (hql2 i (fun q => h (mem_subn (by decide) q))))), x134_1, by omega, ex134_1⟩ hP hS dX9_pairLine_107
    · skip
      refine lv_aload_n hE.1 hE.2.1 dX9_pairLine_29 rfl (lv_at hl 1 rfl) ?_
      obtain ⟨z145, hz145, ez145⟩ := iI_of (v131 0 8)
      refine x_get (x := .int (v131 0 8)) hE hK hP 0 (by decide) (yG_9 rfl) rfl hin9 8 (by decide) mw_1342 rfl dX9_pairLine_30 ?_
      refine x_top (y := iI (z145)) ez145 ?_
      refine lv_iconst (v := iI (2)) hE.1 hE.2.1 dX9_pairLine_33 (by decide) ?_
      refine s_icmp_ne (a := z145) (b := 2) (tgt := 95) hE.1 hE.2.1 (by omega) (by omega) dX9_pairLine_34 (by decide) (fun c146 => ?_) (fun c146 => ?_)
      · skip
        refine lv_aload_n hE.1 hE.2.1 dX9_pairLine_95 rfl (lv_at hl 1 rfl) ?_
        refine x_vi (nn := 0) (As := []) (rest := []) hE hK hN hP hS (s_X9_motifHere l D K ad v131 ar131 al131 hI (w_1) (by omega) ((hq131 0 6 (by decide)).trans ((hq2 0 6 (by decide)).trans ew_1)) (x131_1) (by omega) ex131_1 (z1) (by omega) ((congrFun (hqa131 7 (by decide)) 26).trans ((congrFun (hqa2 7 (by decide)) 26).trans ez1))  (by omega)) (x_recv hK hP 0 (by decide) (yG_9 rfl) rfl) rfl mw_1609 mw_1611 mw_64 mw_123 mw_1612 (by decide +kernel) ⟨by decide, by decide⟩ hl.1 rfl (Nat.le_of_ble_eq_true rfl) ⟨Nat.zero_le _, Nat.zero_le _⟩ dX9_pairLine_96 (fun r147 v147 ar147 al147 H locs hq147 hP hS => ?_)
        obtain ⟨⟨z147, hz147, rfl⟩, hI, hq147, hqa147, hql147, x147_1, x147_2, x147_3, hx147, ex147_1, ex147_2, ex147_3⟩ := hq147
        have hI : YI v147 ar147 := hI
        refine lv_istore_n (lv' := [(3, .int (iI (z147))), (2, .int (iI (z2))), (0, .ref (ad 0)), (1, .int (iI (z_1)))]) hE.1 hE.2.1 dX9_pairLine_99 rfl hl (by decide) rfl (fun ls hl => ?_)
        refine lv_aload_n hE.1 hE.2.1 dX9_pairLine_100 rfl (lv_at hl 2 rfl) ?_
        refine x_get (x := .int (v147 0 12)) hE hK hP 0 (by decide) (yG_9 rfl) rfl hin9 12 (by decide) mw_1346 rfl dX9_pairLine_101 ?_
        refine x_top (y := iI (x147_3)) ex147_3 ?_
        refine s_if_eq (a := x147_3) (tgt := 108) hE.1 hE.2.1 (by omega) dX9_pairLine_104 (by decide) (fun c148 => ?_) (fun c148 => ?_)
        · skip
          refine lv_aload_n hE.1 hE.2.1 dX9_pairLine_108 rfl (lv_at hl 2 rfl) ?_
          refine x_get (x := .ref (ad 8)) hE hK hP 0 (by decide) (yG_9 rfl) rfl hin9 18 (by decide) mw_1352 rfl dX9_pairLine_109 ?_
          refine lv_aload_n hE.1 hE.2.1 dX9_pairLine_112 rfl (lv_at hl 2 rfl) ?_
          refine lv_iload_n hE.1 hE.2.1 dX9_pairLine_113 rfl (lv_at hl 1 rfl) ?_
          refine x_vp (nn := 1) (As := [.int (iI (z2))]) (rest := [.ref (ad 8)]) hE (s_X9_placeRead l D K ad v147 ar147 al147 hI  (z2) (by omega)) wPre_blind (wPre_now hK hN hP) (x_recv hK hP 0 (by decide) (yG_9 rfl) rfl) rfl mw_1594 mw_1596 mw_62 mw_123 mw_1597 (by decide +kernel) ⟨by decide, by decide⟩ hl.1 rfl (Nat.le_of_ble_eq_true rfl) ⟨Nat.zero_le _, Nat.zero_le _⟩ dX9_pairLine_114 (fun r149 hr149 => ?_)
          obtain ⟨z149, hz149, rfl⟩ := hr149
          refine lv_iload_n hE.1 hE.2.1 dX9_pairLine_117 rfl (lv_at hl 3 rfl) ?_
          refine s_if_eq (a := z_1) (tgt := 126) hE.1 hE.2.1 (by omega) dX9_pairLine_118 (by decide) (fun c150 => False.elim (by omega)) (fun _ => ?_)
          refine lv_bipush (v := iI (7)) hE.1 hE.2.1 dX9_pairLine_121 (by decide) ?_
          refine lv_goto (tgt := 128) hE.1 hE.2.1 dX9_pairLine_123 (by decide) ?_
          refine lv_iadd hE.1 hE.2.1 dX9_pairLine_128 ?_
          refine x_top (y := iI (z149 + 7)) ((iI_add (z149) (7)).trans (congrArg iI (by omega))) ?_
          refine lv_dup2_11 hE.1 hE.2.1 dX9_pairLine_129 rfl rfl ?_
          refine x_iald (j := iI (z149 + 7)) hE hK hP 8 (by decide) (yG_10 rfl) (iI_in (n := 405) (by omega)) dX9_pairLine_130 ?_
          obtain ⟨z153, hz153, ez153⟩ := iI_of (ar147 8 (iI (z149 + 7)).toNatClampNeg)
          refine x_top ez153 ?_
          refine lv_iconst (v := iI (1)) hE.1 hE.2.1 dX9_pairLine_131 (by decide) ?_
          refine lv_iload_n hE.1 hE.2.1 dX9_pairLine_132 rfl (lv_at hl 0 rfl) ?_
          refine lv_ishl hE.1 hE.2.1 dX9_pairLine_133 ?_
          obtain ⟨z154, hz154, ez154⟩ := iI_shl8 (a := z147) (by omega)
          refine x_top ez154 ?_
          refine lv_ior hE.1 hE.2.1 dX9_pairLine_134 ?_
          obtain ⟨z155, hz155, ez155⟩ := iI_of (iI (z153) ||| iI (z154))
          refine x_top ez155 ?_
          refine x_iast (j := iI (z149 + 7)) hE hK hN hP hS 8 (by decide) (fun _ => yG_10 rfl) (iI_in (n := 405) (by omega)) dX9_pairLine_135 (fun ar156 H locs ha156 hP hS => ?_)
          have hI := YI_ast hI ha156 (by decide)
          refine lv_iload_n hE.1 hE.2.1 dX9_pairLine_136 rfl (lv_at hl 3 rfl) ?_
          refine s_if_ne (a := z_1) (tgt := 159) hE.1 hE.2.1 (by omega) dX9_pairLine_137 (by decide) (fun _ => ?_) (fun c157 => False.elim (by omega))
          exact kr v147 ar156 al147 _ _ _ _ ⟨hI, fun i j h => ((hq147 i j (fun q => h (mem_sub (by decide) q))).trans ((hq131 i j (fun q => h (mem_sub (by decide) q))).trans (hq2 i j (fun q => h (mem_sub (by decide) q))))), fun i h => ((upx_ne ha156 i (fun q => h (by rw [q]; decide))).trans ((hqa147 i (fun q => h (mem_subn (by decide) q))).trans ((hqa131 i (fun q => h (mem_subn (by decide) q))).trans (hqa2 i (fun q => h (mem_subn (by decide) q)))))), fun i h => ((hql147 i (fun q => h (mem_subn (by decide) q))).trans ((hql131 i (fun q => h (mem_subn (by decide) q))).trans (hql2 i (fun q => h (mem_subn (by decide) q))))), x147_1, by omega, ex147_1⟩ hP hS dX9_pairLine_159
        · skip
          exact kr v147 ar147 al147 _ _ _ _ ⟨hI, fun i j h => ((hq147 i j (fun q => h (mem_sub (by decide) q))).trans ((hq131 i j (fun q => h (mem_sub (by decide) q))).trans (hq2 i j (fun q => h (mem_sub (by decide) q))))), fun i h => ((hqa147 i (fun q => h (mem_subn (by decide) q))).trans ((hqa131 i (fun q => h (mem_subn (by decide) q))).trans (hqa2 i (fun q => h (mem_subn (by decide) q))))), fun i h => ((hql147 i (fun q => h (mem_subn (by decide) q))).trans ((hql131 i (fun q => h (mem_subn (by decide) q))).trans (hql2 i (fun q => h (mem_subn (by decide) q))))), x147_1, by omega, ex147_1⟩ hP hS dX9_pairLine_107
      · skip
        refine lv_aload_n hE.1 hE.2.1 dX9_pairLine_37 rfl (lv_at hl 1 rfl) ?_
        obtain ⟨z158, hz158, ez158⟩ := iI_of (v131 0 10)
        refine x_get (x := .int (v131 0 10)) hE hK hP 0 (by decide) (yG_9 rfl) rfl hin9 10 (by decide) mw_1344 rfl dX9_pairLine_38 ?_
        refine x_top (y := iI (z158)) ez158 ?_
        refine lv_aload_n hE.1 hE.2.1 dX9_pairLine_41 rfl (lv_at hl 1 rfl) ?_
        refine lv_iconst (v := iI (2)) hE.1 hE.2.1 dX9_pairLine_42 (by decide) ?_
        refine x_vp (nn := 1) (As := [.int (iI (2))]) (rest := [.int (iI (z158))]) hE (s_X9_hasRead_c0_2 l D K ad v131 ar131 al131 hI (z1) (by omega) ((congrFun (hqa131 7 (by decide)) 26).trans ((congrFun (hqa2 7 (by decide)) 26).trans ez1)) ) wPre_blind (wPre_now hK hN hP) (x_recv hK hP 0 (by decide) (yG_9 rfl) rfl) rfl mw_1586 mw_1588 mw_60 mw_123 mw_1589 (by decide +kernel) ⟨by decide, by decide⟩ hl.1 rfl (Nat.le_of_ble_eq_true rfl) ⟨Nat.zero_le _, Nat.zero_le _⟩ dX9_pairLine_43 (fun r159 hr159 => ?_)
        obtain ⟨z159, hz159, rfl⟩ := hr159
        refine s_icmp_ge (a := z158) (b := z159) (tgt := 95) hE.1 hE.2.1 (by omega) (by omega) dX9_pairLine_46 (by decide) (fun c160 => ?_) (fun c160 => ?_)
        · skip
          refine lv_aload_n hE.1 hE.2.1 dX9_pairLine_95 rfl (lv_at hl 1 rfl) ?_
          refine x_vi (nn := 0) (As := []) (rest := []) hE hK hN hP hS (s_X9_motifHere l D K ad v131 ar131 al131 hI (w_1) (by omega) ((hq131 0 6 (by decide)).trans ((hq2 0 6 (by decide)).trans ew_1)) (x131_1) (by omega) ex131_1 (z1) (by omega) ((congrFun (hqa131 7 (by decide)) 26).trans ((congrFun (hqa2 7 (by decide)) 26).trans ez1))  (by omega)) (x_recv hK hP 0 (by decide) (yG_9 rfl) rfl) rfl mw_1609 mw_1611 mw_64 mw_123 mw_1612 (by decide +kernel) ⟨by decide, by decide⟩ hl.1 rfl (Nat.le_of_ble_eq_true rfl) ⟨Nat.zero_le _, Nat.zero_le _⟩ dX9_pairLine_96 (fun r161 v161 ar161 al161 H locs hq161 hP hS => ?_)
          obtain ⟨⟨z161, hz161, rfl⟩, hI, hq161, hqa161, hql161, x161_1, x161_2, x161_3, hx161, ex161_1, ex161_2, ex161_3⟩ := hq161
          have hI : YI v161 ar161 := hI
          refine lv_istore_n (lv' := [(3, .int (iI (z161))), (2, .int (iI (z2))), (0, .ref (ad 0)), (1, .int (iI (z_1)))]) hE.1 hE.2.1 dX9_pairLine_99 rfl hl (by decide) rfl (fun ls hl => ?_)
          refine lv_aload_n hE.1 hE.2.1 dX9_pairLine_100 rfl (lv_at hl 2 rfl) ?_
          refine x_get (x := .int (v161 0 12)) hE hK hP 0 (by decide) (yG_9 rfl) rfl hin9 12 (by decide) mw_1346 rfl dX9_pairLine_101 ?_
          refine x_top (y := iI (x161_3)) ex161_3 ?_
          refine s_if_eq (a := x161_3) (tgt := 108) hE.1 hE.2.1 (by omega) dX9_pairLine_104 (by decide) (fun c162 => ?_) (fun c162 => ?_)
          · skip
            refine lv_aload_n hE.1 hE.2.1 dX9_pairLine_108 rfl (lv_at hl 2 rfl) ?_
            refine x_get (x := .ref (ad 8)) hE hK hP 0 (by decide) (yG_9 rfl) rfl hin9 18 (by decide) mw_1352 rfl dX9_pairLine_109 ?_
            refine lv_aload_n hE.1 hE.2.1 dX9_pairLine_112 rfl (lv_at hl 2 rfl) ?_
            refine lv_iload_n hE.1 hE.2.1 dX9_pairLine_113 rfl (lv_at hl 1 rfl) ?_
            refine x_vp (nn := 1) (As := [.int (iI (z2))]) (rest := [.ref (ad 8)]) hE (s_X9_placeRead l D K ad v161 ar161 al161 hI  (z2) (by omega)) wPre_blind (wPre_now hK hN hP) (x_recv hK hP 0 (by decide) (yG_9 rfl) rfl) rfl mw_1594 mw_1596 mw_62 mw_123 mw_1597 (by decide +kernel) ⟨by decide, by decide⟩ hl.1 rfl (Nat.le_of_ble_eq_true rfl) ⟨Nat.zero_le _, Nat.zero_le _⟩ dX9_pairLine_114 (fun r163 hr163 => ?_)
            obtain ⟨z163, hz163, rfl⟩ := hr163
            refine lv_iload_n hE.1 hE.2.1 dX9_pairLine_117 rfl (lv_at hl 3 rfl) ?_
            refine s_if_eq (a := z_1) (tgt := 126) hE.1 hE.2.1 (by omega) dX9_pairLine_118 (by decide) (fun c164 => False.elim (by omega)) (fun _ => ?_)
            refine lv_bipush (v := iI (7)) hE.1 hE.2.1 dX9_pairLine_121 (by decide) ?_
            refine lv_goto (tgt := 128) hE.1 hE.2.1 dX9_pairLine_123 (by decide) ?_
            refine lv_iadd hE.1 hE.2.1 dX9_pairLine_128 ?_
            refine x_top (y := iI (z163 + 7)) ((iI_add (z163) (7)).trans (congrArg iI (by omega))) ?_
            refine lv_dup2_11 hE.1 hE.2.1 dX9_pairLine_129 rfl rfl ?_
            refine x_iald (j := iI (z163 + 7)) hE hK hP 8 (by decide) (yG_10 rfl) (iI_in (n := 405) (by omega)) dX9_pairLine_130 ?_
            obtain ⟨z167, hz167, ez167⟩ := iI_of (ar161 8 (iI (z163 + 7)).toNatClampNeg)
            refine x_top ez167 ?_
            refine lv_iconst (v := iI (1)) hE.1 hE.2.1 dX9_pairLine_131 (by decide) ?_
            refine lv_iload_n hE.1 hE.2.1 dX9_pairLine_132 rfl (lv_at hl 0 rfl) ?_
            refine lv_ishl hE.1 hE.2.1 dX9_pairLine_133 ?_
            obtain ⟨z168, hz168, ez168⟩ := iI_shl8 (a := z161) (by omega)
            refine x_top ez168 ?_
            refine lv_ior hE.1 hE.2.1 dX9_pairLine_134 ?_
            obtain ⟨z169, hz169, ez169⟩ := iI_of (iI (z167) ||| iI (z168))
            refine x_top ez169 ?_
            refine x_iast (j := iI (z163 + 7)) hE hK hN hP hS 8 (by decide) (fun _ => yG_10 rfl) (iI_in (n := 405) (by omega)) dX9_pairLine_135 (fun ar170 H locs ha170 hP hS => ?_)
            have hI := YI_ast hI ha170 (by decide)
            refine lv_iload_n hE.1 hE.2.1 dX9_pairLine_136 rfl (lv_at hl 3 rfl) ?_
            refine s_if_ne (a := z_1) (tgt := 159) hE.1 hE.2.1 (by omega) dX9_pairLine_137 (by decide) (fun _ => ?_) (fun c171 => False.elim (by omega))
            exact kr v161 ar170 al161 _ _ _ _ ⟨hI, fun i j h => ((hq161 i j (fun q => h (mem_sub (by decide) q))).trans ((hq131 i j (fun q => h (mem_sub (by decide) q))).trans (hq2 i j (fun q => h (mem_sub (by decide) q))))), fun i h => ((upx_ne ha170 i (fun q => h (by rw [q]; decide))).trans ((hqa161 i (fun q => h (mem_subn (by decide) q))).trans ((hqa131 i (fun q => h (mem_subn (by decide) q))).trans (hqa2 i (fun q => h (mem_subn (by decide) q)))))), fun i h => ((hql161 i (fun q => h (mem_subn (by decide) q))).trans ((hql131 i (fun q => h (mem_subn (by decide) q))).trans (hql2 i (fun q => h (mem_subn (by decide) q))))), x161_1, by omega, ex161_1⟩ hP hS dX9_pairLine_159
          · skip
            exact kr v161 ar161 al161 _ _ _ _ ⟨hI, fun i j h => ((hq161 i j (fun q => h (mem_sub (by decide) q))).trans ((hq131 i j (fun q => h (mem_sub (by decide) q))).trans (hq2 i j (fun q => h (mem_sub (by decide) q))))), fun i h => ((hqa161 i (fun q => h (mem_subn (by decide) q))).trans ((hqa131 i (fun q => h (mem_subn (by decide) q))).trans (hqa2 i (fun q => h (mem_subn (by decide) q))))), fun i h => ((hql161 i (fun q => h (mem_subn (by decide) q))).trans ((hql131 i (fun q => h (mem_subn (by decide) q))).trans (hql2 i (fun q => h (mem_subn (by decide) q))))), x161_1, by omega, ex161_1⟩ hP hS dX9_pairLine_107
        · skip
          refine lv_aload_n hE.1 hE.2.1 dX9_pairLine_49 rfl (lv_at hl 1 rfl) ?_
          refine x_get (x := .int (v131 0 10)) hE hK hP 0 (by decide) (yG_9 rfl) rfl hin9 10 (by decide) mw_1344 rfl dX9_pairLine_50 ?_
          refine x_top (y := iI (z158)) ez158 ?_
          refine lv_iload_n hE.1 hE.2.1 dX9_pairLine_53 rfl (lv_at hl 0 rfl) ?_
          refine s_icmp_eq (a := z158) (b := z2) (tgt := 90) hE.1 hE.2.1 (by omega) (by omega) dX9_pairLine_54 (by decide) (fun c172 => ?_) (fun c172 => ?_)
          · skip
            refine lv_aload_n hE.1 hE.2.1 dX9_pairLine_90 rfl (lv_at hl 1 rfl) ?_
            refine lv_iconst (v := iI (2)) hE.1 hE.2.1 dX9_pairLine_91 (by decide) ?_
            refine x_vv (nn := 1) (As := [.int (iI (2))]) (rest := []) hE hK hN hP hS (s_X9_fails l D K ad v131 ar131 al131 hI  (2) (by omega)) (x_recv hK hP 0 (by decide) (yG_9 rfl) rfl) rfl mw_1566 mw_1568 mw_56 mw_123 mw_1569 (by decide +kernel) ⟨by decide, by decide⟩ hl.1 rfl (Nat.le_of_ble_eq_true rfl) ⟨Nat.zero_le _, Nat.zero_le _⟩ dX9_pairLine_92 (fun v173 ar173 al173 H locs hq173 hP hS => ?_)
            obtain ⟨hI, hq173, hqa173, hql173, x173_1, hx173, ex173_1⟩ := hq173
            have hI : YI v173 ar173 := hI
            refine lv_aload_n hE.1 hE.2.1 dX9_pairLine_95 rfl (lv_at hl 1 rfl) ?_
            refine x_vi (nn := 0) (As := []) (rest := []) hE hK hN hP hS (s_X9_motifHere l D K ad v173 ar173 al173 hI (w_1) (by omega) ((hq173 0 6 (by decide)).trans ((hq131 0 6 (by decide)).trans ((hq2 0 6 (by decide)).trans ew_1))) (x131_1) (by omega) ((hq173 0 7 (by decide)).trans ex131_1) (z1) (by omega) ((congrFun (hqa173 7 (by decide)) 26).trans ((congrFun (hqa131 7 (by decide)) 26).trans ((congrFun (hqa2 7 (by decide)) 26).trans ez1)))  (by omega)) (x_recv hK hP 0 (by decide) (yG_9 rfl) rfl) rfl mw_1609 mw_1611 mw_64 mw_123 mw_1612 (by decide +kernel) ⟨by decide, by decide⟩ hl.1 rfl (Nat.le_of_ble_eq_true rfl) ⟨Nat.zero_le _, Nat.zero_le _⟩ dX9_pairLine_96 (fun r174 v174 ar174 al174 H locs hq174 hP hS => ?_)
            obtain ⟨⟨z174, hz174, rfl⟩, hI, hq174, hqa174, hql174, x174_1, x174_2, x174_3, hx174, ex174_1, ex174_2, ex174_3⟩ := hq174
            have hI : YI v174 ar174 := hI
            refine lv_istore_n (lv' := [(3, .int (iI (z174))), (2, .int (iI (z2))), (0, .ref (ad 0)), (1, .int (iI (z_1)))]) hE.1 hE.2.1 dX9_pairLine_99 rfl hl (by decide) rfl (fun ls hl => ?_)
            refine lv_aload_n hE.1 hE.2.1 dX9_pairLine_100 rfl (lv_at hl 2 rfl) ?_
            refine x_get (x := .int (v174 0 12)) hE hK hP 0 (by decide) (yG_9 rfl) rfl hin9 12 (by decide) mw_1346 rfl dX9_pairLine_101 ?_
            refine x_top (y := iI (x174_3)) ex174_3 ?_
            refine s_if_eq (a := x174_3) (tgt := 108) hE.1 hE.2.1 (by omega) dX9_pairLine_104 (by decide) (fun c175 => ?_) (fun c175 => ?_)
            · skip
              refine lv_aload_n hE.1 hE.2.1 dX9_pairLine_108 rfl (lv_at hl 2 rfl) ?_
              refine x_get (x := .ref (ad 8)) hE hK hP 0 (by decide) (yG_9 rfl) rfl hin9 18 (by decide) mw_1352 rfl dX9_pairLine_109 ?_
              refine lv_aload_n hE.1 hE.2.1 dX9_pairLine_112 rfl (lv_at hl 2 rfl) ?_
              refine lv_iload_n hE.1 hE.2.1 dX9_pairLine_113 rfl (lv_at hl 1 rfl) ?_
              refine x_vp (nn := 1) (As := [.int (iI (z2))]) (rest := [.ref (ad 8)]) hE (s_X9_placeRead l D K ad v174 ar174 al174 hI  (z2) (by omega)) wPre_blind (wPre_now hK hN hP) (x_recv hK hP 0 (by decide) (yG_9 rfl) rfl) rfl mw_1594 mw_1596 mw_62 mw_123 mw_1597 (by decide +kernel) ⟨by decide, by decide⟩ hl.1 rfl (Nat.le_of_ble_eq_true rfl) ⟨Nat.zero_le _, Nat.zero_le _⟩ dX9_pairLine_114 (fun r176 hr176 => ?_)
              obtain ⟨z176, hz176, rfl⟩ := hr176
              refine lv_iload_n hE.1 hE.2.1 dX9_pairLine_117 rfl (lv_at hl 3 rfl) ?_
              refine s_if_eq (a := z_1) (tgt := 126) hE.1 hE.2.1 (by omega) dX9_pairLine_118 (by decide) (fun c177 => False.elim (by omega)) (fun _ => ?_)
              refine lv_bipush (v := iI (7)) hE.1 hE.2.1 dX9_pairLine_121 (by decide) ?_
              refine lv_goto (tgt := 128) hE.1 hE.2.1 dX9_pairLine_123 (by decide) ?_
              refine lv_iadd hE.1 hE.2.1 dX9_pairLine_128 ?_
              refine x_top (y := iI (z176 + 7)) ((iI_add (z176) (7)).trans (congrArg iI (by omega))) ?_
              refine lv_dup2_11 hE.1 hE.2.1 dX9_pairLine_129 rfl rfl ?_
              refine x_iald (j := iI (z176 + 7)) hE hK hP 8 (by decide) (yG_10 rfl) (iI_in (n := 405) (by omega)) dX9_pairLine_130 ?_
              obtain ⟨z180, hz180, ez180⟩ := iI_of (ar174 8 (iI (z176 + 7)).toNatClampNeg)
              refine x_top ez180 ?_
              refine lv_iconst (v := iI (1)) hE.1 hE.2.1 dX9_pairLine_131 (by decide) ?_
              refine lv_iload_n hE.1 hE.2.1 dX9_pairLine_132 rfl (lv_at hl 0 rfl) ?_
              refine lv_ishl hE.1 hE.2.1 dX9_pairLine_133 ?_
              obtain ⟨z181, hz181, ez181⟩ := iI_shl8 (a := z174) (by omega)
              refine x_top ez181 ?_
              refine lv_ior hE.1 hE.2.1 dX9_pairLine_134 ?_
              obtain ⟨z182, hz182, ez182⟩ := iI_of (iI (z180) ||| iI (z181))
              refine x_top ez182 ?_
              refine x_iast (j := iI (z176 + 7)) hE hK hN hP hS 8 (by decide) (fun _ => yG_10 rfl) (iI_in (n := 405) (by omega)) dX9_pairLine_135 (fun ar183 H locs ha183 hP hS => ?_)
              have hI := YI_ast hI ha183 (by decide)
              refine lv_iload_n hE.1 hE.2.1 dX9_pairLine_136 rfl (lv_at hl 3 rfl) ?_
              refine s_if_ne (a := z_1) (tgt := 159) hE.1 hE.2.1 (by omega) dX9_pairLine_137 (by decide) (fun _ => ?_) (fun c184 => False.elim (by omega))
              exact kr v174 ar183 al174 _ _ _ _ ⟨hI, fun i j h => ((hq174 i j (fun q => h (mem_sub (by decide) q))).trans ((hq173 i j (fun q => h (mem_sub (by decide) q))).trans ((hq131 i j (fun q => h (mem_sub (by decide) q))).trans (hq2 i j (fun q => h (mem_sub (by decide) q)))))), fun i h => ((upx_ne ha183 i (fun q => h (by rw [q]; decide))).trans ((hqa174 i (fun q => h (mem_subn (by decide) q))).trans ((hqa173 i (fun q => h (mem_subn (by decide) q))).trans ((hqa131 i (fun q => h (mem_subn (by decide) q))).trans (hqa2 i (fun q => h (mem_subn (by decide) q))))))), fun i h => ((hql174 i (fun q => h (mem_subn (by decide) q))).trans ((hql173 i (fun q => h (mem_subn (by decide) q))).trans ((hql131 i (fun q => h (mem_subn (by decide) q))).trans (hql2 i (fun q => h (mem_subn (by decide) q)))))), x174_1, by omega, ex174_1⟩ hP hS dX9_pairLine_159
            · skip
              exact kr v174 ar174 al174 _ _ _ _ ⟨hI, fun i j h => ((hq174 i j (fun q => h (mem_sub (by decide) q))).trans ((hq173 i j (fun q => h (mem_sub (by decide) q))).trans ((hq131 i j (fun q => h (mem_sub (by decide) q))).trans (hq2 i j (fun q => h (mem_sub (by decide) q)))))), fun i h => ((hqa174 i (fun q => h (mem_subn (by decide) q))).trans ((hqa173 i (fun q => h (mem_subn (by decide) q))).trans ((hqa131 i (fun q => h (mem_subn (by decide) q))).trans (hqa2 i (fun q => h (mem_subn (by decide) q)))))), fun i h => ((hql174 i (fun q => h (mem_subn (by decide) q))).trans ((hql173 i (fun q => h (mem_subn (by decide) q))).trans ((hql131 i (fun q => h (mem_subn (by decide) q))).trans (hql2 i (fun q => h (mem_subn (by decide) q)))))), x174_1, by omega, ex174_1⟩ hP hS dX9_pairLine_107
          · skip
            refine lv_aload_n hE.1 hE.2.1 dX9_pairLine_57 rfl (lv_at hl 1 rfl) ?_
            refine x_get (x := .ref (ad 8)) hE hK hP 0 (by decide) (yG_9 rfl) rfl hin9 18 (by decide) mw_1352 rfl dX9_pairLine_58 ?_
            refine lv_aload_n hE.1 hE.2.1 dX9_pairLine_61 rfl (lv_at hl 1 rfl) ?_
            refine lv_iload_n hE.1 hE.2.1 dX9_pairLine_62 rfl (lv_at hl 0 rfl) ?_
            refine x_vp (nn := 1) (As := [.int (iI (z2))]) (rest := [.ref (ad 8)]) hE (s_X9_placeRead l D K ad v131 ar131 al131 hI  (z2) (by omega)) wPre_blind (wPre_now hK hN hP) (x_recv hK hP 0 (by decide) (yG_9 rfl) rfl) rfl mw_1594 mw_1596 mw_62 mw_123 mw_1597 (by decide +kernel) ⟨by decide, by decide⟩ hl.1 rfl (Nat.le_of_ble_eq_true rfl) ⟨Nat.zero_le _, Nat.zero_le _⟩ dX9_pairLine_63 (fun r185 hr185 => ?_)
            obtain ⟨z185, hz185, rfl⟩ := hr185
            refine lv_iload_n hE.1 hE.2.1 dX9_pairLine_66 rfl (lv_at hl 2 rfl) ?_
            refine s_if_eq (a := z_1) (tgt := 75) hE.1 hE.2.1 (by omega) dX9_pairLine_67 (by decide) (fun c186 => False.elim (by omega)) (fun _ => ?_)
            refine lv_bipush (v := iI (7)) hE.1 hE.2.1 dX9_pairLine_70 (by decide) ?_
            refine lv_goto (tgt := 77) hE.1 hE.2.1 dX9_pairLine_72 (by decide) ?_
            refine lv_iadd hE.1 hE.2.1 dX9_pairLine_77 ?_
            refine x_top (y := iI (z185 + 7)) ((iI_add (z185) (7)).trans (congrArg iI (by omega))) ?_
            refine x_iald (j := iI (z185 + 7)) hE hK hP 8 (by decide) (yG_10 rfl) (iI_in (n := 405) (by omega)) dX9_pairLine_78 ?_
            obtain ⟨z189, hz189, ez189⟩ := iI_of (ar131 8 (iI (z185 + 7)).toNatClampNeg)
            refine x_top ez189 ?_
            refine lv_aload_n hE.1 hE.2.1 dX9_pairLine_79 rfl (lv_at hl 1 rfl) ?_
            refine x_get (x := .int (v131 0 10)) hE hK hP 0 (by decide) (yG_9 rfl) rfl hin9 10 (by decide) mw_1344 rfl dX9_pairLine_80 ?_
            refine x_top (y := iI (z158)) ez158 ?_
            refine lv_ishr hE.1 hE.2.1 dX9_pairLine_83 ?_
            obtain ⟨z190, hz190, ez190⟩ := iI_of (iI (z189) >>> (iI (z158) &&& 31))
            refine x_top ez190 ?_
            refine lv_iconst (v := iI (1)) hE.1 hE.2.1 dX9_pairLine_84 (by decide) ?_
            refine lv_iand hE.1 hE.2.1 dX9_pairLine_85 ?_
            obtain ⟨z191, hz191, ez191⟩ := iI_and (iI (z190)) (iI (1)) 1 (by decide)
            refine x_top ez191 ?_
            refine lv_iconst (v := iI (1)) hE.1 hE.2.1 dX9_pairLine_86 (by decide) ?_
            refine s_icmp_ne (a := z191) (b := 1) (tgt := 95) hE.1 hE.2.1 (by omega) (by omega) dX9_pairLine_87 (by decide) (fun c192 => ?_) (fun c192 => ?_)
            · skip
              refine lv_aload_n hE.1 hE.2.1 dX9_pairLine_95 rfl (lv_at hl 1 rfl) ?_
              refine x_vi (nn := 0) (As := []) (rest := []) hE hK hN hP hS (s_X9_motifHere l D K ad v131 ar131 al131 hI (w_1) (by omega) ((hq131 0 6 (by decide)).trans ((hq2 0 6 (by decide)).trans ew_1)) (x131_1) (by omega) ex131_1 (z1) (by omega) ((congrFun (hqa131 7 (by decide)) 26).trans ((congrFun (hqa2 7 (by decide)) 26).trans ez1))  (by omega)) (x_recv hK hP 0 (by decide) (yG_9 rfl) rfl) rfl mw_1609 mw_1611 mw_64 mw_123 mw_1612 (by decide +kernel) ⟨by decide, by decide⟩ hl.1 rfl (Nat.le_of_ble_eq_true rfl) ⟨Nat.zero_le _, Nat.zero_le _⟩ dX9_pairLine_96 (fun r193 v193 ar193 al193 H locs hq193 hP hS => ?_)
              obtain ⟨⟨z193, hz193, rfl⟩, hI, hq193, hqa193, hql193, x193_1, x193_2, x193_3, hx193, ex193_1, ex193_2, ex193_3⟩ := hq193
              have hI : YI v193 ar193 := hI
              refine lv_istore_n (lv' := [(3, .int (iI (z193))), (2, .int (iI (z2))), (0, .ref (ad 0)), (1, .int (iI (z_1)))]) hE.1 hE.2.1 dX9_pairLine_99 rfl hl (by decide) rfl (fun ls hl => ?_)
              refine lv_aload_n hE.1 hE.2.1 dX9_pairLine_100 rfl (lv_at hl 2 rfl) ?_
              refine x_get (x := .int (v193 0 12)) hE hK hP 0 (by decide) (yG_9 rfl) rfl hin9 12 (by decide) mw_1346 rfl dX9_pairLine_101 ?_
              refine x_top (y := iI (x193_3)) ex193_3 ?_
              refine s_if_eq (a := x193_3) (tgt := 108) hE.1 hE.2.1 (by omega) dX9_pairLine_104 (by decide) (fun c194 => ?_) (fun c194 => ?_)
              · skip
                refine lv_aload_n hE.1 hE.2.1 dX9_pairLine_108 rfl (lv_at hl 2 rfl) ?_
                refine x_get (x := .ref (ad 8)) hE hK hP 0 (by decide) (yG_9 rfl) rfl hin9 18 (by decide) mw_1352 rfl dX9_pairLine_109 ?_
                refine lv_aload_n hE.1 hE.2.1 dX9_pairLine_112 rfl (lv_at hl 2 rfl) ?_
                refine lv_iload_n hE.1 hE.2.1 dX9_pairLine_113 rfl (lv_at hl 1 rfl) ?_
                refine x_vp (nn := 1) (As := [.int (iI (z2))]) (rest := [.ref (ad 8)]) hE (s_X9_placeRead l D K ad v193 ar193 al193 hI  (z2) (by omega)) wPre_blind (wPre_now hK hN hP) (x_recv hK hP 0 (by decide) (yG_9 rfl) rfl) rfl mw_1594 mw_1596 mw_62 mw_123 mw_1597 (by decide +kernel) ⟨by decide, by decide⟩ hl.1 rfl (Nat.le_of_ble_eq_true rfl) ⟨Nat.zero_le _, Nat.zero_le _⟩ dX9_pairLine_114 (fun r195 hr195 => ?_)
                obtain ⟨z195, hz195, rfl⟩ := hr195
                refine lv_iload_n hE.1 hE.2.1 dX9_pairLine_117 rfl (lv_at hl 3 rfl) ?_
                refine s_if_eq (a := z_1) (tgt := 126) hE.1 hE.2.1 (by omega) dX9_pairLine_118 (by decide) (fun c196 => False.elim (by omega)) (fun _ => ?_)
                refine lv_bipush (v := iI (7)) hE.1 hE.2.1 dX9_pairLine_121 (by decide) ?_
                refine lv_goto (tgt := 128) hE.1 hE.2.1 dX9_pairLine_123 (by decide) ?_
                refine lv_iadd hE.1 hE.2.1 dX9_pairLine_128 ?_
                refine x_top (y := iI (z195 + 7)) ((iI_add (z195) (7)).trans (congrArg iI (by omega))) ?_
                refine lv_dup2_11 hE.1 hE.2.1 dX9_pairLine_129 rfl rfl ?_
                refine x_iald (j := iI (z195 + 7)) hE hK hP 8 (by decide) (yG_10 rfl) (iI_in (n := 405) (by omega)) dX9_pairLine_130 ?_
                obtain ⟨z199, hz199, ez199⟩ := iI_of (ar193 8 (iI (z195 + 7)).toNatClampNeg)
                refine x_top ez199 ?_
                refine lv_iconst (v := iI (1)) hE.1 hE.2.1 dX9_pairLine_131 (by decide) ?_
                refine lv_iload_n hE.1 hE.2.1 dX9_pairLine_132 rfl (lv_at hl 0 rfl) ?_
                refine lv_ishl hE.1 hE.2.1 dX9_pairLine_133 ?_
                obtain ⟨z200, hz200, ez200⟩ := iI_shl8 (a := z193) (by omega)
                refine x_top ez200 ?_
                refine lv_ior hE.1 hE.2.1 dX9_pairLine_134 ?_
                obtain ⟨z201, hz201, ez201⟩ := iI_of (iI (z199) ||| iI (z200))
                refine x_top ez201 ?_
                refine x_iast (j := iI (z195 + 7)) hE hK hN hP hS 8 (by decide) (fun _ => yG_10 rfl) (iI_in (n := 405) (by omega)) dX9_pairLine_135 (fun ar202 H locs ha202 hP hS => ?_)
                have hI := YI_ast hI ha202 (by decide)
                refine lv_iload_n hE.1 hE.2.1 dX9_pairLine_136 rfl (lv_at hl 3 rfl) ?_
                refine s_if_ne (a := z_1) (tgt := 159) hE.1 hE.2.1 (by omega) dX9_pairLine_137 (by decide) (fun _ => ?_) (fun c203 => False.elim (by omega))
                exact kr v193 ar202 al193 _ _ _ _ ⟨hI, fun i j h => ((hq193 i j (fun q => h (mem_sub (by decide) q))).trans ((hq131 i j (fun q => h (mem_sub (by decide) q))).trans (hq2 i j (fun q => h (mem_sub (by decide) q))))), fun i h => ((upx_ne ha202 i (fun q => h (by rw [q]; decide))).trans ((hqa193 i (fun q => h (mem_subn (by decide) q))).trans ((hqa131 i (fun q => h (mem_subn (by decide) q))).trans (hqa2 i (fun q => h (mem_subn (by decide) q)))))), fun i h => ((hql193 i (fun q => h (mem_subn (by decide) q))).trans ((hql131 i (fun q => h (mem_subn (by decide) q))).trans (hql2 i (fun q => h (mem_subn (by decide) q))))), x193_1, by omega, ex193_1⟩ hP hS dX9_pairLine_159
              · skip
                exact kr v193 ar193 al193 _ _ _ _ ⟨hI, fun i j h => ((hq193 i j (fun q => h (mem_sub (by decide) q))).trans ((hq131 i j (fun q => h (mem_sub (by decide) q))).trans (hq2 i j (fun q => h (mem_sub (by decide) q))))), fun i h => ((hqa193 i (fun q => h (mem_subn (by decide) q))).trans ((hqa131 i (fun q => h (mem_subn (by decide) q))).trans (hqa2 i (fun q => h (mem_subn (by decide) q))))), fun i h => ((hql193 i (fun q => h (mem_subn (by decide) q))).trans ((hql131 i (fun q => h (mem_subn (by decide) q))).trans (hql2 i (fun q => h (mem_subn (by decide) q))))), x193_1, by omega, ex193_1⟩ hP hS dX9_pairLine_107
            · skip
              refine lv_aload_n hE.1 hE.2.1 dX9_pairLine_90 rfl (lv_at hl 1 rfl) ?_
              refine lv_iconst (v := iI (2)) hE.1 hE.2.1 dX9_pairLine_91 (by decide) ?_
              refine x_vv (nn := 1) (As := [.int (iI (2))]) (rest := []) hE hK hN hP hS (s_X9_fails l D K ad v131 ar131 al131 hI  (2) (by omega)) (x_recv hK hP 0 (by decide) (yG_9 rfl) rfl) rfl mw_1566 mw_1568 mw_56 mw_123 mw_1569 (by decide +kernel) ⟨by decide, by decide⟩ hl.1 rfl (Nat.le_of_ble_eq_true rfl) ⟨Nat.zero_le _, Nat.zero_le _⟩ dX9_pairLine_92 (fun v204 ar204 al204 H locs hq204 hP hS => ?_)
              obtain ⟨hI, hq204, hqa204, hql204, x204_1, hx204, ex204_1⟩ := hq204
              have hI : YI v204 ar204 := hI
              refine lv_aload_n hE.1 hE.2.1 dX9_pairLine_95 rfl (lv_at hl 1 rfl) ?_
              refine x_vi (nn := 0) (As := []) (rest := []) hE hK hN hP hS (s_X9_motifHere l D K ad v204 ar204 al204 hI (w_1) (by omega) ((hq204 0 6 (by decide)).trans ((hq131 0 6 (by decide)).trans ((hq2 0 6 (by decide)).trans ew_1))) (x131_1) (by omega) ((hq204 0 7 (by decide)).trans ex131_1) (z1) (by omega) ((congrFun (hqa204 7 (by decide)) 26).trans ((congrFun (hqa131 7 (by decide)) 26).trans ((congrFun (hqa2 7 (by decide)) 26).trans ez1)))  (by omega)) (x_recv hK hP 0 (by decide) (yG_9 rfl) rfl) rfl mw_1609 mw_1611 mw_64 mw_123 mw_1612 (by decide +kernel) ⟨by decide, by decide⟩ hl.1 rfl (Nat.le_of_ble_eq_true rfl) ⟨Nat.zero_le _, Nat.zero_le _⟩ dX9_pairLine_96 (fun r205 v205 ar205 al205 H locs hq205 hP hS => ?_)
              obtain ⟨⟨z205, hz205, rfl⟩, hI, hq205, hqa205, hql205, x205_1, x205_2, x205_3, hx205, ex205_1, ex205_2, ex205_3⟩ := hq205
              have hI : YI v205 ar205 := hI
              refine lv_istore_n (lv' := [(3, .int (iI (z205))), (2, .int (iI (z2))), (0, .ref (ad 0)), (1, .int (iI (z_1)))]) hE.1 hE.2.1 dX9_pairLine_99 rfl hl (by decide) rfl (fun ls hl => ?_)
              refine lv_aload_n hE.1 hE.2.1 dX9_pairLine_100 rfl (lv_at hl 2 rfl) ?_
              refine x_get (x := .int (v205 0 12)) hE hK hP 0 (by decide) (yG_9 rfl) rfl hin9 12 (by decide) mw_1346 rfl dX9_pairLine_101 ?_
              refine x_top (y := iI (x205_3)) ex205_3 ?_
              refine s_if_eq (a := x205_3) (tgt := 108) hE.1 hE.2.1 (by omega) dX9_pairLine_104 (by decide) (fun c206 => ?_) (fun c206 => ?_)
              · skip
                refine lv_aload_n hE.1 hE.2.1 dX9_pairLine_108 rfl (lv_at hl 2 rfl) ?_
                refine x_get (x := .ref (ad 8)) hE hK hP 0 (by decide) (yG_9 rfl) rfl hin9 18 (by decide) mw_1352 rfl dX9_pairLine_109 ?_
                refine lv_aload_n hE.1 hE.2.1 dX9_pairLine_112 rfl (lv_at hl 2 rfl) ?_
                refine lv_iload_n hE.1 hE.2.1 dX9_pairLine_113 rfl (lv_at hl 1 rfl) ?_
                refine x_vp (nn := 1) (As := [.int (iI (z2))]) (rest := [.ref (ad 8)]) hE (s_X9_placeRead l D K ad v205 ar205 al205 hI  (z2) (by omega)) wPre_blind (wPre_now hK hN hP) (x_recv hK hP 0 (by decide) (yG_9 rfl) rfl) rfl mw_1594 mw_1596 mw_62 mw_123 mw_1597 (by decide +kernel) ⟨by decide, by decide⟩ hl.1 rfl (Nat.le_of_ble_eq_true rfl) ⟨Nat.zero_le _, Nat.zero_le _⟩ dX9_pairLine_114 (fun r207 hr207 => ?_)
                obtain ⟨z207, hz207, rfl⟩ := hr207
                refine lv_iload_n hE.1 hE.2.1 dX9_pairLine_117 rfl (lv_at hl 3 rfl) ?_
                refine s_if_eq (a := z_1) (tgt := 126) hE.1 hE.2.1 (by omega) dX9_pairLine_118 (by decide) (fun c208 => False.elim (by omega)) (fun _ => ?_)
                refine lv_bipush (v := iI (7)) hE.1 hE.2.1 dX9_pairLine_121 (by decide) ?_
                refine lv_goto (tgt := 128) hE.1 hE.2.1 dX9_pairLine_123 (by decide) ?_
                refine lv_iadd hE.1 hE.2.1 dX9_pairLine_128 ?_
                refine x_top (y := iI (z207 + 7)) ((iI_add (z207) (7)).trans (congrArg iI (by omega))) ?_
                refine lv_dup2_11 hE.1 hE.2.1 dX9_pairLine_129 rfl rfl ?_
                refine x_iald (j := iI (z207 + 7)) hE hK hP 8 (by decide) (yG_10 rfl) (iI_in (n := 405) (by omega)) dX9_pairLine_130 ?_
                obtain ⟨z211, hz211, ez211⟩ := iI_of (ar205 8 (iI (z207 + 7)).toNatClampNeg)
                refine x_top ez211 ?_
                refine lv_iconst (v := iI (1)) hE.1 hE.2.1 dX9_pairLine_131 (by decide) ?_
                refine lv_iload_n hE.1 hE.2.1 dX9_pairLine_132 rfl (lv_at hl 0 rfl) ?_
                refine lv_ishl hE.1 hE.2.1 dX9_pairLine_133 ?_
                obtain ⟨z212, hz212, ez212⟩ := iI_shl8 (a := z205) (by omega)
                refine x_top ez212 ?_
                refine lv_ior hE.1 hE.2.1 dX9_pairLine_134 ?_
                obtain ⟨z213, hz213, ez213⟩ := iI_of (iI (z211) ||| iI (z212))
                refine x_top ez213 ?_
                refine x_iast (j := iI (z207 + 7)) hE hK hN hP hS 8 (by decide) (fun _ => yG_10 rfl) (iI_in (n := 405) (by omega)) dX9_pairLine_135 (fun ar214 H locs ha214 hP hS => ?_)
                have hI := YI_ast hI ha214 (by decide)
                refine lv_iload_n hE.1 hE.2.1 dX9_pairLine_136 rfl (lv_at hl 3 rfl) ?_
                refine s_if_ne (a := z_1) (tgt := 159) hE.1 hE.2.1 (by omega) dX9_pairLine_137 (by decide) (fun _ => ?_) (fun c215 => False.elim (by omega))
                exact kr v205 ar214 al205 _ _ _ _ ⟨hI, fun i j h => ((hq205 i j (fun q => h (mem_sub (by decide) q))).trans ((hq204 i j (fun q => h (mem_sub (by decide) q))).trans ((hq131 i j (fun q => h (mem_sub (by decide) q))).trans (hq2 i j (fun q => h (mem_sub (by decide) q)))))), fun i h => ((upx_ne ha214 i (fun q => h (by rw [q]; decide))).trans ((hqa205 i (fun q => h (mem_subn (by decide) q))).trans ((hqa204 i (fun q => h (mem_subn (by decide) q))).trans ((hqa131 i (fun q => h (mem_subn (by decide) q))).trans (hqa2 i (fun q => h (mem_subn (by decide) q))))))), fun i h => ((hql205 i (fun q => h (mem_subn (by decide) q))).trans ((hql204 i (fun q => h (mem_subn (by decide) q))).trans ((hql131 i (fun q => h (mem_subn (by decide) q))).trans (hql2 i (fun q => h (mem_subn (by decide) q)))))), x205_1, by omega, ex205_1⟩ hP hS dX9_pairLine_159
              · skip
                exact kr v205 ar205 al205 _ _ _ _ ⟨hI, fun i j h => ((hq205 i j (fun q => h (mem_sub (by decide) q))).trans ((hq204 i j (fun q => h (mem_sub (by decide) q))).trans ((hq131 i j (fun q => h (mem_sub (by decide) q))).trans (hq2 i j (fun q => h (mem_sub (by decide) q)))))), fun i h => ((hqa205 i (fun q => h (mem_subn (by decide) q))).trans ((hqa204 i (fun q => h (mem_subn (by decide) q))).trans ((hqa131 i (fun q => h (mem_subn (by decide) q))).trans (hqa2 i (fun q => h (mem_subn (by decide) q)))))), fun i h => ((hql205 i (fun q => h (mem_subn (by decide) q))).trans ((hql204 i (fun q => h (mem_subn (by decide) q))).trans ((hql131 i (fun q => h (mem_subn (by decide) q))).trans (hql2 i (fun q => h (mem_subn (by decide) q)))))), x205_1, by omega, ex205_1⟩ hP hS dX9_pairLine_107

set_option maxHeartbeats 4000000 in
set_option maxRecDepth 100000 in
theorem s_X9_hasRead_c0_0 (l : Launch) (D : va_G) (K : Nat → ClassId) (ad : Nat → Nat) (v ar : sI) (al : sL) (hI : YI v ar) (w_1 : Int) (hw_1 : 0 ≤ w_1 ∧ w_1 ≤ 3) (ew_1 : ar 7 24 = iI w_1) : Met l yX9_hasRead (wM yX9_hasRead cX9_hasRead 2 (some .int)) (rmD 0) (va_Pc [.ref (ad 0), .int (iI (0))] (wPre D K ad (yG ad K) 21 v ar al)) (vp_Si (fun r => ∃ z : Int, (z = w_1) ∧ r = iI z)) 0 0 (fun _ => False) := by
  refine s_metP (by decide) (Nat.le_of_ble_eq_true rfl) ?_
  intro p e s m below meth c ls args Q hE hB hl kr
  have hE : CallFix p m c cX9_hasRead 2 s args tbG "TaleCourtModel" := hE
  obtain ⟨hP, hK, hN⟩ := hB
  have hl : lv_has ls 2 [(0, .ref (ad 0)), (1, .int (iI (0)))] := hl
  refine lv_aload_n hE.1 hE.2.1 dX9_hasRead_0 rfl (lv_at hl 0 rfl) ?_
  refine x_get (x := .ref (ad 7)) hE hK hP 0 (by decide) (yG_9 rfl) rfl hin9 17 (by decide) mw_1351 rfl dX9_hasRead_1 ?_
  refine lv_bipush (v := iI (24)) hE.1 hE.2.1 dX9_hasRead_4 (by decide) ?_
  refine lv_iload_n hE.1 hE.2.1 dX9_hasRead_6 rfl (lv_at hl 1 rfl) ?_
  refine lv_iadd hE.1 hE.2.1 dX9_hasRead_7 ?_
  refine x_top (y := iI (24)) ((iI_add (24) (0)).trans (congrArg iI (by omega))) ?_
  refine x_iald (j := iI (24)) hE hK hP 7 (by decide) (yG_10 rfl) (iI_in (n := 30) (by omega)) dX9_hasRead_8 ?_
  refine x_top (y := iI (w_1)) (by rw [show (iI (24)).toNatClampNeg = 24 from by decide]; exact ew_1) ?_
  exact kr _ _ _ rfl ⟨w_1, by omega, rfl⟩ dX9_hasRead_9

theorem dX9_line_0 : decode cX9_line 0 = .ok (.aload_n 0, 1) := by decide +kernel
theorem dX9_line_1 : decode cX9_line 1 = .ok (.ldc2_w 199, 3) := by decide +kernel
theorem dX9_line_4 : decode cX9_line 4 = .ok (.invokevirtual 139, 3) := by decide +kernel
theorem dX9_line_7 : decode cX9_line 7 = .ok (.istore_n 1, 1) := by decide +kernel
theorem dX9_line_8 : decode cX9_line 8 = .ok (.aload_n 0, 1) := by decide +kernel
theorem dX9_line_9 : decode cX9_line 9 = .ok (.ldc2_w 201, 3) := by decide +kernel
theorem dX9_line_12 : decode cX9_line 12 = .ok (.invokevirtual 139, 3) := by decide +kernel
theorem dX9_line_15 : decode cX9_line 15 = .ok (.istore_n 2, 1) := by decide +kernel
theorem dX9_line_16 : decode cX9_line 16 = .ok (.iload_n 1, 1) := by decide +kernel
theorem dX9_line_17 : decode cX9_line 17 = .ok (.ifCond .eq 13, 3) := by decide +kernel
theorem dX9_line_20 : decode cX9_line 20 = .ok (.aload_n 0, 1) := by decide +kernel
theorem dX9_line_21 : decode cX9_line 21 = .ok (.iconst 2, 1) := by decide +kernel
theorem dX9_line_22 : decode cX9_line 22 = .ok (.invokevirtual 163, 3) := by decide +kernel
theorem dX9_line_25 : decode cX9_line 25 = .ok (.bipush 9, 2) := by decide +kernel
theorem dX9_line_27 : decode cX9_line 27 = .ok (.if_icmp .eq 17, 3) := by decide +kernel
theorem dX9_line_30 : decode cX9_line 30 = .ok (.iload_n 2, 1) := by decide +kernel
theorem dX9_line_31 : decode cX9_line 31 = .ok (.ifCond .eq 18, 3) := by decide +kernel
theorem dX9_line_34 : decode cX9_line 34 = .ok (.aload_n 0, 1) := by decide +kernel
theorem dX9_line_35 : decode cX9_line 35 = .ok (.iconst 3, 1) := by decide +kernel
theorem dX9_line_36 : decode cX9_line 36 = .ok (.invokevirtual 163, 3) := by decide +kernel
theorem dX9_line_39 : decode cX9_line 39 = .ok (.bipush 8, 2) := by decide +kernel
theorem dX9_line_41 : decode cX9_line 41 = .ok (.if_icmp .ne 8, 3) := by decide +kernel
theorem dX9_line_44 : decode cX9_line 44 = .ok (.aload_n 0, 1) := by decide +kernel
theorem dX9_line_45 : decode cX9_line 45 = .ok (.iconst 3, 1) := by decide +kernel
theorem dX9_line_46 : decode cX9_line 46 = .ok (.invokevirtual 149, 3) := by decide +kernel
theorem dX9_line_49 : decode cX9_line 49 = .ok (.aload_n 0, 1) := by decide +kernel
theorem dX9_line_50 : decode cX9_line 50 = .ok (.getfield 133, 3) := by decide +kernel
theorem dX9_line_53 : decode cX9_line 53 = .ok (.ifCond .eq 4, 3) := by decide +kernel
theorem dX9_line_56 : decode cX9_line 56 = .ok (.return_, 1) := by decide +kernel
theorem dX9_line_57 : decode cX9_line 57 = .ok (.iload_n 1, 1) := by decide +kernel
theorem dX9_line_58 : decode cX9_line 58 = .ok (.ifCond .ne 7, 3) := by decide +kernel
theorem dX9_line_61 : decode cX9_line 61 = .ok (.iload_n 2, 1) := by decide +kernel
theorem dX9_line_62 : decode cX9_line 62 = .ok (.ifCond .eq 25, 3) := by decide +kernel
theorem dX9_line_65 : decode cX9_line 65 = .ok (.aload_n 0, 1) := by decide +kernel
theorem dX9_line_66 : decode cX9_line 66 = .ok (.invokevirtual 143, 3) := by decide +kernel
theorem dX9_line_69 : decode cX9_line 69 = .ok (.iload_n 1, 1) := by decide +kernel
theorem dX9_line_70 : decode cX9_line 70 = .ok (.ifCond .eq 10, 3) := by decide +kernel
theorem dX9_line_73 : decode cX9_line 73 = .ok (.aload_n 0, 1) := by decide +kernel
theorem dX9_line_74 : decode cX9_line 74 = .ok (.invokevirtual 203, 3) := by decide +kernel
theorem dX9_line_77 : decode cX9_line 77 = .ok (.goto 132, 3) := by decide +kernel
theorem dX9_line_80 : decode cX9_line 80 = .ok (.aload_n 0, 1) := by decide +kernel
theorem dX9_line_81 : decode cX9_line 81 = .ok (.invokevirtual 206, 3) := by decide +kernel
theorem dX9_line_84 : decode cX9_line 84 = .ok (.goto 125, 3) := by decide +kernel
theorem dX9_line_87 : decode cX9_line 87 = .ok (.aload_n 0, 1) := by decide +kernel
theorem dX9_line_88 : decode cX9_line 88 = .ok (.ldc2_w 209, 3) := by decide +kernel
theorem dX9_line_91 : decode cX9_line 91 = .ok (.invokevirtual 146, 3) := by decide +kernel
theorem dX9_line_94 : decode cX9_line 94 = .ok (.ifCond .eq 11, 3) := by decide +kernel
theorem dX9_line_97 : decode cX9_line 97 = .ok (.aload_n 0, 1) := by decide +kernel
theorem dX9_line_98 : decode cX9_line 98 = .ok (.iconst 1, 1) := by decide +kernel
theorem dX9_line_99 : decode cX9_line 99 = .ok (.invokevirtual 211, 3) := by decide +kernel
theorem dX9_line_102 : decode cX9_line 102 = .ok (.goto 107, 3) := by decide +kernel
theorem dX9_line_105 : decode cX9_line 105 = .ok (.aload_n 0, 1) := by decide +kernel
theorem dX9_line_106 : decode cX9_line 106 = .ok (.ldc2_w 215, 3) := by decide +kernel
theorem dX9_line_109 : decode cX9_line 109 = .ok (.invokevirtual 146, 3) := by decide +kernel
theorem dX9_line_112 : decode cX9_line 112 = .ok (.ifCond .eq 11, 3) := by decide +kernel
theorem dX9_line_115 : decode cX9_line 115 = .ok (.aload_n 0, 1) := by decide +kernel
theorem dX9_line_116 : decode cX9_line 116 = .ok (.iconst 0, 1) := by decide +kernel
theorem dX9_line_117 : decode cX9_line 117 = .ok (.invokevirtual 211, 3) := by decide +kernel
theorem dX9_line_120 : decode cX9_line 120 = .ok (.goto 89, 3) := by decide +kernel
theorem dX9_line_123 : decode cX9_line 123 = .ok (.aload_n 0, 1) := by decide +kernel
theorem dX9_line_124 : decode cX9_line 124 = .ok (.ldc2_w 217, 3) := by decide +kernel
theorem dX9_line_127 : decode cX9_line 127 = .ok (.invokevirtual 146, 3) := by decide +kernel
theorem dX9_line_130 : decode cX9_line 130 = .ok (.ifCond .eq 47, 3) := by decide +kernel
theorem dX9_line_133 : decode cX9_line 133 = .ok (.aload_n 0, 1) := by decide +kernel
theorem dX9_line_134 : decode cX9_line 134 = .ok (.iconst 0, 1) := by decide +kernel
theorem dX9_line_135 : decode cX9_line 135 = .ok (.aload_n 0, 1) := by decide +kernel
theorem dX9_line_136 : decode cX9_line 136 = .ok (.iconst 0, 1) := by decide +kernel
theorem dX9_line_137 : decode cX9_line 137 = .ok (.invokevirtual 163, 3) := by decide +kernel
theorem dX9_line_140 : decode cX9_line 140 = .ok (.iconst 1, 1) := by decide +kernel
theorem dX9_line_141 : decode cX9_line 141 = .ok (.isub, 1) := by decide +kernel
theorem dX9_line_142 : decode cX9_line 142 = .ok (.invokevirtual 156, 3) := by decide +kernel
theorem dX9_line_145 : decode cX9_line 145 = .ok (.istore_n 3, 1) := by decide +kernel
theorem dX9_line_146 : decode cX9_line 146 = .ok (.aload_n 0, 1) := by decide +kernel
theorem dX9_line_147 : decode cX9_line 147 = .ok (.invokevirtual 189, 3) := by decide +kernel
theorem dX9_line_150 : decode cX9_line 150 = .ok (.istore 4, 2) := by decide +kernel
theorem dX9_line_152 : decode cX9_line 152 = .ok (.aload_n 0, 1) := by decide +kernel
theorem dX9_line_153 : decode cX9_line 153 = .ok (.invokevirtual 175, 3) := by decide +kernel
theorem dX9_line_156 : decode cX9_line 156 = .ok (.ifCond .eq 18, 3) := by decide +kernel
theorem dX9_line_159 : decode cX9_line 159 = .ok (.aload_n 0, 1) := by decide +kernel
theorem dX9_line_160 : decode cX9_line 160 = .ok (.getfield 37, 3) := by decide +kernel
theorem dX9_line_163 : decode cX9_line 163 = .ok (.aload_n 0, 1) := by decide +kernel
theorem dX9_line_164 : decode cX9_line 164 = .ok (.iload 4, 2) := by decide +kernel
theorem dX9_line_166 : decode cX9_line 166 = .ok (.invokevirtual 167, 3) := by decide +kernel
theorem dX9_line_169 : decode cX9_line 169 = .ok (.bipush 6, 2) := by decide +kernel
theorem dX9_line_171 : decode cX9_line 171 = .ok (.iadd, 1) := by decide +kernel
theorem dX9_line_172 : decode cX9_line 172 = .ok (.iload_n 3, 1) := by decide +kernel
theorem dX9_line_173 : decode cX9_line 173 = .ok (.iastore, 1) := by decide +kernel
theorem dX9_line_174 : decode cX9_line 174 = .ok (.goto 35, 3) := by decide +kernel
theorem dX9_line_177 : decode cX9_line 177 = .ok (.aload_n 0, 1) := by decide +kernel
theorem dX9_line_178 : decode cX9_line 178 = .ok (.ldc2_w 219, 3) := by decide +kernel
theorem dX9_line_181 : decode cX9_line 181 = .ok (.invokevirtual 152, 3) := by decide +kernel
theorem dX9_line_184 : decode cX9_line 184 = .ok (.aload_n 0, 1) := by decide +kernel
theorem dX9_line_185 : decode cX9_line 185 = .ok (.invokevirtual 189, 3) := by decide +kernel
theorem dX9_line_188 : decode cX9_line 188 = .ok (.istore_n 3, 1) := by decide +kernel
theorem dX9_line_189 : decode cX9_line 189 = .ok (.aload_n 0, 1) := by decide +kernel
theorem dX9_line_190 : decode cX9_line 190 = .ok (.invokevirtual 175, 3) := by decide +kernel
theorem dX9_line_193 : decode cX9_line 193 = .ok (.ifCond .eq 16, 3) := by decide +kernel
theorem dX9_line_196 : decode cX9_line 196 = .ok (.aload_n 0, 1) := by decide +kernel
theorem dX9_line_197 : decode cX9_line 197 = .ok (.getfield 34, 3) := by decide +kernel
theorem dX9_line_200 : decode cX9_line 200 = .ok (.bipush 28, 2) := by decide +kernel
theorem dX9_line_202 : decode cX9_line 202 = .ok (.dup2, 1) := by decide +kernel
theorem dX9_line_203 : decode cX9_line 203 = .ok (.iaload, 1) := by decide +kernel
theorem dX9_line_204 : decode cX9_line 204 = .ok (.iconst 1, 1) := by decide +kernel
theorem dX9_line_205 : decode cX9_line 205 = .ok (.iload_n 3, 1) := by decide +kernel
theorem dX9_line_206 : decode cX9_line 206 = .ok (.ishl, 1) := by decide +kernel
theorem dX9_line_207 : decode cX9_line 207 = .ok (.ior, 1) := by decide +kernel
theorem dX9_line_208 : decode cX9_line 208 = .ok (.iastore, 1) := by decide +kernel
theorem dX9_line_209 : decode cX9_line 209 = .ok (.return_, 1) := by decide +kernel
set_option maxHeartbeats 4000000 in
set_option maxRecDepth 100000 in
theorem s_X9_line (l : Launch) (D : va_G) (K : Nat → ClassId) (ad : Nat → Nat) (v ar : sI) (al : sL) (hI : YI v ar) (w_1 : Int) (hw_1 : 0 ≤ w_1 ∧ w_1 ≤ 1600) (ew_1 : v 0 6 = iI w_1) (w_2 : Int) (hw_2 : 0 ≤ w_2 ∧ w_2 ≤ 1600) (ew_2 : v 0 7 = iI w_2) (w_3 : Int) (hw_3 : 1 ≤ w_3 ∧ w_3 ≤ 3) (ew_3 : ar 7 24 = iI w_3) (hyp : w_2 ≤ w_1) : Met l yX9_line (wM yX9_line cX9_line 5 none) (rmD 6) (va_Pc [.ref (ad 0)] (wPre D K ad (yG ad K) 21 v ar al)) (va_Qv (fun u : sT => YI u.1 u.2.1 ∧ (∀ i j : Nat, (i, j) ∉ ([(0, 7), (0, 8), (0, 9), (0, 10), (0, 12), (0, 13)] : List (Nat × Nat)) → u.1 i j = v i j) ∧ (∀ i : Nat, i ∉ ([7, 8, 9] : List Nat) → u.2.1 i = ar i) ∧ (∀ i : Nat, i ∉ ([0] : List Nat) → u.2.2 i = al i) ∧ (∃ x_1 : Int, (0 ≤ x_1 ∧ x_1 ≤ 1600 ∧ (w_2 ≤ x_1 ∧ x_1 ≤ w_1)) ∧ u.1 0 7 = iI x_1)) (wB D ad (yG ad K) 21) (inW ad 21)) 0 0 (inW ad 21) := by
  refine s_metV (by decide) (Nat.le_of_ble_eq_true rfl) ?_
  intro p e s m below meth c ls args Q hE hB hl kr
  have hE : CallFix p m c cX9_line 5 s args tbG "TaleCourtModel" := hE
  obtain ⟨hP, hK, hN⟩ := hB
  have hS : va_S (inW ad 21) s.heap s.heap [] := va_S.rf
  have hl : lv_has ls 5 [(0, .ref (ad 0))] := hl
  refine lv_aload_n hE.1 hE.2.1 dX9_line_0 rfl (lv_at hl 0 rfl) ?_
  refine lv_ldc2 (v := 7218807) hE.1 hE.2.1 hE.2.2.2.1 (hE.2.2.2.2 _ mw_1584) dX9_line_1 ?_
  refine x_topl (y := lI (7218807)) (by decide) ?_
  obtain ⟨z1, hz1, ez1⟩ := iI_of (v 0 12)
  obtain ⟨z2, hz2, ez2⟩ := iI_of (v 0 8)
  refine x_vp (nn := 1) (As := [.long (lI (7218807))]) (rest := []) hE (s_X9_is l D K ad v ar al hI (z1) (by omega) ez1 (z2) (by omega) ez2 (7218807) (by omega)) wPre_blind (wPre_now hK hN hP) (x_recv hK hP 0 (by decide) (yG_9 rfl) rfl) rfl mw_1562 mw_1564 mw_55 mw_123 mw_1565 (by decide +kernel) ⟨by decide, by decide⟩ hl.1 rfl (Nat.le_of_ble_eq_true rfl) ⟨Nat.zero_le _, Nat.zero_le _⟩ dX9_line_4 (fun r3 hr3 => ?_)
  obtain ⟨z3, hz3, rfl⟩ := hr3
  refine lv_istore_n (lv' := [(1, .int (iI (z3))), (0, .ref (ad 0))]) hE.1 hE.2.1 dX9_line_7 rfl hl (by decide) rfl (fun ls hl => ?_)
  refine lv_aload_n hE.1 hE.2.1 dX9_line_8 rfl (lv_at hl 1 rfl) ?_
  refine lv_ldc2 (v := 129294389664) hE.1 hE.2.1 hE.2.2.2.1 (hE.2.2.2.2 _ mw_1585) dX9_line_9 ?_
  refine x_topl (y := lI (129294389664)) (by decide) ?_
  refine x_vp (nn := 1) (As := [.long (lI (129294389664))]) (rest := []) hE (s_X9_is l D K ad v ar al hI (z1) (by omega) ez1 (z2) (by omega) ez2 (129294389664) (by omega)) wPre_blind (wPre_now hK hN hP) (x_recv hK hP 0 (by decide) (yG_9 rfl) rfl) rfl mw_1562 mw_1564 mw_55 mw_123 mw_1565 (by decide +kernel) ⟨by decide, by decide⟩ hl.1 rfl (Nat.le_of_ble_eq_true rfl) ⟨Nat.zero_le _, Nat.zero_le _⟩ dX9_line_12 (fun r4 hr4 => ?_)
  obtain ⟨z4, hz4, rfl⟩ := hr4
  refine lv_istore_n (lv' := [(2, .int (iI (z4))), (1, .int (iI (z3))), (0, .ref (ad 0))]) hE.1 hE.2.1 dX9_line_15 rfl hl (by decide) rfl (fun ls hl => ?_)
  refine lv_iload_n hE.1 hE.2.1 dX9_line_16 rfl (lv_at hl 1 rfl) ?_
  refine s_if_eq (a := z3) (tgt := 30) hE.1 hE.2.1 (by omega) dX9_line_17 (by decide) (fun c5 => ?_) (fun c5 => ?_)
  · skip
    refine lv_iload_n hE.1 hE.2.1 dX9_line_30 rfl (lv_at hl 0 rfl) ?_
    refine s_if_eq (a := z4) (tgt := 49) hE.1 hE.2.1 (by omega) dX9_line_31 (by decide) (fun c6 => ?_) (fun c6 => ?_)
    · skip
      refine lv_aload_n hE.1 hE.2.1 dX9_line_49 rfl (lv_at hl 2 rfl) ?_
      refine x_get (x := .int (v 0 12)) hE hK hP 0 (by decide) (yG_9 rfl) rfl hin9 12 (by decide) mw_1346 rfl dX9_line_50 ?_
      refine x_top (y := iI (z1)) ez1 ?_
      refine s_if_eq (a := z1) (tgt := 57) hE.1 hE.2.1 (by omega) dX9_line_53 (by decide) (fun c7 => ?_) (fun c7 => ?_)
      · skip
        refine lv_iload_n hE.1 hE.2.1 dX9_line_57 rfl (lv_at hl 1 rfl) ?_
        refine s_if_ne (a := z3) (tgt := 65) hE.1 hE.2.1 (by omega) dX9_line_58 (by decide) (fun c8 => False.elim (by omega)) (fun _ => ?_)
        refine lv_iload_n hE.1 hE.2.1 dX9_line_61 rfl (lv_at hl 0 rfl) ?_
        refine s_if_eq (a := z4) (tgt := 87) hE.1 hE.2.1 (by omega) dX9_line_62 (by decide) (fun _ => ?_) (fun c9 => False.elim (by omega))
        refine lv_aload_n hE.1 hE.2.1 dX9_line_87 rfl (lv_at hl 2 rfl) ?_
        refine lv_ldc2 (v := 208022) hE.1 hE.2.1 hE.2.2.2.1 (hE.2.2.2.2 _ mw_1613) dX9_line_88 ?_
        refine x_topl (y := lI (208022)) (by decide) ?_
        refine x_vi (nn := 1) (As := [.long (lI (208022))]) (rest := []) hE hK hN hP hS (s_X9_takes l D K ad v ar al hI (w_1) (by omega) ew_1 (w_2) (by omega) ew_2 (208022) (by omega) (by omega)) (x_recv hK hP 0 (by decide) (yG_9 rfl) rfl) rfl mw_1558 mw_1560 mw_54 mw_123 mw_1561 (by decide +kernel) ⟨by decide, by decide⟩ hl.1 rfl (Nat.le_of_ble_eq_true rfl) ⟨Nat.zero_le _, Nat.zero_le _⟩ dX9_line_91 (fun r10 v10 ar10 al10 H locs hq10 hP hS => ?_)
        obtain ⟨⟨z10, hz10, rfl⟩, hI, hq10, hqa10, hql10, x10_1, hx10, ex10_1⟩ := hq10
        have hI : YI v10 ar10 := hI
        refine s_if_eq (a := z10) (tgt := 105) hE.1 hE.2.1 (by omega) dX9_line_94 (by decide) (fun c11 => ?_) (fun c11 => ?_)
        · skip
          refine lv_aload_n hE.1 hE.2.1 dX9_line_105 rfl (lv_at hl 2 rfl) ?_
          refine lv_ldc2 (v := 1831769) hE.1 hE.2.1 hE.2.2.2.1 (hE.2.2.2.2 _ mw_1620) dX9_line_106 ?_
          refine x_topl (y := lI (1831769)) (by decide) ?_
          refine x_vi (nn := 1) (As := [.long (lI (1831769))]) (rest := []) hE hK hN hP hS (s_X9_takes l D K ad v10 ar10 al10 hI (w_1) (by omega) ((hq10 0 6 (by decide)).trans ew_1) (x10_1) (by omega) ex10_1 (1831769) (by omega) (by omega)) (x_recv hK hP 0 (by decide) (yG_9 rfl) rfl) rfl mw_1558 mw_1560 mw_54 mw_123 mw_1561 (by decide +kernel) ⟨by decide, by decide⟩ hl.1 rfl (Nat.le_of_ble_eq_true rfl) ⟨Nat.zero_le _, Nat.zero_le _⟩ dX9_line_109 (fun r12 v12 ar12 al12 H locs hq12 hP hS => ?_)
          obtain ⟨⟨z12, hz12, rfl⟩, hI, hq12, hqa12, hql12, x12_1, hx12, ex12_1⟩ := hq12
          have hI : YI v12 ar12 := hI
          refine s_if_eq (a := z12) (tgt := 123) hE.1 hE.2.1 (by omega) dX9_line_112 (by decide) (fun c13 => ?_) (fun c13 => ?_)
          · skip
            refine lv_aload_n hE.1 hE.2.1 dX9_line_123 rfl (lv_at hl 2 rfl) ?_
            refine lv_ldc2 (v := 5948362) hE.1 hE.2.1 hE.2.2.2.1 (hE.2.2.2.2 _ mw_1621) dX9_line_124 ?_
            refine x_topl (y := lI (5948362)) (by decide) ?_
            refine x_vi (nn := 1) (As := [.long (lI (5948362))]) (rest := []) hE hK hN hP hS (s_X9_takes l D K ad v12 ar12 al12 hI (w_1) (by omega) ((hq12 0 6 (by decide)).trans ((hq10 0 6 (by decide)).trans ew_1)) (x12_1) (by omega) ex12_1 (5948362) (by omega) (by omega)) (x_recv hK hP 0 (by decide) (yG_9 rfl) rfl) rfl mw_1558 mw_1560 mw_54 mw_123 mw_1561 (by decide +kernel) ⟨by decide, by decide⟩ hl.1 rfl (Nat.le_of_ble_eq_true rfl) ⟨Nat.zero_le _, Nat.zero_le _⟩ dX9_line_127 (fun r14 v14 ar14 al14 H locs hq14 hP hS => ?_)
            obtain ⟨⟨z14, hz14, rfl⟩, hI, hq14, hqa14, hql14, x14_1, hx14, ex14_1⟩ := hq14
            have hI : YI v14 ar14 := hI
            refine s_if_eq (a := z14) (tgt := 177) hE.1 hE.2.1 (by omega) dX9_line_130 (by decide) (fun c15 => ?_) (fun c15 => ?_)
            · skip
              refine lv_aload_n hE.1 hE.2.1 dX9_line_177 rfl (lv_at hl 2 rfl) ?_
              refine lv_ldc2 (v := 94421056) hE.1 hE.2.1 hE.2.2.2.1 (hE.2.2.2.2 _ mw_1622) dX9_line_178 ?_
              refine x_topl (y := lI (94421056)) (by decide) ?_
              refine x_vv (nn := 1) (As := [.long (lI (94421056))]) (rest := []) hE hK hN hP hS (s_X9_asks l D K ad v14 ar14 al14 hI (w_1) (by omega) ((hq14 0 6 (by decide)).trans ((hq12 0 6 (by decide)).trans ((hq10 0 6 (by decide)).trans ew_1))) (x14_1) (by omega) ex14_1 (94421056) (by omega) (by omega)) (x_recv hK hP 0 (by decide) (yG_9 rfl) rfl) rfl mw_1554 mw_1556 mw_53 mw_123 mw_1557 (by decide +kernel) ⟨by decide, by decide⟩ hl.1 rfl (Nat.le_of_ble_eq_true rfl) ⟨Nat.zero_le _, Nat.zero_le _⟩ dX9_line_181 (fun v16 ar16 al16 H locs hq16 hP hS => ?_)
              obtain ⟨hI, hq16, hqa16, hql16, x16_1, hx16, ex16_1⟩ := hq16
              have hI : YI v16 ar16 := hI
              refine lv_aload_n hE.1 hE.2.1 dX9_line_184 rfl (lv_at hl 2 rfl) ?_
              obtain ⟨z17, hz17, ez17⟩ := YI_h2 hI 26 (by decide)
              refine x_vi (nn := 0) (As := []) (rest := []) hE hK hN hP hS (s_X9_motifHere l D K ad v16 ar16 al16 hI (w_1) (by omega) ((hq16 0 6 (by decide)).trans ((hq14 0 6 (by decide)).trans ((hq12 0 6 (by decide)).trans ((hq10 0 6 (by decide)).trans ew_1)))) (x16_1) (by omega) ex16_1 (z17) (by omega) ez17  (by omega)) (x_recv hK hP 0 (by decide) (yG_9 rfl) rfl) rfl mw_1609 mw_1611 mw_64 mw_123 mw_1612 (by decide +kernel) ⟨by decide, by decide⟩ hl.1 rfl (Nat.le_of_ble_eq_true rfl) ⟨Nat.zero_le _, Nat.zero_le _⟩ dX9_line_185 (fun r18 v18 ar18 al18 H locs hq18 hP hS => ?_)
              obtain ⟨⟨z18, hz18, rfl⟩, hI, hq18, hqa18, hql18, x18_1, x18_2, x18_3, hx18, ex18_1, ex18_2, ex18_3⟩ := hq18
              have hI : YI v18 ar18 := hI
              refine lv_istore_n (lv' := [(3, .int (iI (z18))), (2, .int (iI (z4))), (1, .int (iI (z3))), (0, .ref (ad 0))]) hE.1 hE.2.1 dX9_line_188 rfl hl (by decide) rfl (fun ls hl => ?_)
              refine lv_aload_n hE.1 hE.2.1 dX9_line_189 rfl (lv_at hl 3 rfl) ?_
              refine x_vp (nn := 0) (As := []) (rest := []) hE (s_X9_isGood l D K ad v18 ar18 al18 hI (x18_3) (by omega) ex18_3 ) wPre_blind (wPre_now hK hN hP) (x_recv hK hP 0 (by decide) (yG_9 rfl) rfl) rfl mw_1549 mw_1551 mw_52 mw_123 mw_1552 (by decide +kernel) ⟨by decide, by decide⟩ hl.1 rfl (Nat.le_of_ble_eq_true rfl) ⟨Nat.zero_le _, Nat.zero_le _⟩ dX9_line_190 (fun r19 hr19 => ?_)
              obtain ⟨z19, hz19, rfl⟩ := hr19
              refine s_if_eq (a := z19) (tgt := 209) hE.1 hE.2.1 (by omega) dX9_line_193 (by decide) (fun c20 => ?_) (fun c20 => ?_)
              · skip
                exact kr v18 ar18 al18 _ _ _ _ ⟨hI, fun i j h => ((hq18 i j (fun q => h (mem_sub (by decide) q))).trans ((hq16 i j (fun q => h (mem_sub (by decide) q))).trans ((hq14 i j (fun q => h (mem_sub (by decide) q))).trans ((hq12 i j (fun q => h (mem_sub (by decide) q))).trans (hq10 i j (fun q => h (mem_sub (by decide) q))))))), fun i h => ((hqa18 i (fun q => h (mem_subn (by decide) q))).trans ((hqa16 i (fun q => h (mem_subn (by decide) q))).trans ((hqa14 i (fun q => h (mem_subn (by decide) q))).trans ((hqa12 i (fun q => h (mem_subn (by decide) q))).trans (hqa10 i (fun q => h (mem_subn (by decide) q))))))), fun i h => ((hql18 i (fun q => h (mem_subn (by decide) q))).trans ((hql16 i (fun q => h (mem_subn (by decide) q))).trans ((hql14 i (fun q => h (mem_subn (by decide) q))).trans ((hql12 i (fun q => h (mem_subn (by decide) q))).trans (hql10 i (fun q => h (mem_subn (by decide) q))))))), x18_1, by omega, ex18_1⟩ hP hS dX9_line_209
              · skip
                refine lv_aload_n hE.1 hE.2.1 dX9_line_196 rfl (lv_at hl 3 rfl) ?_
                refine x_get (x := .ref (ad 7)) hE hK hP 0 (by decide) (yG_9 rfl) rfl hin9 17 (by decide) mw_1351 rfl dX9_line_197 ?_
                refine lv_bipush (v := iI (28)) hE.1 hE.2.1 dX9_line_200 (by decide) ?_
                refine lv_dup2_11 hE.1 hE.2.1 dX9_line_202 rfl rfl ?_
                refine x_iald (j := iI (28)) hE hK hP 7 (by decide) (yG_10 rfl) (iI_in (n := 30) (by omega)) dX9_line_203 ?_
                obtain ⟨z22, hz22, ez22⟩ := iI_of (ar18 7 28)
                refine x_top (y := iI (z22)) (by rw [show (iI (28)).toNatClampNeg = 28 from by decide]; exact ez22) ?_
                refine lv_iconst (v := iI (1)) hE.1 hE.2.1 dX9_line_204 (by decide) ?_
                refine lv_iload_n hE.1 hE.2.1 dX9_line_205 rfl (lv_at hl 0 rfl) ?_
                refine lv_ishl hE.1 hE.2.1 dX9_line_206 ?_
                obtain ⟨z23, hz23, ez23⟩ := iI_shl8 (a := z18) (by omega)
                refine x_top ez23 ?_
                refine lv_ior hE.1 hE.2.1 dX9_line_207 ?_
                obtain ⟨z24, hz24, ez24⟩ := iI_of (iI (z22) ||| iI (z23))
                refine x_top ez24 ?_
                refine x_iast (j := iI (28)) hE hK hN hP hS 7 (by decide) (fun _ => yG_10 rfl) (iI_in (n := 30) (by omega)) dX9_line_208 (fun ar25 H locs ha25 hP hS => ?_)
                have hI := YI_read7 (z := z24) (k := 28) hI ha25 (by decide) (by omega) (by unfold hasB; omega) (Or.inr ⟨by decide, fun q => absurd q (by decide)⟩)
                exact kr v18 ar25 al18 _ _ _ _ ⟨hI, fun i j h => ((hq18 i j (fun q => h (mem_sub (by decide) q))).trans ((hq16 i j (fun q => h (mem_sub (by decide) q))).trans ((hq14 i j (fun q => h (mem_sub (by decide) q))).trans ((hq12 i j (fun q => h (mem_sub (by decide) q))).trans (hq10 i j (fun q => h (mem_sub (by decide) q))))))), fun i h => ((upx_ne ha25 i (fun q => h (by rw [q]; decide))).trans ((hqa18 i (fun q => h (mem_subn (by decide) q))).trans ((hqa16 i (fun q => h (mem_subn (by decide) q))).trans ((hqa14 i (fun q => h (mem_subn (by decide) q))).trans ((hqa12 i (fun q => h (mem_subn (by decide) q))).trans (hqa10 i (fun q => h (mem_subn (by decide) q)))))))), fun i h => ((hql18 i (fun q => h (mem_subn (by decide) q))).trans ((hql16 i (fun q => h (mem_subn (by decide) q))).trans ((hql14 i (fun q => h (mem_subn (by decide) q))).trans ((hql12 i (fun q => h (mem_subn (by decide) q))).trans (hql10 i (fun q => h (mem_subn (by decide) q))))))), x18_1, by omega, ex18_1⟩ hP hS dX9_line_209
            · skip
              refine lv_aload_n hE.1 hE.2.1 dX9_line_133 rfl (lv_at hl 2 rfl) ?_
              refine lv_iconst (v := iI (0)) hE.1 hE.2.1 dX9_line_134 (by decide) ?_
              refine lv_aload_n hE.1 hE.2.1 dX9_line_135 rfl (lv_at hl 2 rfl) ?_
              refine lv_iconst (v := iI (0)) hE.1 hE.2.1 dX9_line_136 (by decide) ?_
              refine x_vp (nn := 1) (As := [.int (iI (0))]) (rest := [.int (iI (0)), .ref (ad 0)]) hE (s_X9_hasRead_c0_0 l D K ad v14 ar14 al14 hI (w_3) (by omega) ((congrFun (hqa14 7 (by decide)) 24).trans ((congrFun (hqa12 7 (by decide)) 24).trans ((congrFun (hqa10 7 (by decide)) 24).trans ew_3))) ) wPre_blind (wPre_now hK hN hP) (x_recv hK hP 0 (by decide) (yG_9 rfl) rfl) rfl mw_1586 mw_1588 mw_60 mw_123 mw_1589 (by decide +kernel) ⟨by decide, by decide⟩ hl.1 rfl (Nat.le_of_ble_eq_true rfl) ⟨Nat.zero_le _, Nat.zero_le _⟩ dX9_line_137 (fun r26 hr26 => ?_)
              obtain ⟨z26, hz26, rfl⟩ := hr26
              refine lv_iconst (v := iI (1)) hE.1 hE.2.1 dX9_line_140 (by decide) ?_
              refine lv_isub hE.1 hE.2.1 dX9_line_141 ?_
              refine x_top (y := iI (z26 - 1)) ((iI_sub (z26) (1)).trans (congrArg iI (by omega))) ?_
              refine x_vi (nn := 2) (As := [.int (iI (0)), .int (iI (z26 - 1))]) (rest := []) hE hK hN hP hS (s_X9_number l D K ad v14 ar14 al14 hI (w_1) (by omega) ((hq14 0 6 (by decide)).trans ((hq12 0 6 (by decide)).trans ((hq10 0 6 (by decide)).trans ew_1))) (x14_1) (by omega) ex14_1 (0) (by omega) (z26 - 1) (by omega) (by omega)) (x_recv hK hP 0 (by decide) (yG_9 rfl) rfl) rfl mw_1575 mw_1577 mw_58 mw_123 mw_1578 (by decide +kernel) ⟨by decide, by decide⟩ hl.1 rfl (Nat.le_of_ble_eq_true rfl) ⟨Nat.zero_le _, Nat.zero_le _⟩ dX9_line_142 (fun r27 v27 ar27 al27 H locs hq27 hP hS => ?_)
              obtain ⟨⟨z27, hz27, rfl⟩, hI, hq27, hqa27, hql27, x27_1, x27_2, x27_3, hx27, ex27_1, ex27_2, ex27_3⟩ := hq27
              have hI : YI v27 ar27 := hI
              refine lv_istore_n (lv' := [(3, .int (iI (z27))), (2, .int (iI (z4))), (1, .int (iI (z3))), (0, .ref (ad 0))]) hE.1 hE.2.1 dX9_line_145 rfl hl (by decide) rfl (fun ls hl => ?_)
              refine lv_aload_n hE.1 hE.2.1 dX9_line_146 rfl (lv_at hl 3 rfl) ?_
              obtain ⟨z28, hz28, ez28⟩ := YI_h2 hI 26 (by decide)
              refine x_vi (nn := 0) (As := []) (rest := []) hE hK hN hP hS (s_X9_motifHere l D K ad v27 ar27 al27 hI (w_1) (by omega) ((hq27 0 6 (by decide)).trans ((hq14 0 6 (by decide)).trans ((hq12 0 6 (by decide)).trans ((hq10 0 6 (by decide)).trans ew_1)))) (x27_1) (by omega) ex27_1 (z28) (by omega) ez28  (by omega)) (x_recv hK hP 0 (by decide) (yG_9 rfl) rfl) rfl mw_1609 mw_1611 mw_64 mw_123 mw_1612 (by decide +kernel) ⟨by decide, by decide⟩ hl.1 rfl (Nat.le_of_ble_eq_true rfl) ⟨Nat.zero_le _, Nat.zero_le _⟩ dX9_line_147 (fun r29 v29 ar29 al29 H locs hq29 hP hS => ?_)
              obtain ⟨⟨z29, hz29, rfl⟩, hI, hq29, hqa29, hql29, x29_1, x29_2, x29_3, hx29, ex29_1, ex29_2, ex29_3⟩ := hq29
              have hI : YI v29 ar29 := hI
              refine lv_istore (lv' := [(4, .int (iI (z29))), (3, .int (iI (z27))), (2, .int (iI (z4))), (1, .int (iI (z3))), (0, .ref (ad 0))]) hE.1 hE.2.1 dX9_line_150 hl (by decide) rfl (fun ls hl => ?_)
              refine lv_aload_n hE.1 hE.2.1 dX9_line_152 rfl (lv_at hl 4 rfl) ?_
              refine x_vp (nn := 0) (As := []) (rest := []) hE (s_X9_isGood l D K ad v29 ar29 al29 hI (x29_3) (by omega) ex29_3 ) wPre_blind (wPre_now hK hN hP) (x_recv hK hP 0 (by decide) (yG_9 rfl) rfl) rfl mw_1549 mw_1551 mw_52 mw_123 mw_1552 (by decide +kernel) ⟨by decide, by decide⟩ hl.1 rfl (Nat.le_of_ble_eq_true rfl) ⟨Nat.zero_le _, Nat.zero_le _⟩ dX9_line_153 (fun r30 hr30 => ?_)
              obtain ⟨z30, hz30, rfl⟩ := hr30
              refine s_if_eq (a := z30) (tgt := 174) hE.1 hE.2.1 (by omega) dX9_line_156 (by decide) (fun c31 => ?_) (fun c31 => ?_)
              · skip
                refine lv_goto (tgt := 209) hE.1 hE.2.1 dX9_line_174 (by decide) ?_
                exact kr v29 ar29 al29 _ _ _ _ ⟨hI, fun i j h => ((hq29 i j (fun q => h (mem_sub (by decide) q))).trans ((hq27 i j (fun q => h (mem_sub (by decide) q))).trans ((hq14 i j (fun q => h (mem_sub (by decide) q))).trans ((hq12 i j (fun q => h (mem_sub (by decide) q))).trans (hq10 i j (fun q => h (mem_sub (by decide) q))))))), fun i h => ((hqa29 i (fun q => h (mem_subn (by decide) q))).trans ((hqa27 i (fun q => h (mem_subn (by decide) q))).trans ((hqa14 i (fun q => h (mem_subn (by decide) q))).trans ((hqa12 i (fun q => h (mem_subn (by decide) q))).trans (hqa10 i (fun q => h (mem_subn (by decide) q))))))), fun i h => ((hql29 i (fun q => h (mem_subn (by decide) q))).trans ((hql27 i (fun q => h (mem_subn (by decide) q))).trans ((hql14 i (fun q => h (mem_subn (by decide) q))).trans ((hql12 i (fun q => h (mem_subn (by decide) q))).trans (hql10 i (fun q => h (mem_subn (by decide) q))))))), x29_1, by omega, ex29_1⟩ hP hS dX9_line_209
              · skip
                refine lv_aload_n hE.1 hE.2.1 dX9_line_159 rfl (lv_at hl 4 rfl) ?_
                refine x_get (x := .ref (ad 8)) hE hK hP 0 (by decide) (yG_9 rfl) rfl hin9 18 (by decide) mw_1352 rfl dX9_line_160 ?_
                refine lv_aload_n hE.1 hE.2.1 dX9_line_163 rfl (lv_at hl 4 rfl) ?_
                refine lv_iload hE.1 hE.2.1 dX9_line_164 (lv_at hl 0 rfl) ?_
                refine x_vp (nn := 1) (As := [.int (iI (z29))]) (rest := [.ref (ad 8)]) hE (s_X9_placeRead l D K ad v29 ar29 al29 hI  (z29) (by omega)) wPre_blind (wPre_now hK hN hP) (x_recv hK hP 0 (by decide) (yG_9 rfl) rfl) rfl mw_1594 mw_1596 mw_62 mw_123 mw_1597 (by decide +kernel) ⟨by decide, by decide⟩ hl.1 rfl (Nat.le_of_ble_eq_true rfl) ⟨Nat.zero_le _, Nat.zero_le _⟩ dX9_line_166 (fun r32 hr32 => ?_)
                obtain ⟨z32, hz32, rfl⟩ := hr32
                refine lv_bipush (v := iI (6)) hE.1 hE.2.1 dX9_line_169 (by decide) ?_
                refine lv_iadd hE.1 hE.2.1 dX9_line_171 ?_
                refine x_top (y := iI (z32 + 6)) ((iI_add (z32) (6)).trans (congrArg iI (by omega))) ?_
                refine lv_iload_n hE.1 hE.2.1 dX9_line_172 rfl (lv_at hl 1 rfl) ?_
                refine x_iast (j := iI (z32 + 6)) hE hK hN hP hS 8 (by decide) (fun _ => yG_10 rfl) (iI_in (n := 405) (by omega)) dX9_line_173 (fun ar33 H locs ha33 hP hS => ?_)
                have hI := YI_ast hI ha33 (by decide)
                refine lv_goto (tgt := 209) hE.1 hE.2.1 dX9_line_174 (by decide) ?_
                exact kr v29 ar33 al29 _ _ _ _ ⟨hI, fun i j h => ((hq29 i j (fun q => h (mem_sub (by decide) q))).trans ((hq27 i j (fun q => h (mem_sub (by decide) q))).trans ((hq14 i j (fun q => h (mem_sub (by decide) q))).trans ((hq12 i j (fun q => h (mem_sub (by decide) q))).trans (hq10 i j (fun q => h (mem_sub (by decide) q))))))), fun i h => ((upx_ne ha33 i (fun q => h (by rw [q]; decide))).trans ((hqa29 i (fun q => h (mem_subn (by decide) q))).trans ((hqa27 i (fun q => h (mem_subn (by decide) q))).trans ((hqa14 i (fun q => h (mem_subn (by decide) q))).trans ((hqa12 i (fun q => h (mem_subn (by decide) q))).trans (hqa10 i (fun q => h (mem_subn (by decide) q)))))))), fun i h => ((hql29 i (fun q => h (mem_subn (by decide) q))).trans ((hql27 i (fun q => h (mem_subn (by decide) q))).trans ((hql14 i (fun q => h (mem_subn (by decide) q))).trans ((hql12 i (fun q => h (mem_subn (by decide) q))).trans (hql10 i (fun q => h (mem_subn (by decide) q))))))), x29_1, by omega, ex29_1⟩ hP hS dX9_line_209
          · skip
            refine lv_aload_n hE.1 hE.2.1 dX9_line_115 rfl (lv_at hl 2 rfl) ?_
            refine lv_iconst (v := iI (0)) hE.1 hE.2.1 dX9_line_116 (by decide) ?_
            refine x_vv (nn := 1) (As := [.int (iI (0))]) (rest := []) hE hK hN hP hS (s_X9_pairLine l D K ad v12 ar12 al12 hI (w_1) (by omega) ((hq12 0 6 (by decide)).trans ((hq10 0 6 (by decide)).trans ew_1)) (x12_1) (by omega) ex12_1 (0) (by omega) (by omega)) (x_recv hK hP 0 (by decide) (yG_9 rfl) rfl) rfl mw_1614 mw_1616 mw_65 mw_123 mw_1617 (by decide +kernel) ⟨by decide, by decide⟩ hl.1 rfl (Nat.le_of_ble_eq_true rfl) ⟨Nat.zero_le _, Nat.zero_le _⟩ dX9_line_117 (fun v34 ar34 al34 H locs hq34 hP hS => ?_)
            obtain ⟨hI, hq34, hqa34, hql34, x34_1, hx34, ex34_1⟩ := hq34
            have hI : YI v34 ar34 := hI
            refine lv_goto (tgt := 209) hE.1 hE.2.1 dX9_line_120 (by decide) ?_
            exact kr v34 ar34 al34 _ _ _ _ ⟨hI, fun i j h => ((hq34 i j (fun q => h (mem_sub (by decide) q))).trans ((hq12 i j (fun q => h (mem_sub (by decide) q))).trans (hq10 i j (fun q => h (mem_sub (by decide) q))))), fun i h => ((hqa34 i (fun q => h (mem_subn (by decide) q))).trans ((hqa12 i (fun q => h (mem_subn (by decide) q))).trans (hqa10 i (fun q => h (mem_subn (by decide) q))))), fun i h => ((hql34 i (fun q => h (mem_subn (by decide) q))).trans ((hql12 i (fun q => h (mem_subn (by decide) q))).trans (hql10 i (fun q => h (mem_subn (by decide) q))))), x34_1, by omega, ex34_1⟩ hP hS dX9_line_209
        · skip
          refine lv_aload_n hE.1 hE.2.1 dX9_line_97 rfl (lv_at hl 2 rfl) ?_
          refine lv_iconst (v := iI (1)) hE.1 hE.2.1 dX9_line_98 (by decide) ?_
          refine x_vv (nn := 1) (As := [.int (iI (1))]) (rest := []) hE hK hN hP hS (s_X9_pairLine l D K ad v10 ar10 al10 hI (w_1) (by omega) ((hq10 0 6 (by decide)).trans ew_1) (x10_1) (by omega) ex10_1 (1) (by omega) (by omega)) (x_recv hK hP 0 (by decide) (yG_9 rfl) rfl) rfl mw_1614 mw_1616 mw_65 mw_123 mw_1617 (by decide +kernel) ⟨by decide, by decide⟩ hl.1 rfl (Nat.le_of_ble_eq_true rfl) ⟨Nat.zero_le _, Nat.zero_le _⟩ dX9_line_99 (fun v35 ar35 al35 H locs hq35 hP hS => ?_)
          obtain ⟨hI, hq35, hqa35, hql35, x35_1, hx35, ex35_1⟩ := hq35
          have hI : YI v35 ar35 := hI
          refine lv_goto (tgt := 209) hE.1 hE.2.1 dX9_line_102 (by decide) ?_
          exact kr v35 ar35 al35 _ _ _ _ ⟨hI, fun i j h => ((hq35 i j (fun q => h (mem_sub (by decide) q))).trans (hq10 i j (fun q => h (mem_sub (by decide) q)))), fun i h => ((hqa35 i (fun q => h (mem_subn (by decide) q))).trans (hqa10 i (fun q => h (mem_subn (by decide) q)))), fun i h => ((hql35 i (fun q => h (mem_subn (by decide) q))).trans (hql10 i (fun q => h (mem_subn (by decide) q)))), x35_1, by omega, ex35_1⟩ hP hS dX9_line_209
      · skip
        exact kr v ar al _ _ _ _ ⟨hI, fun i j h => rfl, fun i h => rfl, fun i h => rfl, w_2, by omega, ew_2⟩ hP hS dX9_line_56
    · skip
      refine lv_aload_n hE.1 hE.2.1 dX9_line_34 rfl (lv_at hl 2 rfl) ?_
      refine lv_iconst (v := iI (3)) hE.1 hE.2.1 dX9_line_35 (by decide) ?_
      obtain ⟨z36, hz36, ez36⟩ := YI_h3 hI 27 (by decide)
      refine x_vp (nn := 1) (As := [.int (iI (3))]) (rest := []) hE (s_X9_hasRead_c0_3 l D K ad v ar al hI (z36) (by omega) ez36 ) wPre_blind (wPre_now hK hN hP) (x_recv hK hP 0 (by decide) (yG_9 rfl) rfl) rfl mw_1586 mw_1588 mw_60 mw_123 mw_1589 (by decide +kernel) ⟨by decide, by decide⟩ hl.1 rfl (Nat.le_of_ble_eq_true rfl) ⟨Nat.zero_le _, Nat.zero_le _⟩ dX9_line_36 (fun r37 hr37 => ?_)
      obtain ⟨z37, hz37, rfl⟩ := hr37
      refine lv_bipush (v := iI (8)) hE.1 hE.2.1 dX9_line_39 (by decide) ?_
      refine s_icmp_ne (a := z37) (b := 8) (tgt := 49) hE.1 hE.2.1 (by omega) (by omega) dX9_line_41 (by decide) (fun c38 => ?_) (fun c38 => ?_)
      · skip
        refine lv_aload_n hE.1 hE.2.1 dX9_line_49 rfl (lv_at hl 2 rfl) ?_
        refine x_get (x := .int (v 0 12)) hE hK hP 0 (by decide) (yG_9 rfl) rfl hin9 12 (by decide) mw_1346 rfl dX9_line_50 ?_
        refine x_top (y := iI (z1)) ez1 ?_
        refine s_if_eq (a := z1) (tgt := 57) hE.1 hE.2.1 (by omega) dX9_line_53 (by decide) (fun c39 => ?_) (fun c39 => ?_)
        · skip
          refine lv_iload_n hE.1 hE.2.1 dX9_line_57 rfl (lv_at hl 1 rfl) ?_
          refine s_if_ne (a := z3) (tgt := 65) hE.1 hE.2.1 (by omega) dX9_line_58 (by decide) (fun c40 => False.elim (by omega)) (fun _ => ?_)
          refine lv_iload_n hE.1 hE.2.1 dX9_line_61 rfl (lv_at hl 0 rfl) ?_
          refine s_if_eq (a := z4) (tgt := 87) hE.1 hE.2.1 (by omega) dX9_line_62 (by decide) (fun c41 => False.elim (by omega)) (fun _ => ?_)
          refine lv_aload_n hE.1 hE.2.1 dX9_line_65 rfl (lv_at hl 2 rfl) ?_
          refine x_vv (nn := 0) (As := []) (rest := []) hE hK hN hP hS (s_X9_next l D K ad v ar al hI (w_1) (by omega) ew_1 (w_2) (by omega) ew_2  (by omega)) (x_recv hK hP 0 (by decide) (yG_9 rfl) rfl) rfl mw_1536 mw_1538 mw_50 mw_123 mw_1539 (by decide +kernel) ⟨by decide, by decide⟩ hl.1 rfl (Nat.le_of_ble_eq_true rfl) ⟨Nat.zero_le _, Nat.zero_le _⟩ dX9_line_66 (fun v42 ar42 al42 H locs hq42 hP hS => ?_)
          obtain ⟨hI, hq42, hqa42, hql42, x42_1, x42_2, hx42, ex42_1, ex42_2⟩ := hq42
          have hI : YI v42 ar42 := hI
          refine lv_iload_n hE.1 hE.2.1 dX9_line_69 rfl (lv_at hl 1 rfl) ?_
          refine s_if_eq (a := z3) (tgt := 80) hE.1 hE.2.1 (by omega) dX9_line_70 (by decide) (fun _ => ?_) (fun c43 => False.elim (by omega))
          refine lv_aload_n hE.1 hE.2.1 dX9_line_80 rfl (lv_at hl 2 rfl) ?_
          refine x_vv (nn := 0) (As := []) (rest := []) hE hK hN hP hS (s_X9_listenerLine l D K ad v42 ar42 al42 hI (w_1) (by omega) ((hq42 0 6 (by decide)).trans ew_1) (x42_1) (by omega) ex42_1 (z36) (by omega) ((congrFun (hqa42 7 (by decide)) 27).trans ez36)  (by omega)) (x_recv hK hP 0 (by decide) (yG_9 rfl) rfl) rfl mw_1604 mw_1606 mw_63 mw_123 mw_1607 (by decide +kernel) ⟨by decide, by decide⟩ hl.1 rfl (Nat.le_of_ble_eq_true rfl) ⟨Nat.zero_le _, Nat.zero_le _⟩ dX9_line_81 (fun v44 ar44 al44 H locs hq44 hP hS => ?_)
          obtain ⟨hI, hq44, hqa44, hql44, x44_1, hx44, ex44_1⟩ := hq44
          have hI : YI v44 ar44 := hI
          refine lv_goto (tgt := 209) hE.1 hE.2.1 dX9_line_84 (by decide) ?_
          exact kr v44 ar44 al44 _ _ _ _ ⟨hI, fun i j h => ((hq44 i j (fun q => h (mem_sub (by decide) q))).trans (hq42 i j (fun q => h (mem_sub (by decide) q)))), fun i h => ((hqa44 i (fun q => h (mem_subn (by decide) q))).trans (hqa42 i (fun q => h (mem_subn (by decide) q)))), fun i h => ((hql44 i (fun q => h (mem_subn (by decide) q))).trans (hql42 i (fun q => h (mem_subn (by decide) q)))), x44_1, by omega, ex44_1⟩ hP hS dX9_line_209
        · skip
          exact kr v ar al _ _ _ _ ⟨hI, fun i j h => rfl, fun i h => rfl, fun i h => rfl, w_2, by omega, ew_2⟩ hP hS dX9_line_56
      · skip
        refine lv_aload_n hE.1 hE.2.1 dX9_line_44 rfl (lv_at hl 2 rfl) ?_
        refine lv_iconst (v := iI (3)) hE.1 hE.2.1 dX9_line_45 (by decide) ?_
        refine x_vv (nn := 1) (As := [.int (iI (3))]) (rest := []) hE hK hN hP hS (s_X9_fails l D K ad v ar al hI  (3) (by omega)) (x_recv hK hP 0 (by decide) (yG_9 rfl) rfl) rfl mw_1566 mw_1568 mw_56 mw_123 mw_1569 (by decide +kernel) ⟨by decide, by decide⟩ hl.1 rfl (Nat.le_of_ble_eq_true rfl) ⟨Nat.zero_le _, Nat.zero_le _⟩ dX9_line_46 (fun v45 ar45 al45 H locs hq45 hP hS => ?_)
        obtain ⟨hI, hq45, hqa45, hql45, x45_1, hx45, ex45_1⟩ := hq45
        have hI : YI v45 ar45 := hI
        refine lv_aload_n hE.1 hE.2.1 dX9_line_49 rfl (lv_at hl 2 rfl) ?_
        refine x_get (x := .int (v45 0 12)) hE hK hP 0 (by decide) (yG_9 rfl) rfl hin9 12 (by decide) mw_1346 rfl dX9_line_50 ?_
        refine x_top (y := iI (x45_1)) ex45_1 ?_
        refine s_if_eq (a := x45_1) (tgt := 57) hE.1 hE.2.1 (by omega) dX9_line_53 (by decide) (fun c46 => ?_) (fun c46 => ?_)
        · skip
          refine lv_iload_n hE.1 hE.2.1 dX9_line_57 rfl (lv_at hl 1 rfl) ?_
          refine s_if_ne (a := z3) (tgt := 65) hE.1 hE.2.1 (by omega) dX9_line_58 (by decide) (fun c47 => False.elim (by omega)) (fun _ => ?_)
          refine lv_iload_n hE.1 hE.2.1 dX9_line_61 rfl (lv_at hl 0 rfl) ?_
          refine s_if_eq (a := z4) (tgt := 87) hE.1 hE.2.1 (by omega) dX9_line_62 (by decide) (fun c48 => False.elim (by omega)) (fun _ => ?_)
          refine lv_aload_n hE.1 hE.2.1 dX9_line_65 rfl (lv_at hl 2 rfl) ?_
          refine x_vv (nn := 0) (As := []) (rest := []) hE hK hN hP hS (s_X9_next l D K ad v45 ar45 al45 hI (w_1) (by omega) ((hq45 0 6 (by decide)).trans ew_1) (w_2) (by omega) ((hq45 0 7 (by decide)).trans ew_2)  (by omega)) (x_recv hK hP 0 (by decide) (yG_9 rfl) rfl) rfl mw_1536 mw_1538 mw_50 mw_123 mw_1539 (by decide +kernel) ⟨by decide, by decide⟩ hl.1 rfl (Nat.le_of_ble_eq_true rfl) ⟨Nat.zero_le _, Nat.zero_le _⟩ dX9_line_66 (fun v49 ar49 al49 H locs hq49 hP hS => ?_)
          obtain ⟨hI, hq49, hqa49, hql49, x49_1, x49_2, hx49, ex49_1, ex49_2⟩ := hq49
          have hI : YI v49 ar49 := hI
          refine lv_iload_n hE.1 hE.2.1 dX9_line_69 rfl (lv_at hl 1 rfl) ?_
          refine s_if_eq (a := z3) (tgt := 80) hE.1 hE.2.1 (by omega) dX9_line_70 (by decide) (fun _ => ?_) (fun c50 => False.elim (by omega))
          refine lv_aload_n hE.1 hE.2.1 dX9_line_80 rfl (lv_at hl 2 rfl) ?_
          refine x_vv (nn := 0) (As := []) (rest := []) hE hK hN hP hS (s_X9_listenerLine l D K ad v49 ar49 al49 hI (w_1) (by omega) ((hq49 0 6 (by decide)).trans ((hq45 0 6 (by decide)).trans ew_1)) (x49_1) (by omega) ex49_1 (z36) (by omega) ((congrFun (hqa49 7 (by decide)) 27).trans ((congrFun (hqa45 7 (by decide)) 27).trans ez36))  (by omega)) (x_recv hK hP 0 (by decide) (yG_9 rfl) rfl) rfl mw_1604 mw_1606 mw_63 mw_123 mw_1607 (by decide +kernel) ⟨by decide, by decide⟩ hl.1 rfl (Nat.le_of_ble_eq_true rfl) ⟨Nat.zero_le _, Nat.zero_le _⟩ dX9_line_81 (fun v51 ar51 al51 H locs hq51 hP hS => ?_)
          obtain ⟨hI, hq51, hqa51, hql51, x51_1, hx51, ex51_1⟩ := hq51
          have hI : YI v51 ar51 := hI
          refine lv_goto (tgt := 209) hE.1 hE.2.1 dX9_line_84 (by decide) ?_
          exact kr v51 ar51 al51 _ _ _ _ ⟨hI, fun i j h => ((hq51 i j (fun q => h (mem_sub (by decide) q))).trans ((hq49 i j (fun q => h (mem_sub (by decide) q))).trans (hq45 i j (fun q => h (mem_sub (by decide) q))))), fun i h => ((hqa51 i (fun q => h (mem_subn (by decide) q))).trans ((hqa49 i (fun q => h (mem_subn (by decide) q))).trans (hqa45 i (fun q => h (mem_subn (by decide) q))))), fun i h => ((hql51 i (fun q => h (mem_subn (by decide) q))).trans ((hql49 i (fun q => h (mem_subn (by decide) q))).trans (hql45 i (fun q => h (mem_subn (by decide) q))))), x51_1, by omega, ex51_1⟩ hP hS dX9_line_209
        · skip
          exact kr v45 ar45 al45 _ _ _ _ ⟨hI, fun i j h => (hq45 i j (fun q => h (mem_sub (by decide) q))), fun i h => (hqa45 i (fun q => h (mem_subn (by decide) q))), fun i h => (hql45 i (fun q => h (mem_subn (by decide) q))), w_2, by omega, ((hq45 0 7 (by decide)).trans ew_2)⟩ hP hS dX9_line_56
  · skip
    refine lv_aload_n hE.1 hE.2.1 dX9_line_20 rfl (lv_at hl 2 rfl) ?_
    refine lv_iconst (v := iI (2)) hE.1 hE.2.1 dX9_line_21 (by decide) ?_
    obtain ⟨z52, hz52, ez52⟩ := YI_h2 hI 26 (by decide)
    refine x_vp (nn := 1) (As := [.int (iI (2))]) (rest := []) hE (s_X9_hasRead_c0_2 l D K ad v ar al hI (z52) (by omega) ez52 ) wPre_blind (wPre_now hK hN hP) (x_recv hK hP 0 (by decide) (yG_9 rfl) rfl) rfl mw_1586 mw_1588 mw_60 mw_123 mw_1589 (by decide +kernel) ⟨by decide, by decide⟩ hl.1 rfl (Nat.le_of_ble_eq_true rfl) ⟨Nat.zero_le _, Nat.zero_le _⟩ dX9_line_22 (fun r53 hr53 => ?_)
    obtain ⟨z53, hz53, rfl⟩ := hr53
    refine lv_bipush (v := iI (9)) hE.1 hE.2.1 dX9_line_25 (by decide) ?_
    refine s_icmp_eq (a := z53) (b := 9) (tgt := 44) hE.1 hE.2.1 (by omega) (by omega) dX9_line_27 (by decide) (fun c54 => ?_) (fun c54 => ?_)
    · skip
      refine lv_aload_n hE.1 hE.2.1 dX9_line_44 rfl (lv_at hl 2 rfl) ?_
      refine lv_iconst (v := iI (3)) hE.1 hE.2.1 dX9_line_45 (by decide) ?_
      refine x_vv (nn := 1) (As := [.int (iI (3))]) (rest := []) hE hK hN hP hS (s_X9_fails l D K ad v ar al hI  (3) (by omega)) (x_recv hK hP 0 (by decide) (yG_9 rfl) rfl) rfl mw_1566 mw_1568 mw_56 mw_123 mw_1569 (by decide +kernel) ⟨by decide, by decide⟩ hl.1 rfl (Nat.le_of_ble_eq_true rfl) ⟨Nat.zero_le _, Nat.zero_le _⟩ dX9_line_46 (fun v55 ar55 al55 H locs hq55 hP hS => ?_)
      obtain ⟨hI, hq55, hqa55, hql55, x55_1, hx55, ex55_1⟩ := hq55
      have hI : YI v55 ar55 := hI
      refine lv_aload_n hE.1 hE.2.1 dX9_line_49 rfl (lv_at hl 2 rfl) ?_
      refine x_get (x := .int (v55 0 12)) hE hK hP 0 (by decide) (yG_9 rfl) rfl hin9 12 (by decide) mw_1346 rfl dX9_line_50 ?_
      refine x_top (y := iI (x55_1)) ex55_1 ?_
      refine s_if_eq (a := x55_1) (tgt := 57) hE.1 hE.2.1 (by omega) dX9_line_53 (by decide) (fun c56 => ?_) (fun c56 => ?_)
      · skip
        refine lv_iload_n hE.1 hE.2.1 dX9_line_57 rfl (lv_at hl 1 rfl) ?_
        refine s_if_ne (a := z3) (tgt := 65) hE.1 hE.2.1 (by omega) dX9_line_58 (by decide) (fun _ => ?_) (fun c57 => False.elim (by omega))
        refine lv_aload_n hE.1 hE.2.1 dX9_line_65 rfl (lv_at hl 2 rfl) ?_
        refine x_vv (nn := 0) (As := []) (rest := []) hE hK hN hP hS (s_X9_next l D K ad v55 ar55 al55 hI (w_1) (by omega) ((hq55 0 6 (by decide)).trans ew_1) (w_2) (by omega) ((hq55 0 7 (by decide)).trans ew_2)  (by omega)) (x_recv hK hP 0 (by decide) (yG_9 rfl) rfl) rfl mw_1536 mw_1538 mw_50 mw_123 mw_1539 (by decide +kernel) ⟨by decide, by decide⟩ hl.1 rfl (Nat.le_of_ble_eq_true rfl) ⟨Nat.zero_le _, Nat.zero_le _⟩ dX9_line_66 (fun v58 ar58 al58 H locs hq58 hP hS => ?_)
        obtain ⟨hI, hq58, hqa58, hql58, x58_1, x58_2, hx58, ex58_1, ex58_2⟩ := hq58
        have hI : YI v58 ar58 := hI
        refine lv_iload_n hE.1 hE.2.1 dX9_line_69 rfl (lv_at hl 1 rfl) ?_
        refine s_if_eq (a := z3) (tgt := 80) hE.1 hE.2.1 (by omega) dX9_line_70 (by decide) (fun c59 => False.elim (by omega)) (fun _ => ?_)
        refine lv_aload_n hE.1 hE.2.1 dX9_line_73 rfl (lv_at hl 2 rfl) ?_
        refine x_vv (nn := 0) (As := []) (rest := []) hE hK hN hP hS (s_X9_motifLine l D K ad v58 ar58 al58 hI (w_1) (by omega) ((hq58 0 6 (by decide)).trans ((hq55 0 6 (by decide)).trans ew_1)) (x58_1) (by omega) ex58_1 (z52) (by omega) ((congrFun (hqa58 7 (by decide)) 26).trans ((congrFun (hqa55 7 (by decide)) 26).trans ez52)) (w_3) (by omega) ((congrFun (hqa58 7 (by decide)) 24).trans ((congrFun (hqa55 7 (by decide)) 24).trans ew_3))  (by omega)) (x_recv hK hP 0 (by decide) (yG_9 rfl) rfl) rfl mw_1590 mw_1592 mw_61 mw_123 mw_1593 (by decide +kernel) ⟨by decide, by decide⟩ hl.1 rfl (Nat.le_of_ble_eq_true rfl) ⟨Nat.zero_le _, Nat.zero_le _⟩ dX9_line_74 (fun v60 ar60 al60 H locs hq60 hP hS => ?_)
        obtain ⟨hI, hq60, hqa60, hql60, x60_1, hx60, ex60_1⟩ := hq60
        have hI : YI v60 ar60 := hI
        refine lv_goto (tgt := 209) hE.1 hE.2.1 dX9_line_77 (by decide) ?_
        exact kr v60 ar60 al60 _ _ _ _ ⟨hI, fun i j h => ((hq60 i j (fun q => h (mem_sub (by decide) q))).trans ((hq58 i j (fun q => h (mem_sub (by decide) q))).trans (hq55 i j (fun q => h (mem_sub (by decide) q))))), fun i h => ((hqa60 i (fun q => h (mem_subn (by decide) q))).trans ((hqa58 i (fun q => h (mem_subn (by decide) q))).trans (hqa55 i (fun q => h (mem_subn (by decide) q))))), fun i h => ((hql60 i (fun q => h (mem_subn (by decide) q))).trans ((hql58 i (fun q => h (mem_subn (by decide) q))).trans (hql55 i (fun q => h (mem_subn (by decide) q))))), x60_1, by omega, ex60_1⟩ hP hS dX9_line_209
      · skip
        exact kr v55 ar55 al55 _ _ _ _ ⟨hI, fun i j h => (hq55 i j (fun q => h (mem_sub (by decide) q))), fun i h => (hqa55 i (fun q => h (mem_subn (by decide) q))), fun i h => (hql55 i (fun q => h (mem_subn (by decide) q))), w_2, by omega, ((hq55 0 7 (by decide)).trans ew_2)⟩ hP hS dX9_line_56
    · skip
      refine lv_iload_n hE.1 hE.2.1 dX9_line_30 rfl (lv_at hl 0 rfl) ?_
      refine s_if_eq (a := z4) (tgt := 49) hE.1 hE.2.1 (by omega) dX9_line_31 (by decide) (fun c61 => ?_) (fun c61 => ?_)
      · skip
        refine lv_aload_n hE.1 hE.2.1 dX9_line_49 rfl (lv_at hl 2 rfl) ?_
        refine x_get (x := .int (v 0 12)) hE hK hP 0 (by decide) (yG_9 rfl) rfl hin9 12 (by decide) mw_1346 rfl dX9_line_50 ?_
        refine x_top (y := iI (z1)) ez1 ?_
        refine s_if_eq (a := z1) (tgt := 57) hE.1 hE.2.1 (by omega) dX9_line_53 (by decide) (fun c62 => ?_) (fun c62 => ?_)
        · skip
          refine lv_iload_n hE.1 hE.2.1 dX9_line_57 rfl (lv_at hl 1 rfl) ?_
          refine s_if_ne (a := z3) (tgt := 65) hE.1 hE.2.1 (by omega) dX9_line_58 (by decide) (fun _ => ?_) (fun c63 => False.elim (by omega))
          refine lv_aload_n hE.1 hE.2.1 dX9_line_65 rfl (lv_at hl 2 rfl) ?_
          refine x_vv (nn := 0) (As := []) (rest := []) hE hK hN hP hS (s_X9_next l D K ad v ar al hI (w_1) (by omega) ew_1 (w_2) (by omega) ew_2  (by omega)) (x_recv hK hP 0 (by decide) (yG_9 rfl) rfl) rfl mw_1536 mw_1538 mw_50 mw_123 mw_1539 (by decide +kernel) ⟨by decide, by decide⟩ hl.1 rfl (Nat.le_of_ble_eq_true rfl) ⟨Nat.zero_le _, Nat.zero_le _⟩ dX9_line_66 (fun v64 ar64 al64 H locs hq64 hP hS => ?_)
          obtain ⟨hI, hq64, hqa64, hql64, x64_1, x64_2, hx64, ex64_1, ex64_2⟩ := hq64
          have hI : YI v64 ar64 := hI
          refine lv_iload_n hE.1 hE.2.1 dX9_line_69 rfl (lv_at hl 1 rfl) ?_
          refine s_if_eq (a := z3) (tgt := 80) hE.1 hE.2.1 (by omega) dX9_line_70 (by decide) (fun c65 => False.elim (by omega)) (fun _ => ?_)
          refine lv_aload_n hE.1 hE.2.1 dX9_line_73 rfl (lv_at hl 2 rfl) ?_
          refine x_vv (nn := 0) (As := []) (rest := []) hE hK hN hP hS (s_X9_motifLine l D K ad v64 ar64 al64 hI (w_1) (by omega) ((hq64 0 6 (by decide)).trans ew_1) (x64_1) (by omega) ex64_1 (z52) (by omega) ((congrFun (hqa64 7 (by decide)) 26).trans ez52) (w_3) (by omega) ((congrFun (hqa64 7 (by decide)) 24).trans ew_3)  (by omega)) (x_recv hK hP 0 (by decide) (yG_9 rfl) rfl) rfl mw_1590 mw_1592 mw_61 mw_123 mw_1593 (by decide +kernel) ⟨by decide, by decide⟩ hl.1 rfl (Nat.le_of_ble_eq_true rfl) ⟨Nat.zero_le _, Nat.zero_le _⟩ dX9_line_74 (fun v66 ar66 al66 H locs hq66 hP hS => ?_)
          obtain ⟨hI, hq66, hqa66, hql66, x66_1, hx66, ex66_1⟩ := hq66
          have hI : YI v66 ar66 := hI
          refine lv_goto (tgt := 209) hE.1 hE.2.1 dX9_line_77 (by decide) ?_
          exact kr v66 ar66 al66 _ _ _ _ ⟨hI, fun i j h => ((hq66 i j (fun q => h (mem_sub (by decide) q))).trans (hq64 i j (fun q => h (mem_sub (by decide) q)))), fun i h => ((hqa66 i (fun q => h (mem_subn (by decide) q))).trans (hqa64 i (fun q => h (mem_subn (by decide) q)))), fun i h => ((hql66 i (fun q => h (mem_subn (by decide) q))).trans (hql64 i (fun q => h (mem_subn (by decide) q)))), x66_1, by omega, ex66_1⟩ hP hS dX9_line_209
        · skip
          exact kr v ar al _ _ _ _ ⟨hI, fun i j h => rfl, fun i h => rfl, fun i h => rfl, w_2, by omega, ew_2⟩ hP hS dX9_line_56
      · skip
        refine lv_aload_n hE.1 hE.2.1 dX9_line_34 rfl (lv_at hl 2 rfl) ?_
        refine lv_iconst (v := iI (3)) hE.1 hE.2.1 dX9_line_35 (by decide) ?_
        obtain ⟨z67, hz67, ez67⟩ := YI_h3 hI 27 (by decide)
        refine x_vp (nn := 1) (As := [.int (iI (3))]) (rest := []) hE (s_X9_hasRead_c0_3 l D K ad v ar al hI (z67) (by omega) ez67 ) wPre_blind (wPre_now hK hN hP) (x_recv hK hP 0 (by decide) (yG_9 rfl) rfl) rfl mw_1586 mw_1588 mw_60 mw_123 mw_1589 (by decide +kernel) ⟨by decide, by decide⟩ hl.1 rfl (Nat.le_of_ble_eq_true rfl) ⟨Nat.zero_le _, Nat.zero_le _⟩ dX9_line_36 (fun r68 hr68 => ?_)
        obtain ⟨z68, hz68, rfl⟩ := hr68
        refine lv_bipush (v := iI (8)) hE.1 hE.2.1 dX9_line_39 (by decide) ?_
        refine s_icmp_ne (a := z68) (b := 8) (tgt := 49) hE.1 hE.2.1 (by omega) (by omega) dX9_line_41 (by decide) (fun c69 => ?_) (fun c69 => ?_)
        · skip
          refine lv_aload_n hE.1 hE.2.1 dX9_line_49 rfl (lv_at hl 2 rfl) ?_
          refine x_get (x := .int (v 0 12)) hE hK hP 0 (by decide) (yG_9 rfl) rfl hin9 12 (by decide) mw_1346 rfl dX9_line_50 ?_
          refine x_top (y := iI (z1)) ez1 ?_
          refine s_if_eq (a := z1) (tgt := 57) hE.1 hE.2.1 (by omega) dX9_line_53 (by decide) (fun c70 => ?_) (fun c70 => ?_)
          · skip
            refine lv_iload_n hE.1 hE.2.1 dX9_line_57 rfl (lv_at hl 1 rfl) ?_
            refine s_if_ne (a := z3) (tgt := 65) hE.1 hE.2.1 (by omega) dX9_line_58 (by decide) (fun _ => ?_) (fun c71 => False.elim (by omega))
            refine lv_aload_n hE.1 hE.2.1 dX9_line_65 rfl (lv_at hl 2 rfl) ?_
            refine x_vv (nn := 0) (As := []) (rest := []) hE hK hN hP hS (s_X9_next l D K ad v ar al hI (w_1) (by omega) ew_1 (w_2) (by omega) ew_2  (by omega)) (x_recv hK hP 0 (by decide) (yG_9 rfl) rfl) rfl mw_1536 mw_1538 mw_50 mw_123 mw_1539 (by decide +kernel) ⟨by decide, by decide⟩ hl.1 rfl (Nat.le_of_ble_eq_true rfl) ⟨Nat.zero_le _, Nat.zero_le _⟩ dX9_line_66 (fun v72 ar72 al72 H locs hq72 hP hS => ?_)
            obtain ⟨hI, hq72, hqa72, hql72, x72_1, x72_2, hx72, ex72_1, ex72_2⟩ := hq72
            have hI : YI v72 ar72 := hI
            refine lv_iload_n hE.1 hE.2.1 dX9_line_69 rfl (lv_at hl 1 rfl) ?_
            refine s_if_eq (a := z3) (tgt := 80) hE.1 hE.2.1 (by omega) dX9_line_70 (by decide) (fun c73 => False.elim (by omega)) (fun _ => ?_)
            refine lv_aload_n hE.1 hE.2.1 dX9_line_73 rfl (lv_at hl 2 rfl) ?_
            refine x_vv (nn := 0) (As := []) (rest := []) hE hK hN hP hS (s_X9_motifLine l D K ad v72 ar72 al72 hI (w_1) (by omega) ((hq72 0 6 (by decide)).trans ew_1) (x72_1) (by omega) ex72_1 (z52) (by omega) ((congrFun (hqa72 7 (by decide)) 26).trans ez52) (w_3) (by omega) ((congrFun (hqa72 7 (by decide)) 24).trans ew_3)  (by omega)) (x_recv hK hP 0 (by decide) (yG_9 rfl) rfl) rfl mw_1590 mw_1592 mw_61 mw_123 mw_1593 (by decide +kernel) ⟨by decide, by decide⟩ hl.1 rfl (Nat.le_of_ble_eq_true rfl) ⟨Nat.zero_le _, Nat.zero_le _⟩ dX9_line_74 (fun v74 ar74 al74 H locs hq74 hP hS => ?_)
            obtain ⟨hI, hq74, hqa74, hql74, x74_1, hx74, ex74_1⟩ := hq74
            have hI : YI v74 ar74 := hI
            refine lv_goto (tgt := 209) hE.1 hE.2.1 dX9_line_77 (by decide) ?_
            exact kr v74 ar74 al74 _ _ _ _ ⟨hI, fun i j h => ((hq74 i j (fun q => h (mem_sub (by decide) q))).trans (hq72 i j (fun q => h (mem_sub (by decide) q)))), fun i h => ((hqa74 i (fun q => h (mem_subn (by decide) q))).trans (hqa72 i (fun q => h (mem_subn (by decide) q)))), fun i h => ((hql74 i (fun q => h (mem_subn (by decide) q))).trans (hql72 i (fun q => h (mem_subn (by decide) q)))), x74_1, by omega, ex74_1⟩ hP hS dX9_line_209
          · skip
            exact kr v ar al _ _ _ _ ⟨hI, fun i j h => rfl, fun i h => rfl, fun i h => rfl, w_2, by omega, ew_2⟩ hP hS dX9_line_56
        · skip
          refine lv_aload_n hE.1 hE.2.1 dX9_line_44 rfl (lv_at hl 2 rfl) ?_
          refine lv_iconst (v := iI (3)) hE.1 hE.2.1 dX9_line_45 (by decide) ?_
          refine x_vv (nn := 1) (As := [.int (iI (3))]) (rest := []) hE hK hN hP hS (s_X9_fails l D K ad v ar al hI  (3) (by omega)) (x_recv hK hP 0 (by decide) (yG_9 rfl) rfl) rfl mw_1566 mw_1568 mw_56 mw_123 mw_1569 (by decide +kernel) ⟨by decide, by decide⟩ hl.1 rfl (Nat.le_of_ble_eq_true rfl) ⟨Nat.zero_le _, Nat.zero_le _⟩ dX9_line_46 (fun v75 ar75 al75 H locs hq75 hP hS => ?_)
          obtain ⟨hI, hq75, hqa75, hql75, x75_1, hx75, ex75_1⟩ := hq75
          have hI : YI v75 ar75 := hI
          refine lv_aload_n hE.1 hE.2.1 dX9_line_49 rfl (lv_at hl 2 rfl) ?_
          refine x_get (x := .int (v75 0 12)) hE hK hP 0 (by decide) (yG_9 rfl) rfl hin9 12 (by decide) mw_1346 rfl dX9_line_50 ?_
          refine x_top (y := iI (x75_1)) ex75_1 ?_
          refine s_if_eq (a := x75_1) (tgt := 57) hE.1 hE.2.1 (by omega) dX9_line_53 (by decide) (fun c76 => ?_) (fun c76 => ?_)
          · skip
            refine lv_iload_n hE.1 hE.2.1 dX9_line_57 rfl (lv_at hl 1 rfl) ?_
            refine s_if_ne (a := z3) (tgt := 65) hE.1 hE.2.1 (by omega) dX9_line_58 (by decide) (fun _ => ?_) (fun c77 => False.elim (by omega))
            refine lv_aload_n hE.1 hE.2.1 dX9_line_65 rfl (lv_at hl 2 rfl) ?_
            refine x_vv (nn := 0) (As := []) (rest := []) hE hK hN hP hS (s_X9_next l D K ad v75 ar75 al75 hI (w_1) (by omega) ((hq75 0 6 (by decide)).trans ew_1) (w_2) (by omega) ((hq75 0 7 (by decide)).trans ew_2)  (by omega)) (x_recv hK hP 0 (by decide) (yG_9 rfl) rfl) rfl mw_1536 mw_1538 mw_50 mw_123 mw_1539 (by decide +kernel) ⟨by decide, by decide⟩ hl.1 rfl (Nat.le_of_ble_eq_true rfl) ⟨Nat.zero_le _, Nat.zero_le _⟩ dX9_line_66 (fun v78 ar78 al78 H locs hq78 hP hS => ?_)
            obtain ⟨hI, hq78, hqa78, hql78, x78_1, x78_2, hx78, ex78_1, ex78_2⟩ := hq78
            have hI : YI v78 ar78 := hI
            refine lv_iload_n hE.1 hE.2.1 dX9_line_69 rfl (lv_at hl 1 rfl) ?_
            refine s_if_eq (a := z3) (tgt := 80) hE.1 hE.2.1 (by omega) dX9_line_70 (by decide) (fun c79 => False.elim (by omega)) (fun _ => ?_)
            refine lv_aload_n hE.1 hE.2.1 dX9_line_73 rfl (lv_at hl 2 rfl) ?_
            refine x_vv (nn := 0) (As := []) (rest := []) hE hK hN hP hS (s_X9_motifLine l D K ad v78 ar78 al78 hI (w_1) (by omega) ((hq78 0 6 (by decide)).trans ((hq75 0 6 (by decide)).trans ew_1)) (x78_1) (by omega) ex78_1 (z52) (by omega) ((congrFun (hqa78 7 (by decide)) 26).trans ((congrFun (hqa75 7 (by decide)) 26).trans ez52)) (w_3) (by omega) ((congrFun (hqa78 7 (by decide)) 24).trans ((congrFun (hqa75 7 (by decide)) 24).trans ew_3))  (by omega)) (x_recv hK hP 0 (by decide) (yG_9 rfl) rfl) rfl mw_1590 mw_1592 mw_61 mw_123 mw_1593 (by decide +kernel) ⟨by decide, by decide⟩ hl.1 rfl (Nat.le_of_ble_eq_true rfl) ⟨Nat.zero_le _, Nat.zero_le _⟩ dX9_line_74 (fun v80 ar80 al80 H locs hq80 hP hS => ?_)
            obtain ⟨hI, hq80, hqa80, hql80, x80_1, hx80, ex80_1⟩ := hq80
            have hI : YI v80 ar80 := hI
            refine lv_goto (tgt := 209) hE.1 hE.2.1 dX9_line_77 (by decide) ?_
            exact kr v80 ar80 al80 _ _ _ _ ⟨hI, fun i j h => ((hq80 i j (fun q => h (mem_sub (by decide) q))).trans ((hq78 i j (fun q => h (mem_sub (by decide) q))).trans (hq75 i j (fun q => h (mem_sub (by decide) q))))), fun i h => ((hqa80 i (fun q => h (mem_subn (by decide) q))).trans ((hqa78 i (fun q => h (mem_subn (by decide) q))).trans (hqa75 i (fun q => h (mem_subn (by decide) q))))), fun i h => ((hql80 i (fun q => h (mem_subn (by decide) q))).trans ((hql78 i (fun q => h (mem_subn (by decide) q))).trans (hql75 i (fun q => h (mem_subn (by decide) q))))), x80_1, by omega, ex80_1⟩ hP hS dX9_line_209
          · skip
            exact kr v75 ar75 al75 _ _ _ _ ⟨hI, fun i j h => (hq75 i j (fun q => h (mem_sub (by decide) q))), fun i h => (hqa75 i (fun q => h (mem_subn (by decide) q))), fun i h => (hql75 i (fun q => h (mem_subn (by decide) q))), w_2, by omega, ((hq75 0 7 (by decide)).trans ew_2)⟩ hP hS dX9_line_56
