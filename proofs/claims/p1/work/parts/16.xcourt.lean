theorem dX1_copyFrom_0 : decode cX1_copyFrom 0 = .ok (.aload_n 0, 1) := by decide +kernel
theorem dX1_copyFrom_1 : decode cX1_copyFrom 1 = .ok (.aload_n 1, 1) := by decide +kernel
theorem dX1_copyFrom_2 : decode cX1_copyFrom 2 = .ok (.getfield 39, 3) := by decide +kernel
theorem dX1_copyFrom_5 : decode cX1_copyFrom 5 = .ok (.putfield 39, 3) := by decide +kernel
theorem dX1_copyFrom_8 : decode cX1_copyFrom 8 = .ok (.aload_n 0, 1) := by decide +kernel
theorem dX1_copyFrom_9 : decode cX1_copyFrom 9 = .ok (.aload_n 1, 1) := by decide +kernel
theorem dX1_copyFrom_10 : decode cX1_copyFrom 10 = .ok (.getfield 43, 3) := by decide +kernel
theorem dX1_copyFrom_13 : decode cX1_copyFrom 13 = .ok (.putfield 43, 3) := by decide +kernel
theorem dX1_copyFrom_16 : decode cX1_copyFrom 16 = .ok (.aload_n 0, 1) := by decide +kernel
theorem dX1_copyFrom_17 : decode cX1_copyFrom 17 = .ok (.aload_n 1, 1) := by decide +kernel
theorem dX1_copyFrom_18 : decode cX1_copyFrom 18 = .ok (.getfield 46, 3) := by decide +kernel
theorem dX1_copyFrom_21 : decode cX1_copyFrom 21 = .ok (.putfield 46, 3) := by decide +kernel
theorem dX1_copyFrom_24 : decode cX1_copyFrom 24 = .ok (.aload_n 0, 1) := by decide +kernel
theorem dX1_copyFrom_25 : decode cX1_copyFrom 25 = .ok (.aload_n 1, 1) := by decide +kernel
theorem dX1_copyFrom_26 : decode cX1_copyFrom 26 = .ok (.getfield 49, 3) := by decide +kernel
theorem dX1_copyFrom_29 : decode cX1_copyFrom 29 = .ok (.putfield 49, 3) := by decide +kernel
theorem dX1_copyFrom_32 : decode cX1_copyFrom 32 = .ok (.aload_n 0, 1) := by decide +kernel
theorem dX1_copyFrom_33 : decode cX1_copyFrom 33 = .ok (.aload_n 1, 1) := by decide +kernel
theorem dX1_copyFrom_34 : decode cX1_copyFrom 34 = .ok (.getfield 52, 3) := by decide +kernel
theorem dX1_copyFrom_37 : decode cX1_copyFrom 37 = .ok (.putfield 52, 3) := by decide +kernel
theorem dX1_copyFrom_40 : decode cX1_copyFrom 40 = .ok (.aload_n 0, 1) := by decide +kernel
theorem dX1_copyFrom_41 : decode cX1_copyFrom 41 = .ok (.aload_n 1, 1) := by decide +kernel
theorem dX1_copyFrom_42 : decode cX1_copyFrom 42 = .ok (.getfield 55, 3) := by decide +kernel
theorem dX1_copyFrom_45 : decode cX1_copyFrom 45 = .ok (.putfield 55, 3) := by decide +kernel
theorem dX1_copyFrom_48 : decode cX1_copyFrom 48 = .ok (.aload_n 0, 1) := by decide +kernel
theorem dX1_copyFrom_49 : decode cX1_copyFrom 49 = .ok (.aload_n 1, 1) := by decide +kernel
theorem dX1_copyFrom_50 : decode cX1_copyFrom 50 = .ok (.getfield 58, 3) := by decide +kernel
theorem dX1_copyFrom_53 : decode cX1_copyFrom 53 = .ok (.putfield 58, 3) := by decide +kernel
theorem dX1_copyFrom_56 : decode cX1_copyFrom 56 = .ok (.aload_n 0, 1) := by decide +kernel
theorem dX1_copyFrom_57 : decode cX1_copyFrom 57 = .ok (.aload_n 1, 1) := by decide +kernel
theorem dX1_copyFrom_58 : decode cX1_copyFrom 58 = .ok (.getfield 61, 3) := by decide +kernel
theorem dX1_copyFrom_61 : decode cX1_copyFrom 61 = .ok (.putfield 61, 3) := by decide +kernel
theorem dX1_copyFrom_64 : decode cX1_copyFrom 64 = .ok (.aload_n 0, 1) := by decide +kernel
theorem dX1_copyFrom_65 : decode cX1_copyFrom 65 = .ok (.aload_n 1, 1) := by decide +kernel
theorem dX1_copyFrom_66 : decode cX1_copyFrom 66 = .ok (.getfield 64, 3) := by decide +kernel
theorem dX1_copyFrom_69 : decode cX1_copyFrom 69 = .ok (.putfield 64, 3) := by decide +kernel
theorem dX1_copyFrom_72 : decode cX1_copyFrom 72 = .ok (.aload_n 0, 1) := by decide +kernel
theorem dX1_copyFrom_73 : decode cX1_copyFrom 73 = .ok (.aload_n 1, 1) := by decide +kernel
theorem dX1_copyFrom_74 : decode cX1_copyFrom 74 = .ok (.getfield 67, 3) := by decide +kernel
theorem dX1_copyFrom_77 : decode cX1_copyFrom 77 = .ok (.putfield 67, 3) := by decide +kernel
theorem dX1_copyFrom_80 : decode cX1_copyFrom 80 = .ok (.aload_n 0, 1) := by decide +kernel
theorem dX1_copyFrom_81 : decode cX1_copyFrom 81 = .ok (.aload_n 1, 1) := by decide +kernel
theorem dX1_copyFrom_82 : decode cX1_copyFrom 82 = .ok (.getfield 70, 3) := by decide +kernel
theorem dX1_copyFrom_85 : decode cX1_copyFrom 85 = .ok (.putfield 70, 3) := by decide +kernel
theorem dX1_copyFrom_88 : decode cX1_copyFrom 88 = .ok (.aload_n 1, 1) := by decide +kernel
theorem dX1_copyFrom_89 : decode cX1_copyFrom 89 = .ok (.getfield 9, 3) := by decide +kernel
theorem dX1_copyFrom_92 : decode cX1_copyFrom 92 = .ok (.iconst 0, 1) := by decide +kernel
theorem dX1_copyFrom_93 : decode cX1_copyFrom 93 = .ok (.aload_n 0, 1) := by decide +kernel
theorem dX1_copyFrom_94 : decode cX1_copyFrom 94 = .ok (.getfield 9, 3) := by decide +kernel
theorem dX1_copyFrom_97 : decode cX1_copyFrom 97 = .ok (.iconst 0, 1) := by decide +kernel
theorem dX1_copyFrom_98 : decode cX1_copyFrom 98 = .ok (.bipush 9, 2) := by decide +kernel
theorem dX1_copyFrom_100 : decode cX1_copyFrom 100 = .ok (.invokestatic 79, 3) := by decide +kernel
theorem dX1_copyFrom_103 : decode cX1_copyFrom 103 = .ok (.aload_n 1, 1) := by decide +kernel
theorem dX1_copyFrom_104 : decode cX1_copyFrom 104 = .ok (.getfield 15, 3) := by decide +kernel
theorem dX1_copyFrom_107 : decode cX1_copyFrom 107 = .ok (.iconst 0, 1) := by decide +kernel
theorem dX1_copyFrom_108 : decode cX1_copyFrom 108 = .ok (.aload_n 0, 1) := by decide +kernel
theorem dX1_copyFrom_109 : decode cX1_copyFrom 109 = .ok (.getfield 15, 3) := by decide +kernel
theorem dX1_copyFrom_112 : decode cX1_copyFrom 112 = .ok (.iconst 0, 1) := by decide +kernel
theorem dX1_copyFrom_113 : decode cX1_copyFrom 113 = .ok (.bipush 9, 2) := by decide +kernel
theorem dX1_copyFrom_115 : decode cX1_copyFrom 115 = .ok (.invokestatic 79, 3) := by decide +kernel
theorem dX1_copyFrom_118 : decode cX1_copyFrom 118 = .ok (.aload_n 1, 1) := by decide +kernel
theorem dX1_copyFrom_119 : decode cX1_copyFrom 119 = .ok (.getfield 18, 3) := by decide +kernel
theorem dX1_copyFrom_122 : decode cX1_copyFrom 122 = .ok (.iconst 0, 1) := by decide +kernel
theorem dX1_copyFrom_123 : decode cX1_copyFrom 123 = .ok (.aload_n 0, 1) := by decide +kernel
theorem dX1_copyFrom_124 : decode cX1_copyFrom 124 = .ok (.getfield 18, 3) := by decide +kernel
theorem dX1_copyFrom_127 : decode cX1_copyFrom 127 = .ok (.iconst 0, 1) := by decide +kernel
theorem dX1_copyFrom_128 : decode cX1_copyFrom 128 = .ok (.bipush 9, 2) := by decide +kernel
theorem dX1_copyFrom_130 : decode cX1_copyFrom 130 = .ok (.invokestatic 79, 3) := by decide +kernel
theorem dX1_copyFrom_133 : decode cX1_copyFrom 133 = .ok (.aload_n 1, 1) := by decide +kernel
theorem dX1_copyFrom_134 : decode cX1_copyFrom 134 = .ok (.getfield 21, 3) := by decide +kernel
theorem dX1_copyFrom_137 : decode cX1_copyFrom 137 = .ok (.iconst 0, 1) := by decide +kernel
theorem dX1_copyFrom_138 : decode cX1_copyFrom 138 = .ok (.aload_n 0, 1) := by decide +kernel
theorem dX1_copyFrom_139 : decode cX1_copyFrom 139 = .ok (.getfield 21, 3) := by decide +kernel
theorem dX1_copyFrom_142 : decode cX1_copyFrom 142 = .ok (.iconst 0, 1) := by decide +kernel
theorem dX1_copyFrom_143 : decode cX1_copyFrom 143 = .ok (.bipush 9, 2) := by decide +kernel
theorem dX1_copyFrom_145 : decode cX1_copyFrom 145 = .ok (.invokestatic 79, 3) := by decide +kernel
theorem dX1_copyFrom_148 : decode cX1_copyFrom 148 = .ok (.aload_n 1, 1) := by decide +kernel
theorem dX1_copyFrom_149 : decode cX1_copyFrom 149 = .ok (.getfield 24, 3) := by decide +kernel
theorem dX1_copyFrom_152 : decode cX1_copyFrom 152 = .ok (.iconst 0, 1) := by decide +kernel
theorem dX1_copyFrom_153 : decode cX1_copyFrom 153 = .ok (.aload_n 0, 1) := by decide +kernel
theorem dX1_copyFrom_154 : decode cX1_copyFrom 154 = .ok (.getfield 24, 3) := by decide +kernel
theorem dX1_copyFrom_157 : decode cX1_copyFrom 157 = .ok (.iconst 0, 1) := by decide +kernel
theorem dX1_copyFrom_158 : decode cX1_copyFrom 158 = .ok (.bipush 9, 2) := by decide +kernel
theorem dX1_copyFrom_160 : decode cX1_copyFrom 160 = .ok (.invokestatic 79, 3) := by decide +kernel
theorem dX1_copyFrom_163 : decode cX1_copyFrom 163 = .ok (.aload_n 1, 1) := by decide +kernel
theorem dX1_copyFrom_164 : decode cX1_copyFrom 164 = .ok (.getfield 27, 3) := by decide +kernel
theorem dX1_copyFrom_167 : decode cX1_copyFrom 167 = .ok (.iconst 0, 1) := by decide +kernel
theorem dX1_copyFrom_168 : decode cX1_copyFrom 168 = .ok (.aload_n 0, 1) := by decide +kernel
theorem dX1_copyFrom_169 : decode cX1_copyFrom 169 = .ok (.getfield 27, 3) := by decide +kernel
theorem dX1_copyFrom_172 : decode cX1_copyFrom 172 = .ok (.iconst 0, 1) := by decide +kernel
theorem dX1_copyFrom_173 : decode cX1_copyFrom 173 = .ok (.bipush 9, 2) := by decide +kernel
theorem dX1_copyFrom_175 : decode cX1_copyFrom 175 = .ok (.invokestatic 79, 3) := by decide +kernel
theorem dX1_copyFrom_178 : decode cX1_copyFrom 178 = .ok (.aload_n 1, 1) := by decide +kernel
theorem dX1_copyFrom_179 : decode cX1_copyFrom 179 = .ok (.getfield 30, 3) := by decide +kernel
theorem dX1_copyFrom_182 : decode cX1_copyFrom 182 = .ok (.iconst 0, 1) := by decide +kernel
theorem dX1_copyFrom_183 : decode cX1_copyFrom 183 = .ok (.aload_n 0, 1) := by decide +kernel
theorem dX1_copyFrom_184 : decode cX1_copyFrom 184 = .ok (.getfield 30, 3) := by decide +kernel
theorem dX1_copyFrom_187 : decode cX1_copyFrom 187 = .ok (.iconst 0, 1) := by decide +kernel
theorem dX1_copyFrom_188 : decode cX1_copyFrom 188 = .ok (.iconst 3, 1) := by decide +kernel
theorem dX1_copyFrom_189 : decode cX1_copyFrom 189 = .ok (.invokestatic 79, 3) := by decide +kernel
theorem dX1_copyFrom_192 : decode cX1_copyFrom 192 = .ok (.aload_n 1, 1) := by decide +kernel
theorem dX1_copyFrom_193 : decode cX1_copyFrom 193 = .ok (.getfield 33, 3) := by decide +kernel
theorem dX1_copyFrom_196 : decode cX1_copyFrom 196 = .ok (.iconst 0, 1) := by decide +kernel
theorem dX1_copyFrom_197 : decode cX1_copyFrom 197 = .ok (.aload_n 0, 1) := by decide +kernel
theorem dX1_copyFrom_198 : decode cX1_copyFrom 198 = .ok (.getfield 33, 3) := by decide +kernel
theorem dX1_copyFrom_201 : decode cX1_copyFrom 201 = .ok (.iconst 0, 1) := by decide +kernel
theorem dX1_copyFrom_202 : decode cX1_copyFrom 202 = .ok (.bipush 8, 2) := by decide +kernel
theorem dX1_copyFrom_204 : decode cX1_copyFrom 204 = .ok (.invokestatic 79, 3) := by decide +kernel
theorem dX1_copyFrom_207 : decode cX1_copyFrom 207 = .ok (.aload_n 1, 1) := by decide +kernel
theorem dX1_copyFrom_208 : decode cX1_copyFrom 208 = .ok (.getfield 36, 3) := by decide +kernel
theorem dX1_copyFrom_211 : decode cX1_copyFrom 211 = .ok (.iconst 0, 1) := by decide +kernel
theorem dX1_copyFrom_212 : decode cX1_copyFrom 212 = .ok (.aload_n 0, 1) := by decide +kernel
theorem dX1_copyFrom_213 : decode cX1_copyFrom 213 = .ok (.getfield 36, 3) := by decide +kernel
theorem dX1_copyFrom_216 : decode cX1_copyFrom 216 = .ok (.iconst 0, 1) := by decide +kernel
theorem dX1_copyFrom_217 : decode cX1_copyFrom 217 = .ok (.bipush 8, 2) := by decide +kernel
theorem dX1_copyFrom_219 : decode cX1_copyFrom 219 = .ok (.invokestatic 79, 3) := by decide +kernel
theorem dX1_copyFrom_222 : decode cX1_copyFrom 222 = .ok (.return_, 1) := by decide +kernel
set_option maxHeartbeats 4000000 in
set_option maxRecDepth 100000 in
theorem k_X1_copyFrom_3_13 (l : Launch) (D : va_G) (K : Nat → ClassId) (ad : Nat → Nat) (mm : Option Nat) (v ar : sI) (al : sL) (h_13_4 : v 13 4 = 0) : Met l yX1_copyFrom (wM yX1_copyFrom cX1_copyFrom 2 none) (rmD 1) (va_Pc [.ref (ad 3), .ref (ad 13)] (wPre D K ad (xG ad K mm) 132 v ar al)) (va_Qv (fun u : sT => (∀ i j : Nat, (i, j) ∉ ([(3, 0), (3, 1), (3, 2), (3, 3), (3, 4), (3, 5), (3, 6), (3, 7), (3, 8), (3, 9), (3, 10)] : List (Nat × Nat)) → u.1 i j = v i j) ∧ u.1 3 4 = 0) (wB D ad (xG ad K mm) 132) (inW ad 132)) 0 0 (inW ad 132) := by
  refine x_met (by decide) (Nat.le_of_ble_eq_true rfl) ?_
  intro p e s m below meth c ls hE hr hlo hnm hB hl
  have hE : CallFix p m c cX1_copyFrom 2 s _ tbG "TaleCourt$Court" := hE
  obtain ⟨hP, hK, hN⟩ := hB
  have hS : va_S (inW ad 132) s.heap s.heap [] := va_S.rf
  have hl : lv_has ls 2 [(0, .ref (ad 3)), (1, .ref (ad 13))] := hl
  refine lv_aload_n hE.1 hE.2.1 dX1_copyFrom_0 rfl (lv_at hl 0 rfl) ?_
  refine lv_aload_n hE.1 hE.2.1 dX1_copyFrom_1 rfl (lv_at hl 1 rfl) ?_
  refine x_get (x := .int (v 13 0)) hE hK hP 13 (by decide) (xG_1 rfl) rfl hin1 0 (by decide) mw_178 rfl dX1_copyFrom_2 ?_
  refine x_put hE hK hN hP hS 3 (by decide) (xG_1 rfl) rfl hin1 tyX1 tyX1_ok nmX1 0 (by decide) mw_178 rfl rfl rfl (Nat.le_of_ble_eq_true rfl) (xG_1 rfl) dX1_copyFrom_5 (fun v_1 H locs hv_1 hP hS => ?_)
  refine lv_aload_n hE.1 hE.2.1 dX1_copyFrom_8 rfl (lv_at hl 0 rfl) ?_
  refine lv_aload_n hE.1 hE.2.1 dX1_copyFrom_9 rfl (lv_at hl 1 rfl) ?_
  refine x_get (x := .int (v_1 13 1)) hE hK hP 13 (by decide) (xG_1 rfl) rfl hin1 1 (by decide) mw_182 rfl dX1_copyFrom_10 ?_
  refine x_top (y := (v 13 1)) ((up_oth hv_1 (by decide)).trans rfl) ?_
  refine x_put hE hK hN hP hS 3 (by decide) (xG_1 rfl) rfl hin1 tyX1 tyX1_ok nmX1 1 (by decide) mw_182 rfl rfl rfl (Nat.le_of_ble_eq_true rfl) (xG_1 rfl) dX1_copyFrom_13 (fun v_2 H locs hv_2 hP hS => ?_)
  refine lv_aload_n hE.1 hE.2.1 dX1_copyFrom_16 rfl (lv_at hl 0 rfl) ?_
  refine lv_aload_n hE.1 hE.2.1 dX1_copyFrom_17 rfl (lv_at hl 1 rfl) ?_
  refine x_get (x := .int (v_2 13 2)) hE hK hP 13 (by decide) (xG_1 rfl) rfl hin1 2 (by decide) mw_187 rfl dX1_copyFrom_18 ?_
  refine x_top (y := (v 13 2)) ((up_oth hv_2 (by decide)).trans ((up_oth hv_1 (by decide)).trans rfl)) ?_
  refine x_put hE hK hN hP hS 3 (by decide) (xG_1 rfl) rfl hin1 tyX1 tyX1_ok nmX1 2 (by decide) mw_187 rfl rfl rfl (Nat.le_of_ble_eq_true rfl) (xG_1 rfl) dX1_copyFrom_21 (fun v_3 H locs hv_3 hP hS => ?_)
  refine lv_aload_n hE.1 hE.2.1 dX1_copyFrom_24 rfl (lv_at hl 0 rfl) ?_
  refine lv_aload_n hE.1 hE.2.1 dX1_copyFrom_25 rfl (lv_at hl 1 rfl) ?_
  refine x_get (x := .int (v_3 13 3)) hE hK hP 13 (by decide) (xG_1 rfl) rfl hin1 3 (by decide) mw_190 rfl dX1_copyFrom_26 ?_
  refine x_top (y := (v 13 3)) ((up_oth hv_3 (by decide)).trans ((up_oth hv_2 (by decide)).trans ((up_oth hv_1 (by decide)).trans rfl))) ?_
  refine x_put hE hK hN hP hS 3 (by decide) (xG_1 rfl) rfl hin1 tyX1 tyX1_ok nmX1 3 (by decide) mw_190 rfl rfl rfl (Nat.le_of_ble_eq_true rfl) (xG_1 rfl) dX1_copyFrom_29 (fun v_4 H locs hv_4 hP hS => ?_)
  refine lv_aload_n hE.1 hE.2.1 dX1_copyFrom_32 rfl (lv_at hl 0 rfl) ?_
  refine lv_aload_n hE.1 hE.2.1 dX1_copyFrom_33 rfl (lv_at hl 1 rfl) ?_
  refine x_get (x := .int (v_4 13 4)) hE hK hP 13 (by decide) (xG_1 rfl) rfl hin1 4 (by decide) mw_194 rfl dX1_copyFrom_34 ?_
  refine x_top (y := 0) ((up_oth hv_4 (by decide)).trans ((up_oth hv_3 (by decide)).trans ((up_oth hv_2 (by decide)).trans ((up_oth hv_1 (by decide)).trans h_13_4)))) ?_
  refine x_put hE hK hN hP hS 3 (by decide) (xG_1 rfl) rfl hin1 tyX1 tyX1_ok nmX1 4 (by decide) mw_194 rfl rfl rfl (Nat.le_of_ble_eq_true rfl) (xG_1 rfl) dX1_copyFrom_37 (fun v_5 H locs hv_5 hP hS => ?_)
  refine lv_aload_n hE.1 hE.2.1 dX1_copyFrom_40 rfl (lv_at hl 0 rfl) ?_
  refine lv_aload_n hE.1 hE.2.1 dX1_copyFrom_41 rfl (lv_at hl 1 rfl) ?_
  refine x_get (x := .int (v_5 13 5)) hE hK hP 13 (by decide) (xG_1 rfl) rfl hin1 5 (by decide) mw_197 rfl dX1_copyFrom_42 ?_
  refine x_top (y := (v 13 5)) ((up_oth hv_5 (by decide)).trans ((up_oth hv_4 (by decide)).trans ((up_oth hv_3 (by decide)).trans ((up_oth hv_2 (by decide)).trans ((up_oth hv_1 (by decide)).trans rfl))))) ?_
  refine x_put hE hK hN hP hS 3 (by decide) (xG_1 rfl) rfl hin1 tyX1 tyX1_ok nmX1 5 (by decide) mw_197 rfl rfl rfl (Nat.le_of_ble_eq_true rfl) (xG_1 rfl) dX1_copyFrom_45 (fun v_6 H locs hv_6 hP hS => ?_)
  refine lv_aload_n hE.1 hE.2.1 dX1_copyFrom_48 rfl (lv_at hl 0 rfl) ?_
  refine lv_aload_n hE.1 hE.2.1 dX1_copyFrom_49 rfl (lv_at hl 1 rfl) ?_
  refine x_get (x := .int (v_6 13 6)) hE hK hP 13 (by decide) (xG_1 rfl) rfl hin1 6 (by decide) mw_200 rfl dX1_copyFrom_50 ?_
  refine x_top (y := (v 13 6)) ((up_oth hv_6 (by decide)).trans ((up_oth hv_5 (by decide)).trans ((up_oth hv_4 (by decide)).trans ((up_oth hv_3 (by decide)).trans ((up_oth hv_2 (by decide)).trans ((up_oth hv_1 (by decide)).trans rfl)))))) ?_
  refine x_put hE hK hN hP hS 3 (by decide) (xG_1 rfl) rfl hin1 tyX1 tyX1_ok nmX1 6 (by decide) mw_200 rfl rfl rfl (Nat.le_of_ble_eq_true rfl) (xG_1 rfl) dX1_copyFrom_53 (fun v_7 H locs hv_7 hP hS => ?_)
  refine lv_aload_n hE.1 hE.2.1 dX1_copyFrom_56 rfl (lv_at hl 0 rfl) ?_
  refine lv_aload_n hE.1 hE.2.1 dX1_copyFrom_57 rfl (lv_at hl 1 rfl) ?_
  refine x_get (x := .int (v_7 13 7)) hE hK hP 13 (by decide) (xG_1 rfl) rfl hin1 7 (by decide) mw_203 rfl dX1_copyFrom_58 ?_
  refine x_top (y := (v 13 7)) ((up_oth hv_7 (by decide)).trans ((up_oth hv_6 (by decide)).trans ((up_oth hv_5 (by decide)).trans ((up_oth hv_4 (by decide)).trans ((up_oth hv_3 (by decide)).trans ((up_oth hv_2 (by decide)).trans ((up_oth hv_1 (by decide)).trans rfl))))))) ?_
  refine x_put hE hK hN hP hS 3 (by decide) (xG_1 rfl) rfl hin1 tyX1 tyX1_ok nmX1 7 (by decide) mw_203 rfl rfl rfl (Nat.le_of_ble_eq_true rfl) (xG_1 rfl) dX1_copyFrom_61 (fun v_8 H locs hv_8 hP hS => ?_)
  refine lv_aload_n hE.1 hE.2.1 dX1_copyFrom_64 rfl (lv_at hl 0 rfl) ?_
  refine lv_aload_n hE.1 hE.2.1 dX1_copyFrom_65 rfl (lv_at hl 1 rfl) ?_
  refine x_get (x := .int (v_8 13 8)) hE hK hP 13 (by decide) (xG_1 rfl) rfl hin1 8 (by decide) mw_207 rfl dX1_copyFrom_66 ?_
  refine x_top (y := (v 13 8)) ((up_oth hv_8 (by decide)).trans ((up_oth hv_7 (by decide)).trans ((up_oth hv_6 (by decide)).trans ((up_oth hv_5 (by decide)).trans ((up_oth hv_4 (by decide)).trans ((up_oth hv_3 (by decide)).trans ((up_oth hv_2 (by decide)).trans ((up_oth hv_1 (by decide)).trans rfl)))))))) ?_
  refine x_put hE hK hN hP hS 3 (by decide) (xG_1 rfl) rfl hin1 tyX1 tyX1_ok nmX1 8 (by decide) mw_207 rfl rfl rfl (Nat.le_of_ble_eq_true rfl) (xG_1 rfl) dX1_copyFrom_69 (fun v_9 H locs hv_9 hP hS => ?_)
  refine lv_aload_n hE.1 hE.2.1 dX1_copyFrom_72 rfl (lv_at hl 0 rfl) ?_
  refine lv_aload_n hE.1 hE.2.1 dX1_copyFrom_73 rfl (lv_at hl 1 rfl) ?_
  refine x_get (x := .int (v_9 13 9)) hE hK hP 13 (by decide) (xG_1 rfl) rfl hin1 9 (by decide) mw_211 rfl dX1_copyFrom_74 ?_
  refine x_top (y := (v 13 9)) ((up_oth hv_9 (by decide)).trans ((up_oth hv_8 (by decide)).trans ((up_oth hv_7 (by decide)).trans ((up_oth hv_6 (by decide)).trans ((up_oth hv_5 (by decide)).trans ((up_oth hv_4 (by decide)).trans ((up_oth hv_3 (by decide)).trans ((up_oth hv_2 (by decide)).trans ((up_oth hv_1 (by decide)).trans rfl))))))))) ?_
  refine x_put hE hK hN hP hS 3 (by decide) (xG_1 rfl) rfl hin1 tyX1 tyX1_ok nmX1 9 (by decide) mw_211 rfl rfl rfl (Nat.le_of_ble_eq_true rfl) (xG_1 rfl) dX1_copyFrom_77 (fun v_10 H locs hv_10 hP hS => ?_)
  refine lv_aload_n hE.1 hE.2.1 dX1_copyFrom_80 rfl (lv_at hl 0 rfl) ?_
  refine lv_aload_n hE.1 hE.2.1 dX1_copyFrom_81 rfl (lv_at hl 1 rfl) ?_
  refine x_get (x := .int (v_10 13 10)) hE hK hP 13 (by decide) (xG_1 rfl) rfl hin1 10 (by decide) mw_214 rfl dX1_copyFrom_82 ?_
  refine x_top (y := (v 13 10)) ((up_oth hv_10 (by decide)).trans ((up_oth hv_9 (by decide)).trans ((up_oth hv_8 (by decide)).trans ((up_oth hv_7 (by decide)).trans ((up_oth hv_6 (by decide)).trans ((up_oth hv_5 (by decide)).trans ((up_oth hv_4 (by decide)).trans ((up_oth hv_3 (by decide)).trans ((up_oth hv_2 (by decide)).trans ((up_oth hv_1 (by decide)).trans rfl)))))))))) ?_
  refine x_put hE hK hN hP hS 3 (by decide) (xG_1 rfl) rfl hin1 tyX1 tyX1_ok nmX1 10 (by decide) mw_214 rfl rfl rfl (Nat.le_of_ble_eq_true rfl) (xG_1 rfl) dX1_copyFrom_85 (fun v_11 H locs hv_11 hP hS => ?_)
  refine lv_aload_n hE.1 hE.2.1 dX1_copyFrom_88 rfl (lv_at hl 1 rfl) ?_
  refine x_get (x := .ref (ad 14)) hE hK hP 13 (by decide) (xG_1 rfl) rfl hin1 11 (by decide) mw_218 rfl dX1_copyFrom_89 ?_
  refine lv_iconst (v := 0) hE.1 hE.2.1 dX1_copyFrom_92 (by decide) ?_
  refine lv_aload_n hE.1 hE.2.1 dX1_copyFrom_93 rfl (lv_at hl 0 rfl) ?_
  refine x_get (x := .ref (ad 4)) hE hK hP 3 (by decide) (xG_1 rfl) rfl hin1 11 (by decide) mw_218 rfl dX1_copyFrom_94 ?_
  refine lv_iconst (v := 0) hE.1 hE.2.1 dX1_copyFrom_97 (by decide) ?_
  refine lv_bipush (v := 9) hE.1 hE.2.1 dX1_copyFrom_98 (by decide) ?_
  refine x_copyi (rest := []) (sp := 0) (dp := 0) (n := 9) hE hl.1 hK hN hP hS mw_678 mw_680 mw_679 mw_130 14 4 (by decide) (by decide) (xG_10 rfl) (fun _ => xG_10 rfl) (by decide) (by decide) (by decide) (by decide) (by decide) (by decide) (by decide) dX1_copyFrom_100 (fun ar_12 H locs har_12 hP hS => ?_)
  refine lv_aload_n hE.1 hE.2.1 dX1_copyFrom_103 rfl (lv_at hl 1 rfl) ?_
  refine x_get (x := .ref (ad 15)) hE hK hP 13 (by decide) (xG_1 rfl) rfl hin1 12 (by decide) mw_221 rfl dX1_copyFrom_104 ?_
  refine lv_iconst (v := 0) hE.1 hE.2.1 dX1_copyFrom_107 (by decide) ?_
  refine lv_aload_n hE.1 hE.2.1 dX1_copyFrom_108 rfl (lv_at hl 0 rfl) ?_
  refine x_get (x := .ref (ad 5)) hE hK hP 3 (by decide) (xG_1 rfl) rfl hin1 12 (by decide) mw_221 rfl dX1_copyFrom_109 ?_
  refine lv_iconst (v := 0) hE.1 hE.2.1 dX1_copyFrom_112 (by decide) ?_
  refine lv_bipush (v := 9) hE.1 hE.2.1 dX1_copyFrom_113 (by decide) ?_
  refine x_copyi (rest := []) (sp := 0) (dp := 0) (n := 9) hE hl.1 hK hN hP hS mw_678 mw_680 mw_679 mw_130 15 5 (by decide) (by decide) (xG_10 rfl) (fun _ => xG_10 rfl) (by decide) (by decide) (by decide) (by decide) (by decide) (by decide) (by decide) dX1_copyFrom_115 (fun ar_13 H locs har_13 hP hS => ?_)
  refine lv_aload_n hE.1 hE.2.1 dX1_copyFrom_118 rfl (lv_at hl 1 rfl) ?_
  refine x_get (x := .ref (ad 16)) hE hK hP 13 (by decide) (xG_1 rfl) rfl hin1 13 (by decide) mw_225 rfl dX1_copyFrom_119 ?_
  refine lv_iconst (v := 0) hE.1 hE.2.1 dX1_copyFrom_122 (by decide) ?_
  refine lv_aload_n hE.1 hE.2.1 dX1_copyFrom_123 rfl (lv_at hl 0 rfl) ?_
  refine x_get (x := .ref (ad 6)) hE hK hP 3 (by decide) (xG_1 rfl) rfl hin1 13 (by decide) mw_225 rfl dX1_copyFrom_124 ?_
  refine lv_iconst (v := 0) hE.1 hE.2.1 dX1_copyFrom_127 (by decide) ?_
  refine lv_bipush (v := 9) hE.1 hE.2.1 dX1_copyFrom_128 (by decide) ?_
  refine x_copyi (rest := []) (sp := 0) (dp := 0) (n := 9) hE hl.1 hK hN hP hS mw_678 mw_680 mw_679 mw_130 16 6 (by decide) (by decide) (xG_10 rfl) (fun _ => xG_10 rfl) (by decide) (by decide) (by decide) (by decide) (by decide) (by decide) (by decide) dX1_copyFrom_130 (fun ar_14 H locs har_14 hP hS => ?_)
  refine lv_aload_n hE.1 hE.2.1 dX1_copyFrom_133 rfl (lv_at hl 1 rfl) ?_
  refine x_get (x := .ref (ad 17)) hE hK hP 13 (by decide) (xG_1 rfl) rfl hin1 14 (by decide) mw_229 rfl dX1_copyFrom_134 ?_
  refine lv_iconst (v := 0) hE.1 hE.2.1 dX1_copyFrom_137 (by decide) ?_
  refine lv_aload_n hE.1 hE.2.1 dX1_copyFrom_138 rfl (lv_at hl 0 rfl) ?_
  refine x_get (x := .ref (ad 7)) hE hK hP 3 (by decide) (xG_1 rfl) rfl hin1 14 (by decide) mw_229 rfl dX1_copyFrom_139 ?_
  refine lv_iconst (v := 0) hE.1 hE.2.1 dX1_copyFrom_142 (by decide) ?_
  refine lv_bipush (v := 9) hE.1 hE.2.1 dX1_copyFrom_143 (by decide) ?_
  refine x_copyi (rest := []) (sp := 0) (dp := 0) (n := 9) hE hl.1 hK hN hP hS mw_678 mw_680 mw_679 mw_130 17 7 (by decide) (by decide) (xG_10 rfl) (fun _ => xG_10 rfl) (by decide) (by decide) (by decide) (by decide) (by decide) (by decide) (by decide) dX1_copyFrom_145 (fun ar_15 H locs har_15 hP hS => ?_)
  refine lv_aload_n hE.1 hE.2.1 dX1_copyFrom_148 rfl (lv_at hl 1 rfl) ?_
  refine x_get (x := .ref (ad 18)) hE hK hP 13 (by decide) (xG_1 rfl) rfl hin1 15 (by decide) mw_231 rfl dX1_copyFrom_149 ?_
  refine lv_iconst (v := 0) hE.1 hE.2.1 dX1_copyFrom_152 (by decide) ?_
  refine lv_aload_n hE.1 hE.2.1 dX1_copyFrom_153 rfl (lv_at hl 0 rfl) ?_
  refine x_get (x := .ref (ad 8)) hE hK hP 3 (by decide) (xG_1 rfl) rfl hin1 15 (by decide) mw_231 rfl dX1_copyFrom_154 ?_
  refine lv_iconst (v := 0) hE.1 hE.2.1 dX1_copyFrom_157 (by decide) ?_
  refine lv_bipush (v := 9) hE.1 hE.2.1 dX1_copyFrom_158 (by decide) ?_
  refine x_copyi (rest := []) (sp := 0) (dp := 0) (n := 9) hE hl.1 hK hN hP hS mw_678 mw_680 mw_679 mw_130 18 8 (by decide) (by decide) (xG_10 rfl) (fun _ => xG_10 rfl) (by decide) (by decide) (by decide) (by decide) (by decide) (by decide) (by decide) dX1_copyFrom_160 (fun ar_16 H locs har_16 hP hS => ?_)
  refine lv_aload_n hE.1 hE.2.1 dX1_copyFrom_163 rfl (lv_at hl 1 rfl) ?_
  refine x_get (x := .ref (ad 19)) hE hK hP 13 (by decide) (xG_1 rfl) rfl hin1 16 (by decide) mw_235 rfl dX1_copyFrom_164 ?_
  refine lv_iconst (v := 0) hE.1 hE.2.1 dX1_copyFrom_167 (by decide) ?_
  refine lv_aload_n hE.1 hE.2.1 dX1_copyFrom_168 rfl (lv_at hl 0 rfl) ?_
  refine x_get (x := .ref (ad 9)) hE hK hP 3 (by decide) (xG_1 rfl) rfl hin1 16 (by decide) mw_235 rfl dX1_copyFrom_169 ?_
  refine lv_iconst (v := 0) hE.1 hE.2.1 dX1_copyFrom_172 (by decide) ?_
  refine lv_bipush (v := 9) hE.1 hE.2.1 dX1_copyFrom_173 (by decide) ?_
  refine x_copyi (rest := []) (sp := 0) (dp := 0) (n := 9) hE hl.1 hK hN hP hS mw_678 mw_680 mw_679 mw_130 19 9 (by decide) (by decide) (xG_10 rfl) (fun _ => xG_10 rfl) (by decide) (by decide) (by decide) (by decide) (by decide) (by decide) (by decide) dX1_copyFrom_175 (fun ar_17 H locs har_17 hP hS => ?_)
  refine lv_aload_n hE.1 hE.2.1 dX1_copyFrom_178 rfl (lv_at hl 1 rfl) ?_
  refine x_get (x := .ref (ad 20)) hE hK hP 13 (by decide) (xG_1 rfl) rfl hin1 17 (by decide) mw_239 rfl dX1_copyFrom_179 ?_
  refine lv_iconst (v := 0) hE.1 hE.2.1 dX1_copyFrom_182 (by decide) ?_
  refine lv_aload_n hE.1 hE.2.1 dX1_copyFrom_183 rfl (lv_at hl 0 rfl) ?_
  refine x_get (x := .ref (ad 10)) hE hK hP 3 (by decide) (xG_1 rfl) rfl hin1 17 (by decide) mw_239 rfl dX1_copyFrom_184 ?_
  refine lv_iconst (v := 0) hE.1 hE.2.1 dX1_copyFrom_187 (by decide) ?_
  refine lv_iconst (v := 3) hE.1 hE.2.1 dX1_copyFrom_188 (by decide) ?_
  refine x_copyi (rest := []) (sp := 0) (dp := 0) (n := 3) hE hl.1 hK hN hP hS mw_678 mw_680 mw_679 mw_130 20 10 (by decide) (by decide) (xG_10 rfl) (fun _ => xG_10 rfl) (by decide) (by decide) (by decide) (by decide) (by decide) (by decide) (by decide) dX1_copyFrom_189 (fun ar_18 H locs har_18 hP hS => ?_)
  refine lv_aload_n hE.1 hE.2.1 dX1_copyFrom_192 rfl (lv_at hl 1 rfl) ?_
  refine x_get (x := .ref (ad 21)) hE hK hP 13 (by decide) (xG_1 rfl) rfl hin1 18 (by decide) mw_241 rfl dX1_copyFrom_193 ?_
  refine lv_iconst (v := 0) hE.1 hE.2.1 dX1_copyFrom_196 (by decide) ?_
  refine lv_aload_n hE.1 hE.2.1 dX1_copyFrom_197 rfl (lv_at hl 0 rfl) ?_
  refine x_get (x := .ref (ad 11)) hE hK hP 3 (by decide) (xG_1 rfl) rfl hin1 18 (by decide) mw_241 rfl dX1_copyFrom_198 ?_
  refine lv_iconst (v := 0) hE.1 hE.2.1 dX1_copyFrom_201 (by decide) ?_
  refine lv_bipush (v := 8) hE.1 hE.2.1 dX1_copyFrom_202 (by decide) ?_
  refine x_copyi (rest := []) (sp := 0) (dp := 0) (n := 8) hE hl.1 hK hN hP hS mw_678 mw_680 mw_679 mw_130 21 11 (by decide) (by decide) (xG_10 rfl) (fun _ => xG_10 rfl) (by decide) (by decide) (by decide) (by decide) (by decide) (by decide) (by decide) dX1_copyFrom_204 (fun ar_19 H locs har_19 hP hS => ?_)
  refine lv_aload_n hE.1 hE.2.1 dX1_copyFrom_207 rfl (lv_at hl 1 rfl) ?_
  refine x_get (x := .ref (ad 22)) hE hK hP 13 (by decide) (xG_1 rfl) rfl hin1 19 (by decide) mw_244 rfl dX1_copyFrom_208 ?_
  refine lv_iconst (v := 0) hE.1 hE.2.1 dX1_copyFrom_211 (by decide) ?_
  refine lv_aload_n hE.1 hE.2.1 dX1_copyFrom_212 rfl (lv_at hl 0 rfl) ?_
  refine x_get (x := .ref (ad 12)) hE hK hP 3 (by decide) (xG_1 rfl) rfl hin1 19 (by decide) mw_244 rfl dX1_copyFrom_213 ?_
  refine lv_iconst (v := 0) hE.1 hE.2.1 dX1_copyFrom_216 (by decide) ?_
  refine lv_bipush (v := 8) hE.1 hE.2.1 dX1_copyFrom_217 (by decide) ?_
  refine x_copyi (rest := []) (sp := 0) (dp := 0) (n := 8) hE hl.1 hK hN hP hS mw_678 mw_680 mw_679 mw_130 22 12 (by decide) (by decide) (xG_10 rfl) (fun _ => xG_10 rfl) (by decide) (by decide) (by decide) (by decide) (by decide) (by decide) (by decide) dX1_copyFrom_219 (fun ar_20 H locs har_20 hP hS => ?_)
  exact x_wv hE hr hlo hP hS ⟨fun i j h => ((up_oth hv_11 (fun q => h (by rcases q with ⟨rfl, rfl⟩; decide))).trans ((up_oth hv_10 (fun q => h (by rcases q with ⟨rfl, rfl⟩; decide))).trans ((up_oth hv_9 (fun q => h (by rcases q with ⟨rfl, rfl⟩; decide))).trans ((up_oth hv_8 (fun q => h (by rcases q with ⟨rfl, rfl⟩; decide))).trans ((up_oth hv_7 (fun q => h (by rcases q with ⟨rfl, rfl⟩; decide))).trans ((up_oth hv_6 (fun q => h (by rcases q with ⟨rfl, rfl⟩; decide))).trans ((up_oth hv_5 (fun q => h (by rcases q with ⟨rfl, rfl⟩; decide))).trans ((up_oth hv_4 (fun q => h (by rcases q with ⟨rfl, rfl⟩; decide))).trans ((up_oth hv_3 (fun q => h (by rcases q with ⟨rfl, rfl⟩; decide))).trans ((up_oth hv_2 (fun q => h (by rcases q with ⟨rfl, rfl⟩; decide))).trans (up_oth hv_1 (fun q => h (by rcases q with ⟨rfl, rfl⟩; decide))))))))))))), ((up_oth hv_11 (by decide)).trans ((up_oth hv_10 (by decide)).trans ((up_oth hv_9 (by decide)).trans ((up_oth hv_8 (by decide)).trans ((up_oth hv_7 (by decide)).trans ((up_oth hv_6 (by decide)).trans (up_eq hv_5)))))))⟩ dX1_copyFrom_222

set_option maxHeartbeats 4000000 in
set_option maxRecDepth 100000 in
theorem k_X1_copyFrom_76_3 (l : Launch) (D : va_G) (K : Nat → ClassId) (ad : Nat → Nat) (mm : Option Nat) (v ar : sI) (al : sL) : Met l yX1_copyFrom (wM yX1_copyFrom cX1_copyFrom 2 none) (rmD 1) (va_Pc [.ref (ad 76), .ref (ad 3)] (wPre D K ad (xG ad K mm) 132 v ar al)) (va_Qv (fun u : sT => (∀ i j : Nat, (i, j) ∉ ([(76, 0), (76, 1), (76, 2), (76, 3), (76, 4), (76, 5), (76, 6), (76, 7), (76, 8), (76, 9), (76, 10)] : List (Nat × Nat)) → u.1 i j = v i j)) (wB D ad (xG ad K mm) 132) (inW ad 132)) 0 0 (inW ad 132) := by
  refine x_met (by decide) (Nat.le_of_ble_eq_true rfl) ?_
  intro p e s m below meth c ls hE hr hlo hnm hB hl
  have hE : CallFix p m c cX1_copyFrom 2 s _ tbG "TaleCourt$Court" := hE
  obtain ⟨hP, hK, hN⟩ := hB
  have hS : va_S (inW ad 132) s.heap s.heap [] := va_S.rf
  have hl : lv_has ls 2 [(0, .ref (ad 76)), (1, .ref (ad 3))] := hl
  refine lv_aload_n hE.1 hE.2.1 dX1_copyFrom_0 rfl (lv_at hl 0 rfl) ?_
  refine lv_aload_n hE.1 hE.2.1 dX1_copyFrom_1 rfl (lv_at hl 1 rfl) ?_
  refine x_get (x := .int (v 3 0)) hE hK hP 3 (by decide) (xG_1 rfl) rfl hin1 0 (by decide) mw_178 rfl dX1_copyFrom_2 ?_
  refine x_put hE hK hN hP hS 76 (by decide) (xG_1 rfl) rfl hin1 tyX1 tyX1_ok nmX1 0 (by decide) mw_178 rfl rfl rfl (Nat.le_of_ble_eq_true rfl) (xG_1 rfl) dX1_copyFrom_5 (fun v_1 H locs hv_1 hP hS => ?_)
  refine lv_aload_n hE.1 hE.2.1 dX1_copyFrom_8 rfl (lv_at hl 0 rfl) ?_
  refine lv_aload_n hE.1 hE.2.1 dX1_copyFrom_9 rfl (lv_at hl 1 rfl) ?_
  refine x_get (x := .int (v_1 3 1)) hE hK hP 3 (by decide) (xG_1 rfl) rfl hin1 1 (by decide) mw_182 rfl dX1_copyFrom_10 ?_
  refine x_top (y := (v 3 1)) ((up_oth hv_1 (by decide)).trans rfl) ?_
  refine x_put hE hK hN hP hS 76 (by decide) (xG_1 rfl) rfl hin1 tyX1 tyX1_ok nmX1 1 (by decide) mw_182 rfl rfl rfl (Nat.le_of_ble_eq_true rfl) (xG_1 rfl) dX1_copyFrom_13 (fun v_2 H locs hv_2 hP hS => ?_)
  refine lv_aload_n hE.1 hE.2.1 dX1_copyFrom_16 rfl (lv_at hl 0 rfl) ?_
  refine lv_aload_n hE.1 hE.2.1 dX1_copyFrom_17 rfl (lv_at hl 1 rfl) ?_
  refine x_get (x := .int (v_2 3 2)) hE hK hP 3 (by decide) (xG_1 rfl) rfl hin1 2 (by decide) mw_187 rfl dX1_copyFrom_18 ?_
  refine x_top (y := (v 3 2)) ((up_oth hv_2 (by decide)).trans ((up_oth hv_1 (by decide)).trans rfl)) ?_
  refine x_put hE hK hN hP hS 76 (by decide) (xG_1 rfl) rfl hin1 tyX1 tyX1_ok nmX1 2 (by decide) mw_187 rfl rfl rfl (Nat.le_of_ble_eq_true rfl) (xG_1 rfl) dX1_copyFrom_21 (fun v_3 H locs hv_3 hP hS => ?_)
  refine lv_aload_n hE.1 hE.2.1 dX1_copyFrom_24 rfl (lv_at hl 0 rfl) ?_
  refine lv_aload_n hE.1 hE.2.1 dX1_copyFrom_25 rfl (lv_at hl 1 rfl) ?_
  refine x_get (x := .int (v_3 3 3)) hE hK hP 3 (by decide) (xG_1 rfl) rfl hin1 3 (by decide) mw_190 rfl dX1_copyFrom_26 ?_
  refine x_top (y := (v 3 3)) ((up_oth hv_3 (by decide)).trans ((up_oth hv_2 (by decide)).trans ((up_oth hv_1 (by decide)).trans rfl))) ?_
  refine x_put hE hK hN hP hS 76 (by decide) (xG_1 rfl) rfl hin1 tyX1 tyX1_ok nmX1 3 (by decide) mw_190 rfl rfl rfl (Nat.le_of_ble_eq_true rfl) (xG_1 rfl) dX1_copyFrom_29 (fun v_4 H locs hv_4 hP hS => ?_)
  refine lv_aload_n hE.1 hE.2.1 dX1_copyFrom_32 rfl (lv_at hl 0 rfl) ?_
  refine lv_aload_n hE.1 hE.2.1 dX1_copyFrom_33 rfl (lv_at hl 1 rfl) ?_
  refine x_get (x := .int (v_4 3 4)) hE hK hP 3 (by decide) (xG_1 rfl) rfl hin1 4 (by decide) mw_194 rfl dX1_copyFrom_34 ?_
  refine x_top (y := (v 3 4)) ((up_oth hv_4 (by decide)).trans ((up_oth hv_3 (by decide)).trans ((up_oth hv_2 (by decide)).trans ((up_oth hv_1 (by decide)).trans rfl)))) ?_
  refine x_put hE hK hN hP hS 76 (by decide) (xG_1 rfl) rfl hin1 tyX1 tyX1_ok nmX1 4 (by decide) mw_194 rfl rfl rfl (Nat.le_of_ble_eq_true rfl) (xG_1 rfl) dX1_copyFrom_37 (fun v_5 H locs hv_5 hP hS => ?_)
  refine lv_aload_n hE.1 hE.2.1 dX1_copyFrom_40 rfl (lv_at hl 0 rfl) ?_
  refine lv_aload_n hE.1 hE.2.1 dX1_copyFrom_41 rfl (lv_at hl 1 rfl) ?_
  refine x_get (x := .int (v_5 3 5)) hE hK hP 3 (by decide) (xG_1 rfl) rfl hin1 5 (by decide) mw_197 rfl dX1_copyFrom_42 ?_
  refine x_top (y := (v 3 5)) ((up_oth hv_5 (by decide)).trans ((up_oth hv_4 (by decide)).trans ((up_oth hv_3 (by decide)).trans ((up_oth hv_2 (by decide)).trans ((up_oth hv_1 (by decide)).trans rfl))))) ?_
  refine x_put hE hK hN hP hS 76 (by decide) (xG_1 rfl) rfl hin1 tyX1 tyX1_ok nmX1 5 (by decide) mw_197 rfl rfl rfl (Nat.le_of_ble_eq_true rfl) (xG_1 rfl) dX1_copyFrom_45 (fun v_6 H locs hv_6 hP hS => ?_)
  refine lv_aload_n hE.1 hE.2.1 dX1_copyFrom_48 rfl (lv_at hl 0 rfl) ?_
  refine lv_aload_n hE.1 hE.2.1 dX1_copyFrom_49 rfl (lv_at hl 1 rfl) ?_
  refine x_get (x := .int (v_6 3 6)) hE hK hP 3 (by decide) (xG_1 rfl) rfl hin1 6 (by decide) mw_200 rfl dX1_copyFrom_50 ?_
  refine x_top (y := (v 3 6)) ((up_oth hv_6 (by decide)).trans ((up_oth hv_5 (by decide)).trans ((up_oth hv_4 (by decide)).trans ((up_oth hv_3 (by decide)).trans ((up_oth hv_2 (by decide)).trans ((up_oth hv_1 (by decide)).trans rfl)))))) ?_
  refine x_put hE hK hN hP hS 76 (by decide) (xG_1 rfl) rfl hin1 tyX1 tyX1_ok nmX1 6 (by decide) mw_200 rfl rfl rfl (Nat.le_of_ble_eq_true rfl) (xG_1 rfl) dX1_copyFrom_53 (fun v_7 H locs hv_7 hP hS => ?_)
  refine lv_aload_n hE.1 hE.2.1 dX1_copyFrom_56 rfl (lv_at hl 0 rfl) ?_
  refine lv_aload_n hE.1 hE.2.1 dX1_copyFrom_57 rfl (lv_at hl 1 rfl) ?_
  refine x_get (x := .int (v_7 3 7)) hE hK hP 3 (by decide) (xG_1 rfl) rfl hin1 7 (by decide) mw_203 rfl dX1_copyFrom_58 ?_
  refine x_top (y := (v 3 7)) ((up_oth hv_7 (by decide)).trans ((up_oth hv_6 (by decide)).trans ((up_oth hv_5 (by decide)).trans ((up_oth hv_4 (by decide)).trans ((up_oth hv_3 (by decide)).trans ((up_oth hv_2 (by decide)).trans ((up_oth hv_1 (by decide)).trans rfl))))))) ?_
  refine x_put hE hK hN hP hS 76 (by decide) (xG_1 rfl) rfl hin1 tyX1 tyX1_ok nmX1 7 (by decide) mw_203 rfl rfl rfl (Nat.le_of_ble_eq_true rfl) (xG_1 rfl) dX1_copyFrom_61 (fun v_8 H locs hv_8 hP hS => ?_)
  refine lv_aload_n hE.1 hE.2.1 dX1_copyFrom_64 rfl (lv_at hl 0 rfl) ?_
  refine lv_aload_n hE.1 hE.2.1 dX1_copyFrom_65 rfl (lv_at hl 1 rfl) ?_
  refine x_get (x := .int (v_8 3 8)) hE hK hP 3 (by decide) (xG_1 rfl) rfl hin1 8 (by decide) mw_207 rfl dX1_copyFrom_66 ?_
  refine x_top (y := (v 3 8)) ((up_oth hv_8 (by decide)).trans ((up_oth hv_7 (by decide)).trans ((up_oth hv_6 (by decide)).trans ((up_oth hv_5 (by decide)).trans ((up_oth hv_4 (by decide)).trans ((up_oth hv_3 (by decide)).trans ((up_oth hv_2 (by decide)).trans ((up_oth hv_1 (by decide)).trans rfl)))))))) ?_
  refine x_put hE hK hN hP hS 76 (by decide) (xG_1 rfl) rfl hin1 tyX1 tyX1_ok nmX1 8 (by decide) mw_207 rfl rfl rfl (Nat.le_of_ble_eq_true rfl) (xG_1 rfl) dX1_copyFrom_69 (fun v_9 H locs hv_9 hP hS => ?_)
  refine lv_aload_n hE.1 hE.2.1 dX1_copyFrom_72 rfl (lv_at hl 0 rfl) ?_
  refine lv_aload_n hE.1 hE.2.1 dX1_copyFrom_73 rfl (lv_at hl 1 rfl) ?_
  refine x_get (x := .int (v_9 3 9)) hE hK hP 3 (by decide) (xG_1 rfl) rfl hin1 9 (by decide) mw_211 rfl dX1_copyFrom_74 ?_
  refine x_top (y := (v 3 9)) ((up_oth hv_9 (by decide)).trans ((up_oth hv_8 (by decide)).trans ((up_oth hv_7 (by decide)).trans ((up_oth hv_6 (by decide)).trans ((up_oth hv_5 (by decide)).trans ((up_oth hv_4 (by decide)).trans ((up_oth hv_3 (by decide)).trans ((up_oth hv_2 (by decide)).trans ((up_oth hv_1 (by decide)).trans rfl))))))))) ?_
  refine x_put hE hK hN hP hS 76 (by decide) (xG_1 rfl) rfl hin1 tyX1 tyX1_ok nmX1 9 (by decide) mw_211 rfl rfl rfl (Nat.le_of_ble_eq_true rfl) (xG_1 rfl) dX1_copyFrom_77 (fun v_10 H locs hv_10 hP hS => ?_)
  refine lv_aload_n hE.1 hE.2.1 dX1_copyFrom_80 rfl (lv_at hl 0 rfl) ?_
  refine lv_aload_n hE.1 hE.2.1 dX1_copyFrom_81 rfl (lv_at hl 1 rfl) ?_
  refine x_get (x := .int (v_10 3 10)) hE hK hP 3 (by decide) (xG_1 rfl) rfl hin1 10 (by decide) mw_214 rfl dX1_copyFrom_82 ?_
  refine x_top (y := (v 3 10)) ((up_oth hv_10 (by decide)).trans ((up_oth hv_9 (by decide)).trans ((up_oth hv_8 (by decide)).trans ((up_oth hv_7 (by decide)).trans ((up_oth hv_6 (by decide)).trans ((up_oth hv_5 (by decide)).trans ((up_oth hv_4 (by decide)).trans ((up_oth hv_3 (by decide)).trans ((up_oth hv_2 (by decide)).trans ((up_oth hv_1 (by decide)).trans rfl)))))))))) ?_
  refine x_put hE hK hN hP hS 76 (by decide) (xG_1 rfl) rfl hin1 tyX1 tyX1_ok nmX1 10 (by decide) mw_214 rfl rfl rfl (Nat.le_of_ble_eq_true rfl) (xG_1 rfl) dX1_copyFrom_85 (fun v_11 H locs hv_11 hP hS => ?_)
  refine lv_aload_n hE.1 hE.2.1 dX1_copyFrom_88 rfl (lv_at hl 1 rfl) ?_
  refine x_get (x := .ref (ad 4)) hE hK hP 3 (by decide) (xG_1 rfl) rfl hin1 11 (by decide) mw_218 rfl dX1_copyFrom_89 ?_
  refine lv_iconst (v := 0) hE.1 hE.2.1 dX1_copyFrom_92 (by decide) ?_
  refine lv_aload_n hE.1 hE.2.1 dX1_copyFrom_93 rfl (lv_at hl 0 rfl) ?_
  refine x_get (x := .ref (ad 77)) hE hK hP 76 (by decide) (xG_1 rfl) rfl hin1 11 (by decide) mw_218 rfl dX1_copyFrom_94 ?_
  refine lv_iconst (v := 0) hE.1 hE.2.1 dX1_copyFrom_97 (by decide) ?_
  refine lv_bipush (v := 9) hE.1 hE.2.1 dX1_copyFrom_98 (by decide) ?_
  refine x_copyi (rest := []) (sp := 0) (dp := 0) (n := 9) hE hl.1 hK hN hP hS mw_678 mw_680 mw_679 mw_130 4 77 (by decide) (by decide) (xG_10 rfl) (fun _ => xG_10 rfl) (by decide) (by decide) (by decide) (by decide) (by decide) (by decide) (by decide) dX1_copyFrom_100 (fun ar_12 H locs har_12 hP hS => ?_)
  refine lv_aload_n hE.1 hE.2.1 dX1_copyFrom_103 rfl (lv_at hl 1 rfl) ?_
  refine x_get (x := .ref (ad 5)) hE hK hP 3 (by decide) (xG_1 rfl) rfl hin1 12 (by decide) mw_221 rfl dX1_copyFrom_104 ?_
  refine lv_iconst (v := 0) hE.1 hE.2.1 dX1_copyFrom_107 (by decide) ?_
  refine lv_aload_n hE.1 hE.2.1 dX1_copyFrom_108 rfl (lv_at hl 0 rfl) ?_
  refine x_get (x := .ref (ad 78)) hE hK hP 76 (by decide) (xG_1 rfl) rfl hin1 12 (by decide) mw_221 rfl dX1_copyFrom_109 ?_
  refine lv_iconst (v := 0) hE.1 hE.2.1 dX1_copyFrom_112 (by decide) ?_
  refine lv_bipush (v := 9) hE.1 hE.2.1 dX1_copyFrom_113 (by decide) ?_
  refine x_copyi (rest := []) (sp := 0) (dp := 0) (n := 9) hE hl.1 hK hN hP hS mw_678 mw_680 mw_679 mw_130 5 78 (by decide) (by decide) (xG_10 rfl) (fun _ => xG_10 rfl) (by decide) (by decide) (by decide) (by decide) (by decide) (by decide) (by decide) dX1_copyFrom_115 (fun ar_13 H locs har_13 hP hS => ?_)
  refine lv_aload_n hE.1 hE.2.1 dX1_copyFrom_118 rfl (lv_at hl 1 rfl) ?_
  refine x_get (x := .ref (ad 6)) hE hK hP 3 (by decide) (xG_1 rfl) rfl hin1 13 (by decide) mw_225 rfl dX1_copyFrom_119 ?_
  refine lv_iconst (v := 0) hE.1 hE.2.1 dX1_copyFrom_122 (by decide) ?_
  refine lv_aload_n hE.1 hE.2.1 dX1_copyFrom_123 rfl (lv_at hl 0 rfl) ?_
  refine x_get (x := .ref (ad 79)) hE hK hP 76 (by decide) (xG_1 rfl) rfl hin1 13 (by decide) mw_225 rfl dX1_copyFrom_124 ?_
  refine lv_iconst (v := 0) hE.1 hE.2.1 dX1_copyFrom_127 (by decide) ?_
  refine lv_bipush (v := 9) hE.1 hE.2.1 dX1_copyFrom_128 (by decide) ?_
  refine x_copyi (rest := []) (sp := 0) (dp := 0) (n := 9) hE hl.1 hK hN hP hS mw_678 mw_680 mw_679 mw_130 6 79 (by decide) (by decide) (xG_10 rfl) (fun _ => xG_10 rfl) (by decide) (by decide) (by decide) (by decide) (by decide) (by decide) (by decide) dX1_copyFrom_130 (fun ar_14 H locs har_14 hP hS => ?_)
  refine lv_aload_n hE.1 hE.2.1 dX1_copyFrom_133 rfl (lv_at hl 1 rfl) ?_
  refine x_get (x := .ref (ad 7)) hE hK hP 3 (by decide) (xG_1 rfl) rfl hin1 14 (by decide) mw_229 rfl dX1_copyFrom_134 ?_
  refine lv_iconst (v := 0) hE.1 hE.2.1 dX1_copyFrom_137 (by decide) ?_
  refine lv_aload_n hE.1 hE.2.1 dX1_copyFrom_138 rfl (lv_at hl 0 rfl) ?_
  refine x_get (x := .ref (ad 80)) hE hK hP 76 (by decide) (xG_1 rfl) rfl hin1 14 (by decide) mw_229 rfl dX1_copyFrom_139 ?_
  refine lv_iconst (v := 0) hE.1 hE.2.1 dX1_copyFrom_142 (by decide) ?_
  refine lv_bipush (v := 9) hE.1 hE.2.1 dX1_copyFrom_143 (by decide) ?_
  refine x_copyi (rest := []) (sp := 0) (dp := 0) (n := 9) hE hl.1 hK hN hP hS mw_678 mw_680 mw_679 mw_130 7 80 (by decide) (by decide) (xG_10 rfl) (fun _ => xG_10 rfl) (by decide) (by decide) (by decide) (by decide) (by decide) (by decide) (by decide) dX1_copyFrom_145 (fun ar_15 H locs har_15 hP hS => ?_)
  refine lv_aload_n hE.1 hE.2.1 dX1_copyFrom_148 rfl (lv_at hl 1 rfl) ?_
  refine x_get (x := .ref (ad 8)) hE hK hP 3 (by decide) (xG_1 rfl) rfl hin1 15 (by decide) mw_231 rfl dX1_copyFrom_149 ?_
  refine lv_iconst (v := 0) hE.1 hE.2.1 dX1_copyFrom_152 (by decide) ?_
  refine lv_aload_n hE.1 hE.2.1 dX1_copyFrom_153 rfl (lv_at hl 0 rfl) ?_
  refine x_get (x := .ref (ad 81)) hE hK hP 76 (by decide) (xG_1 rfl) rfl hin1 15 (by decide) mw_231 rfl dX1_copyFrom_154 ?_
  refine lv_iconst (v := 0) hE.1 hE.2.1 dX1_copyFrom_157 (by decide) ?_
  refine lv_bipush (v := 9) hE.1 hE.2.1 dX1_copyFrom_158 (by decide) ?_
  refine x_copyi (rest := []) (sp := 0) (dp := 0) (n := 9) hE hl.1 hK hN hP hS mw_678 mw_680 mw_679 mw_130 8 81 (by decide) (by decide) (xG_10 rfl) (fun _ => xG_10 rfl) (by decide) (by decide) (by decide) (by decide) (by decide) (by decide) (by decide) dX1_copyFrom_160 (fun ar_16 H locs har_16 hP hS => ?_)
  refine lv_aload_n hE.1 hE.2.1 dX1_copyFrom_163 rfl (lv_at hl 1 rfl) ?_
  refine x_get (x := .ref (ad 9)) hE hK hP 3 (by decide) (xG_1 rfl) rfl hin1 16 (by decide) mw_235 rfl dX1_copyFrom_164 ?_
  refine lv_iconst (v := 0) hE.1 hE.2.1 dX1_copyFrom_167 (by decide) ?_
  refine lv_aload_n hE.1 hE.2.1 dX1_copyFrom_168 rfl (lv_at hl 0 rfl) ?_
  refine x_get (x := .ref (ad 82)) hE hK hP 76 (by decide) (xG_1 rfl) rfl hin1 16 (by decide) mw_235 rfl dX1_copyFrom_169 ?_
  refine lv_iconst (v := 0) hE.1 hE.2.1 dX1_copyFrom_172 (by decide) ?_
  refine lv_bipush (v := 9) hE.1 hE.2.1 dX1_copyFrom_173 (by decide) ?_
  refine x_copyi (rest := []) (sp := 0) (dp := 0) (n := 9) hE hl.1 hK hN hP hS mw_678 mw_680 mw_679 mw_130 9 82 (by decide) (by decide) (xG_10 rfl) (fun _ => xG_10 rfl) (by decide) (by decide) (by decide) (by decide) (by decide) (by decide) (by decide) dX1_copyFrom_175 (fun ar_17 H locs har_17 hP hS => ?_)
  refine lv_aload_n hE.1 hE.2.1 dX1_copyFrom_178 rfl (lv_at hl 1 rfl) ?_
  refine x_get (x := .ref (ad 10)) hE hK hP 3 (by decide) (xG_1 rfl) rfl hin1 17 (by decide) mw_239 rfl dX1_copyFrom_179 ?_
  refine lv_iconst (v := 0) hE.1 hE.2.1 dX1_copyFrom_182 (by decide) ?_
  refine lv_aload_n hE.1 hE.2.1 dX1_copyFrom_183 rfl (lv_at hl 0 rfl) ?_
  refine x_get (x := .ref (ad 83)) hE hK hP 76 (by decide) (xG_1 rfl) rfl hin1 17 (by decide) mw_239 rfl dX1_copyFrom_184 ?_
  refine lv_iconst (v := 0) hE.1 hE.2.1 dX1_copyFrom_187 (by decide) ?_
  refine lv_iconst (v := 3) hE.1 hE.2.1 dX1_copyFrom_188 (by decide) ?_
  refine x_copyi (rest := []) (sp := 0) (dp := 0) (n := 3) hE hl.1 hK hN hP hS mw_678 mw_680 mw_679 mw_130 10 83 (by decide) (by decide) (xG_10 rfl) (fun _ => xG_10 rfl) (by decide) (by decide) (by decide) (by decide) (by decide) (by decide) (by decide) dX1_copyFrom_189 (fun ar_18 H locs har_18 hP hS => ?_)
  refine lv_aload_n hE.1 hE.2.1 dX1_copyFrom_192 rfl (lv_at hl 1 rfl) ?_
  refine x_get (x := .ref (ad 11)) hE hK hP 3 (by decide) (xG_1 rfl) rfl hin1 18 (by decide) mw_241 rfl dX1_copyFrom_193 ?_
  refine lv_iconst (v := 0) hE.1 hE.2.1 dX1_copyFrom_196 (by decide) ?_
  refine lv_aload_n hE.1 hE.2.1 dX1_copyFrom_197 rfl (lv_at hl 0 rfl) ?_
  refine x_get (x := .ref (ad 84)) hE hK hP 76 (by decide) (xG_1 rfl) rfl hin1 18 (by decide) mw_241 rfl dX1_copyFrom_198 ?_
  refine lv_iconst (v := 0) hE.1 hE.2.1 dX1_copyFrom_201 (by decide) ?_
  refine lv_bipush (v := 8) hE.1 hE.2.1 dX1_copyFrom_202 (by decide) ?_
  refine x_copyi (rest := []) (sp := 0) (dp := 0) (n := 8) hE hl.1 hK hN hP hS mw_678 mw_680 mw_679 mw_130 11 84 (by decide) (by decide) (xG_10 rfl) (fun _ => xG_10 rfl) (by decide) (by decide) (by decide) (by decide) (by decide) (by decide) (by decide) dX1_copyFrom_204 (fun ar_19 H locs har_19 hP hS => ?_)
  refine lv_aload_n hE.1 hE.2.1 dX1_copyFrom_207 rfl (lv_at hl 1 rfl) ?_
  refine x_get (x := .ref (ad 12)) hE hK hP 3 (by decide) (xG_1 rfl) rfl hin1 19 (by decide) mw_244 rfl dX1_copyFrom_208 ?_
  refine lv_iconst (v := 0) hE.1 hE.2.1 dX1_copyFrom_211 (by decide) ?_
  refine lv_aload_n hE.1 hE.2.1 dX1_copyFrom_212 rfl (lv_at hl 0 rfl) ?_
  refine x_get (x := .ref (ad 85)) hE hK hP 76 (by decide) (xG_1 rfl) rfl hin1 19 (by decide) mw_244 rfl dX1_copyFrom_213 ?_
  refine lv_iconst (v := 0) hE.1 hE.2.1 dX1_copyFrom_216 (by decide) ?_
  refine lv_bipush (v := 8) hE.1 hE.2.1 dX1_copyFrom_217 (by decide) ?_
  refine x_copyi (rest := []) (sp := 0) (dp := 0) (n := 8) hE hl.1 hK hN hP hS mw_678 mw_680 mw_679 mw_130 12 85 (by decide) (by decide) (xG_10 rfl) (fun _ => xG_10 rfl) (by decide) (by decide) (by decide) (by decide) (by decide) (by decide) (by decide) dX1_copyFrom_219 (fun ar_20 H locs har_20 hP hS => ?_)
  exact x_wv hE hr hlo hP hS (fun i j h => ((up_oth hv_11 (fun q => h (by rcases q with ⟨rfl, rfl⟩; decide))).trans ((up_oth hv_10 (fun q => h (by rcases q with ⟨rfl, rfl⟩; decide))).trans ((up_oth hv_9 (fun q => h (by rcases q with ⟨rfl, rfl⟩; decide))).trans ((up_oth hv_8 (fun q => h (by rcases q with ⟨rfl, rfl⟩; decide))).trans ((up_oth hv_7 (fun q => h (by rcases q with ⟨rfl, rfl⟩; decide))).trans ((up_oth hv_6 (fun q => h (by rcases q with ⟨rfl, rfl⟩; decide))).trans ((up_oth hv_5 (fun q => h (by rcases q with ⟨rfl, rfl⟩; decide))).trans ((up_oth hv_4 (fun q => h (by rcases q with ⟨rfl, rfl⟩; decide))).trans ((up_oth hv_3 (fun q => h (by rcases q with ⟨rfl, rfl⟩; decide))).trans ((up_oth hv_2 (fun q => h (by rcases q with ⟨rfl, rfl⟩; decide))).trans (up_oth hv_1 (fun q => h (by rcases q with ⟨rfl, rfl⟩; decide)))))))))))))) dX1_copyFrom_222

set_option maxHeartbeats 4000000 in
set_option maxRecDepth 100000 in
theorem k_X1_copyFrom_95_3 (l : Launch) (D : va_G) (K : Nat → ClassId) (ad : Nat → Nat) (mm : Option Nat) (v ar : sI) (al : sL) : Met l yX1_copyFrom (wM yX1_copyFrom cX1_copyFrom 2 none) (rmD 1) (va_Pc [.ref (ad 95), .ref (ad 3)] (wPre D K ad (xG ad K mm) 132 v ar al)) (va_Qv (fun u : sT => (∀ i j : Nat, (i, j) ∉ ([(95, 0), (95, 1), (95, 2), (95, 3), (95, 4), (95, 5), (95, 6), (95, 7), (95, 8), (95, 9), (95, 10)] : List (Nat × Nat)) → u.1 i j = v i j)) (wB D ad (xG ad K mm) 132) (inW ad 132)) 0 0 (inW ad 132) := by
  refine x_met (by decide) (Nat.le_of_ble_eq_true rfl) ?_
  intro p e s m below meth c ls hE hr hlo hnm hB hl
  have hE : CallFix p m c cX1_copyFrom 2 s _ tbG "TaleCourt$Court" := hE
  obtain ⟨hP, hK, hN⟩ := hB
  have hS : va_S (inW ad 132) s.heap s.heap [] := va_S.rf
  have hl : lv_has ls 2 [(0, .ref (ad 95)), (1, .ref (ad 3))] := hl
  refine lv_aload_n hE.1 hE.2.1 dX1_copyFrom_0 rfl (lv_at hl 0 rfl) ?_
  refine lv_aload_n hE.1 hE.2.1 dX1_copyFrom_1 rfl (lv_at hl 1 rfl) ?_
  refine x_get (x := .int (v 3 0)) hE hK hP 3 (by decide) (xG_1 rfl) rfl hin1 0 (by decide) mw_178 rfl dX1_copyFrom_2 ?_
  refine x_put hE hK hN hP hS 95 (by decide) (xG_1 rfl) rfl hin1 tyX1 tyX1_ok nmX1 0 (by decide) mw_178 rfl rfl rfl (Nat.le_of_ble_eq_true rfl) (xG_1 rfl) dX1_copyFrom_5 (fun v_1 H locs hv_1 hP hS => ?_)
  refine lv_aload_n hE.1 hE.2.1 dX1_copyFrom_8 rfl (lv_at hl 0 rfl) ?_
  refine lv_aload_n hE.1 hE.2.1 dX1_copyFrom_9 rfl (lv_at hl 1 rfl) ?_
  refine x_get (x := .int (v_1 3 1)) hE hK hP 3 (by decide) (xG_1 rfl) rfl hin1 1 (by decide) mw_182 rfl dX1_copyFrom_10 ?_
  refine x_top (y := (v 3 1)) ((up_oth hv_1 (by decide)).trans rfl) ?_
  refine x_put hE hK hN hP hS 95 (by decide) (xG_1 rfl) rfl hin1 tyX1 tyX1_ok nmX1 1 (by decide) mw_182 rfl rfl rfl (Nat.le_of_ble_eq_true rfl) (xG_1 rfl) dX1_copyFrom_13 (fun v_2 H locs hv_2 hP hS => ?_)
  refine lv_aload_n hE.1 hE.2.1 dX1_copyFrom_16 rfl (lv_at hl 0 rfl) ?_
  refine lv_aload_n hE.1 hE.2.1 dX1_copyFrom_17 rfl (lv_at hl 1 rfl) ?_
  refine x_get (x := .int (v_2 3 2)) hE hK hP 3 (by decide) (xG_1 rfl) rfl hin1 2 (by decide) mw_187 rfl dX1_copyFrom_18 ?_
  refine x_top (y := (v 3 2)) ((up_oth hv_2 (by decide)).trans ((up_oth hv_1 (by decide)).trans rfl)) ?_
  refine x_put hE hK hN hP hS 95 (by decide) (xG_1 rfl) rfl hin1 tyX1 tyX1_ok nmX1 2 (by decide) mw_187 rfl rfl rfl (Nat.le_of_ble_eq_true rfl) (xG_1 rfl) dX1_copyFrom_21 (fun v_3 H locs hv_3 hP hS => ?_)
  refine lv_aload_n hE.1 hE.2.1 dX1_copyFrom_24 rfl (lv_at hl 0 rfl) ?_
  refine lv_aload_n hE.1 hE.2.1 dX1_copyFrom_25 rfl (lv_at hl 1 rfl) ?_
  refine x_get (x := .int (v_3 3 3)) hE hK hP 3 (by decide) (xG_1 rfl) rfl hin1 3 (by decide) mw_190 rfl dX1_copyFrom_26 ?_
  refine x_top (y := (v 3 3)) ((up_oth hv_3 (by decide)).trans ((up_oth hv_2 (by decide)).trans ((up_oth hv_1 (by decide)).trans rfl))) ?_
  refine x_put hE hK hN hP hS 95 (by decide) (xG_1 rfl) rfl hin1 tyX1 tyX1_ok nmX1 3 (by decide) mw_190 rfl rfl rfl (Nat.le_of_ble_eq_true rfl) (xG_1 rfl) dX1_copyFrom_29 (fun v_4 H locs hv_4 hP hS => ?_)
  refine lv_aload_n hE.1 hE.2.1 dX1_copyFrom_32 rfl (lv_at hl 0 rfl) ?_
  refine lv_aload_n hE.1 hE.2.1 dX1_copyFrom_33 rfl (lv_at hl 1 rfl) ?_
  refine x_get (x := .int (v_4 3 4)) hE hK hP 3 (by decide) (xG_1 rfl) rfl hin1 4 (by decide) mw_194 rfl dX1_copyFrom_34 ?_
  refine x_top (y := (v 3 4)) ((up_oth hv_4 (by decide)).trans ((up_oth hv_3 (by decide)).trans ((up_oth hv_2 (by decide)).trans ((up_oth hv_1 (by decide)).trans rfl)))) ?_
  refine x_put hE hK hN hP hS 95 (by decide) (xG_1 rfl) rfl hin1 tyX1 tyX1_ok nmX1 4 (by decide) mw_194 rfl rfl rfl (Nat.le_of_ble_eq_true rfl) (xG_1 rfl) dX1_copyFrom_37 (fun v_5 H locs hv_5 hP hS => ?_)
  refine lv_aload_n hE.1 hE.2.1 dX1_copyFrom_40 rfl (lv_at hl 0 rfl) ?_
  refine lv_aload_n hE.1 hE.2.1 dX1_copyFrom_41 rfl (lv_at hl 1 rfl) ?_
  refine x_get (x := .int (v_5 3 5)) hE hK hP 3 (by decide) (xG_1 rfl) rfl hin1 5 (by decide) mw_197 rfl dX1_copyFrom_42 ?_
  refine x_top (y := (v 3 5)) ((up_oth hv_5 (by decide)).trans ((up_oth hv_4 (by decide)).trans ((up_oth hv_3 (by decide)).trans ((up_oth hv_2 (by decide)).trans ((up_oth hv_1 (by decide)).trans rfl))))) ?_
  refine x_put hE hK hN hP hS 95 (by decide) (xG_1 rfl) rfl hin1 tyX1 tyX1_ok nmX1 5 (by decide) mw_197 rfl rfl rfl (Nat.le_of_ble_eq_true rfl) (xG_1 rfl) dX1_copyFrom_45 (fun v_6 H locs hv_6 hP hS => ?_)
  refine lv_aload_n hE.1 hE.2.1 dX1_copyFrom_48 rfl (lv_at hl 0 rfl) ?_
  refine lv_aload_n hE.1 hE.2.1 dX1_copyFrom_49 rfl (lv_at hl 1 rfl) ?_
  refine x_get (x := .int (v_6 3 6)) hE hK hP 3 (by decide) (xG_1 rfl) rfl hin1 6 (by decide) mw_200 rfl dX1_copyFrom_50 ?_
  refine x_top (y := (v 3 6)) ((up_oth hv_6 (by decide)).trans ((up_oth hv_5 (by decide)).trans ((up_oth hv_4 (by decide)).trans ((up_oth hv_3 (by decide)).trans ((up_oth hv_2 (by decide)).trans ((up_oth hv_1 (by decide)).trans rfl)))))) ?_
  refine x_put hE hK hN hP hS 95 (by decide) (xG_1 rfl) rfl hin1 tyX1 tyX1_ok nmX1 6 (by decide) mw_200 rfl rfl rfl (Nat.le_of_ble_eq_true rfl) (xG_1 rfl) dX1_copyFrom_53 (fun v_7 H locs hv_7 hP hS => ?_)
  refine lv_aload_n hE.1 hE.2.1 dX1_copyFrom_56 rfl (lv_at hl 0 rfl) ?_
  refine lv_aload_n hE.1 hE.2.1 dX1_copyFrom_57 rfl (lv_at hl 1 rfl) ?_
  refine x_get (x := .int (v_7 3 7)) hE hK hP 3 (by decide) (xG_1 rfl) rfl hin1 7 (by decide) mw_203 rfl dX1_copyFrom_58 ?_
  refine x_top (y := (v 3 7)) ((up_oth hv_7 (by decide)).trans ((up_oth hv_6 (by decide)).trans ((up_oth hv_5 (by decide)).trans ((up_oth hv_4 (by decide)).trans ((up_oth hv_3 (by decide)).trans ((up_oth hv_2 (by decide)).trans ((up_oth hv_1 (by decide)).trans rfl))))))) ?_
  refine x_put hE hK hN hP hS 95 (by decide) (xG_1 rfl) rfl hin1 tyX1 tyX1_ok nmX1 7 (by decide) mw_203 rfl rfl rfl (Nat.le_of_ble_eq_true rfl) (xG_1 rfl) dX1_copyFrom_61 (fun v_8 H locs hv_8 hP hS => ?_)
  refine lv_aload_n hE.1 hE.2.1 dX1_copyFrom_64 rfl (lv_at hl 0 rfl) ?_
  refine lv_aload_n hE.1 hE.2.1 dX1_copyFrom_65 rfl (lv_at hl 1 rfl) ?_
  refine x_get (x := .int (v_8 3 8)) hE hK hP 3 (by decide) (xG_1 rfl) rfl hin1 8 (by decide) mw_207 rfl dX1_copyFrom_66 ?_
  refine x_top (y := (v 3 8)) ((up_oth hv_8 (by decide)).trans ((up_oth hv_7 (by decide)).trans ((up_oth hv_6 (by decide)).trans ((up_oth hv_5 (by decide)).trans ((up_oth hv_4 (by decide)).trans ((up_oth hv_3 (by decide)).trans ((up_oth hv_2 (by decide)).trans ((up_oth hv_1 (by decide)).trans rfl)))))))) ?_
  refine x_put hE hK hN hP hS 95 (by decide) (xG_1 rfl) rfl hin1 tyX1 tyX1_ok nmX1 8 (by decide) mw_207 rfl rfl rfl (Nat.le_of_ble_eq_true rfl) (xG_1 rfl) dX1_copyFrom_69 (fun v_9 H locs hv_9 hP hS => ?_)
  refine lv_aload_n hE.1 hE.2.1 dX1_copyFrom_72 rfl (lv_at hl 0 rfl) ?_
  refine lv_aload_n hE.1 hE.2.1 dX1_copyFrom_73 rfl (lv_at hl 1 rfl) ?_
  refine x_get (x := .int (v_9 3 9)) hE hK hP 3 (by decide) (xG_1 rfl) rfl hin1 9 (by decide) mw_211 rfl dX1_copyFrom_74 ?_
  refine x_top (y := (v 3 9)) ((up_oth hv_9 (by decide)).trans ((up_oth hv_8 (by decide)).trans ((up_oth hv_7 (by decide)).trans ((up_oth hv_6 (by decide)).trans ((up_oth hv_5 (by decide)).trans ((up_oth hv_4 (by decide)).trans ((up_oth hv_3 (by decide)).trans ((up_oth hv_2 (by decide)).trans ((up_oth hv_1 (by decide)).trans rfl))))))))) ?_
  refine x_put hE hK hN hP hS 95 (by decide) (xG_1 rfl) rfl hin1 tyX1 tyX1_ok nmX1 9 (by decide) mw_211 rfl rfl rfl (Nat.le_of_ble_eq_true rfl) (xG_1 rfl) dX1_copyFrom_77 (fun v_10 H locs hv_10 hP hS => ?_)
  refine lv_aload_n hE.1 hE.2.1 dX1_copyFrom_80 rfl (lv_at hl 0 rfl) ?_
  refine lv_aload_n hE.1 hE.2.1 dX1_copyFrom_81 rfl (lv_at hl 1 rfl) ?_
  refine x_get (x := .int (v_10 3 10)) hE hK hP 3 (by decide) (xG_1 rfl) rfl hin1 10 (by decide) mw_214 rfl dX1_copyFrom_82 ?_
  refine x_top (y := (v 3 10)) ((up_oth hv_10 (by decide)).trans ((up_oth hv_9 (by decide)).trans ((up_oth hv_8 (by decide)).trans ((up_oth hv_7 (by decide)).trans ((up_oth hv_6 (by decide)).trans ((up_oth hv_5 (by decide)).trans ((up_oth hv_4 (by decide)).trans ((up_oth hv_3 (by decide)).trans ((up_oth hv_2 (by decide)).trans ((up_oth hv_1 (by decide)).trans rfl)))))))))) ?_
  refine x_put hE hK hN hP hS 95 (by decide) (xG_1 rfl) rfl hin1 tyX1 tyX1_ok nmX1 10 (by decide) mw_214 rfl rfl rfl (Nat.le_of_ble_eq_true rfl) (xG_1 rfl) dX1_copyFrom_85 (fun v_11 H locs hv_11 hP hS => ?_)
  refine lv_aload_n hE.1 hE.2.1 dX1_copyFrom_88 rfl (lv_at hl 1 rfl) ?_
  refine x_get (x := .ref (ad 4)) hE hK hP 3 (by decide) (xG_1 rfl) rfl hin1 11 (by decide) mw_218 rfl dX1_copyFrom_89 ?_
  refine lv_iconst (v := 0) hE.1 hE.2.1 dX1_copyFrom_92 (by decide) ?_
  refine lv_aload_n hE.1 hE.2.1 dX1_copyFrom_93 rfl (lv_at hl 0 rfl) ?_
  refine x_get (x := .ref (ad 96)) hE hK hP 95 (by decide) (xG_1 rfl) rfl hin1 11 (by decide) mw_218 rfl dX1_copyFrom_94 ?_
  refine lv_iconst (v := 0) hE.1 hE.2.1 dX1_copyFrom_97 (by decide) ?_
  refine lv_bipush (v := 9) hE.1 hE.2.1 dX1_copyFrom_98 (by decide) ?_
  refine x_copyi (rest := []) (sp := 0) (dp := 0) (n := 9) hE hl.1 hK hN hP hS mw_678 mw_680 mw_679 mw_130 4 96 (by decide) (by decide) (xG_10 rfl) (fun _ => xG_10 rfl) (by decide) (by decide) (by decide) (by decide) (by decide) (by decide) (by decide) dX1_copyFrom_100 (fun ar_12 H locs har_12 hP hS => ?_)
  refine lv_aload_n hE.1 hE.2.1 dX1_copyFrom_103 rfl (lv_at hl 1 rfl) ?_
  refine x_get (x := .ref (ad 5)) hE hK hP 3 (by decide) (xG_1 rfl) rfl hin1 12 (by decide) mw_221 rfl dX1_copyFrom_104 ?_
  refine lv_iconst (v := 0) hE.1 hE.2.1 dX1_copyFrom_107 (by decide) ?_
  refine lv_aload_n hE.1 hE.2.1 dX1_copyFrom_108 rfl (lv_at hl 0 rfl) ?_
  refine x_get (x := .ref (ad 97)) hE hK hP 95 (by decide) (xG_1 rfl) rfl hin1 12 (by decide) mw_221 rfl dX1_copyFrom_109 ?_
  refine lv_iconst (v := 0) hE.1 hE.2.1 dX1_copyFrom_112 (by decide) ?_
  refine lv_bipush (v := 9) hE.1 hE.2.1 dX1_copyFrom_113 (by decide) ?_
  refine x_copyi (rest := []) (sp := 0) (dp := 0) (n := 9) hE hl.1 hK hN hP hS mw_678 mw_680 mw_679 mw_130 5 97 (by decide) (by decide) (xG_10 rfl) (fun _ => xG_10 rfl) (by decide) (by decide) (by decide) (by decide) (by decide) (by decide) (by decide) dX1_copyFrom_115 (fun ar_13 H locs har_13 hP hS => ?_)
  refine lv_aload_n hE.1 hE.2.1 dX1_copyFrom_118 rfl (lv_at hl 1 rfl) ?_
  refine x_get (x := .ref (ad 6)) hE hK hP 3 (by decide) (xG_1 rfl) rfl hin1 13 (by decide) mw_225 rfl dX1_copyFrom_119 ?_
  refine lv_iconst (v := 0) hE.1 hE.2.1 dX1_copyFrom_122 (by decide) ?_
  refine lv_aload_n hE.1 hE.2.1 dX1_copyFrom_123 rfl (lv_at hl 0 rfl) ?_
  refine x_get (x := .ref (ad 98)) hE hK hP 95 (by decide) (xG_1 rfl) rfl hin1 13 (by decide) mw_225 rfl dX1_copyFrom_124 ?_
  refine lv_iconst (v := 0) hE.1 hE.2.1 dX1_copyFrom_127 (by decide) ?_
  refine lv_bipush (v := 9) hE.1 hE.2.1 dX1_copyFrom_128 (by decide) ?_
  refine x_copyi (rest := []) (sp := 0) (dp := 0) (n := 9) hE hl.1 hK hN hP hS mw_678 mw_680 mw_679 mw_130 6 98 (by decide) (by decide) (xG_10 rfl) (fun _ => xG_10 rfl) (by decide) (by decide) (by decide) (by decide) (by decide) (by decide) (by decide) dX1_copyFrom_130 (fun ar_14 H locs har_14 hP hS => ?_)
  refine lv_aload_n hE.1 hE.2.1 dX1_copyFrom_133 rfl (lv_at hl 1 rfl) ?_
  refine x_get (x := .ref (ad 7)) hE hK hP 3 (by decide) (xG_1 rfl) rfl hin1 14 (by decide) mw_229 rfl dX1_copyFrom_134 ?_
  refine lv_iconst (v := 0) hE.1 hE.2.1 dX1_copyFrom_137 (by decide) ?_
  refine lv_aload_n hE.1 hE.2.1 dX1_copyFrom_138 rfl (lv_at hl 0 rfl) ?_
  refine x_get (x := .ref (ad 99)) hE hK hP 95 (by decide) (xG_1 rfl) rfl hin1 14 (by decide) mw_229 rfl dX1_copyFrom_139 ?_
  refine lv_iconst (v := 0) hE.1 hE.2.1 dX1_copyFrom_142 (by decide) ?_
  refine lv_bipush (v := 9) hE.1 hE.2.1 dX1_copyFrom_143 (by decide) ?_
  refine x_copyi (rest := []) (sp := 0) (dp := 0) (n := 9) hE hl.1 hK hN hP hS mw_678 mw_680 mw_679 mw_130 7 99 (by decide) (by decide) (xG_10 rfl) (fun _ => xG_10 rfl) (by decide) (by decide) (by decide) (by decide) (by decide) (by decide) (by decide) dX1_copyFrom_145 (fun ar_15 H locs har_15 hP hS => ?_)
  refine lv_aload_n hE.1 hE.2.1 dX1_copyFrom_148 rfl (lv_at hl 1 rfl) ?_
  refine x_get (x := .ref (ad 8)) hE hK hP 3 (by decide) (xG_1 rfl) rfl hin1 15 (by decide) mw_231 rfl dX1_copyFrom_149 ?_
  refine lv_iconst (v := 0) hE.1 hE.2.1 dX1_copyFrom_152 (by decide) ?_
  refine lv_aload_n hE.1 hE.2.1 dX1_copyFrom_153 rfl (lv_at hl 0 rfl) ?_
  refine x_get (x := .ref (ad 100)) hE hK hP 95 (by decide) (xG_1 rfl) rfl hin1 15 (by decide) mw_231 rfl dX1_copyFrom_154 ?_
  refine lv_iconst (v := 0) hE.1 hE.2.1 dX1_copyFrom_157 (by decide) ?_
  refine lv_bipush (v := 9) hE.1 hE.2.1 dX1_copyFrom_158 (by decide) ?_
  refine x_copyi (rest := []) (sp := 0) (dp := 0) (n := 9) hE hl.1 hK hN hP hS mw_678 mw_680 mw_679 mw_130 8 100 (by decide) (by decide) (xG_10 rfl) (fun _ => xG_10 rfl) (by decide) (by decide) (by decide) (by decide) (by decide) (by decide) (by decide) dX1_copyFrom_160 (fun ar_16 H locs har_16 hP hS => ?_)
  refine lv_aload_n hE.1 hE.2.1 dX1_copyFrom_163 rfl (lv_at hl 1 rfl) ?_
  refine x_get (x := .ref (ad 9)) hE hK hP 3 (by decide) (xG_1 rfl) rfl hin1 16 (by decide) mw_235 rfl dX1_copyFrom_164 ?_
  refine lv_iconst (v := 0) hE.1 hE.2.1 dX1_copyFrom_167 (by decide) ?_
  refine lv_aload_n hE.1 hE.2.1 dX1_copyFrom_168 rfl (lv_at hl 0 rfl) ?_
  refine x_get (x := .ref (ad 101)) hE hK hP 95 (by decide) (xG_1 rfl) rfl hin1 16 (by decide) mw_235 rfl dX1_copyFrom_169 ?_
  refine lv_iconst (v := 0) hE.1 hE.2.1 dX1_copyFrom_172 (by decide) ?_
  refine lv_bipush (v := 9) hE.1 hE.2.1 dX1_copyFrom_173 (by decide) ?_
  refine x_copyi (rest := []) (sp := 0) (dp := 0) (n := 9) hE hl.1 hK hN hP hS mw_678 mw_680 mw_679 mw_130 9 101 (by decide) (by decide) (xG_10 rfl) (fun _ => xG_10 rfl) (by decide) (by decide) (by decide) (by decide) (by decide) (by decide) (by decide) dX1_copyFrom_175 (fun ar_17 H locs har_17 hP hS => ?_)
  refine lv_aload_n hE.1 hE.2.1 dX1_copyFrom_178 rfl (lv_at hl 1 rfl) ?_
  refine x_get (x := .ref (ad 10)) hE hK hP 3 (by decide) (xG_1 rfl) rfl hin1 17 (by decide) mw_239 rfl dX1_copyFrom_179 ?_
  refine lv_iconst (v := 0) hE.1 hE.2.1 dX1_copyFrom_182 (by decide) ?_
  refine lv_aload_n hE.1 hE.2.1 dX1_copyFrom_183 rfl (lv_at hl 0 rfl) ?_
  refine x_get (x := .ref (ad 102)) hE hK hP 95 (by decide) (xG_1 rfl) rfl hin1 17 (by decide) mw_239 rfl dX1_copyFrom_184 ?_
  refine lv_iconst (v := 0) hE.1 hE.2.1 dX1_copyFrom_187 (by decide) ?_
  refine lv_iconst (v := 3) hE.1 hE.2.1 dX1_copyFrom_188 (by decide) ?_
  refine x_copyi (rest := []) (sp := 0) (dp := 0) (n := 3) hE hl.1 hK hN hP hS mw_678 mw_680 mw_679 mw_130 10 102 (by decide) (by decide) (xG_10 rfl) (fun _ => xG_10 rfl) (by decide) (by decide) (by decide) (by decide) (by decide) (by decide) (by decide) dX1_copyFrom_189 (fun ar_18 H locs har_18 hP hS => ?_)
  refine lv_aload_n hE.1 hE.2.1 dX1_copyFrom_192 rfl (lv_at hl 1 rfl) ?_
  refine x_get (x := .ref (ad 11)) hE hK hP 3 (by decide) (xG_1 rfl) rfl hin1 18 (by decide) mw_241 rfl dX1_copyFrom_193 ?_
  refine lv_iconst (v := 0) hE.1 hE.2.1 dX1_copyFrom_196 (by decide) ?_
  refine lv_aload_n hE.1 hE.2.1 dX1_copyFrom_197 rfl (lv_at hl 0 rfl) ?_
  refine x_get (x := .ref (ad 103)) hE hK hP 95 (by decide) (xG_1 rfl) rfl hin1 18 (by decide) mw_241 rfl dX1_copyFrom_198 ?_
  refine lv_iconst (v := 0) hE.1 hE.2.1 dX1_copyFrom_201 (by decide) ?_
  refine lv_bipush (v := 8) hE.1 hE.2.1 dX1_copyFrom_202 (by decide) ?_
  refine x_copyi (rest := []) (sp := 0) (dp := 0) (n := 8) hE hl.1 hK hN hP hS mw_678 mw_680 mw_679 mw_130 11 103 (by decide) (by decide) (xG_10 rfl) (fun _ => xG_10 rfl) (by decide) (by decide) (by decide) (by decide) (by decide) (by decide) (by decide) dX1_copyFrom_204 (fun ar_19 H locs har_19 hP hS => ?_)
  refine lv_aload_n hE.1 hE.2.1 dX1_copyFrom_207 rfl (lv_at hl 1 rfl) ?_
  refine x_get (x := .ref (ad 12)) hE hK hP 3 (by decide) (xG_1 rfl) rfl hin1 19 (by decide) mw_244 rfl dX1_copyFrom_208 ?_
  refine lv_iconst (v := 0) hE.1 hE.2.1 dX1_copyFrom_211 (by decide) ?_
  refine lv_aload_n hE.1 hE.2.1 dX1_copyFrom_212 rfl (lv_at hl 0 rfl) ?_
  refine x_get (x := .ref (ad 104)) hE hK hP 95 (by decide) (xG_1 rfl) rfl hin1 19 (by decide) mw_244 rfl dX1_copyFrom_213 ?_
  refine lv_iconst (v := 0) hE.1 hE.2.1 dX1_copyFrom_216 (by decide) ?_
  refine lv_bipush (v := 8) hE.1 hE.2.1 dX1_copyFrom_217 (by decide) ?_
  refine x_copyi (rest := []) (sp := 0) (dp := 0) (n := 8) hE hl.1 hK hN hP hS mw_678 mw_680 mw_679 mw_130 12 104 (by decide) (by decide) (xG_10 rfl) (fun _ => xG_10 rfl) (by decide) (by decide) (by decide) (by decide) (by decide) (by decide) (by decide) dX1_copyFrom_219 (fun ar_20 H locs har_20 hP hS => ?_)
  exact x_wv hE hr hlo hP hS (fun i j h => ((up_oth hv_11 (fun q => h (by rcases q with ⟨rfl, rfl⟩; decide))).trans ((up_oth hv_10 (fun q => h (by rcases q with ⟨rfl, rfl⟩; decide))).trans ((up_oth hv_9 (fun q => h (by rcases q with ⟨rfl, rfl⟩; decide))).trans ((up_oth hv_8 (fun q => h (by rcases q with ⟨rfl, rfl⟩; decide))).trans ((up_oth hv_7 (fun q => h (by rcases q with ⟨rfl, rfl⟩; decide))).trans ((up_oth hv_6 (fun q => h (by rcases q with ⟨rfl, rfl⟩; decide))).trans ((up_oth hv_5 (fun q => h (by rcases q with ⟨rfl, rfl⟩; decide))).trans ((up_oth hv_4 (fun q => h (by rcases q with ⟨rfl, rfl⟩; decide))).trans ((up_oth hv_3 (fun q => h (by rcases q with ⟨rfl, rfl⟩; decide))).trans ((up_oth hv_2 (fun q => h (by rcases q with ⟨rfl, rfl⟩; decide))).trans (up_oth hv_1 (fun q => h (by rcases q with ⟨rfl, rfl⟩; decide)))))))))))))) dX1_copyFrom_222

set_option maxHeartbeats 4000000 in
set_option maxRecDepth 100000 in
theorem k_X1_copyFrom_114_3 (l : Launch) (D : va_G) (K : Nat → ClassId) (ad : Nat → Nat) (mm : Option Nat) (v ar : sI) (al : sL) : Met l yX1_copyFrom (wM yX1_copyFrom cX1_copyFrom 2 none) (rmD 1) (va_Pc [.ref (ad 114), .ref (ad 3)] (wPre D K ad (xG ad K mm) 132 v ar al)) (va_Qv (fun u : sT => (∀ i j : Nat, (i, j) ∉ ([(114, 0), (114, 1), (114, 2), (114, 3), (114, 4), (114, 5), (114, 6), (114, 7), (114, 8), (114, 9), (114, 10)] : List (Nat × Nat)) → u.1 i j = v i j)) (wB D ad (xG ad K mm) 132) (inW ad 132)) 0 0 (inW ad 132) := by
  refine x_met (by decide) (Nat.le_of_ble_eq_true rfl) ?_
  intro p e s m below meth c ls hE hr hlo hnm hB hl
  have hE : CallFix p m c cX1_copyFrom 2 s _ tbG "TaleCourt$Court" := hE
  obtain ⟨hP, hK, hN⟩ := hB
  have hS : va_S (inW ad 132) s.heap s.heap [] := va_S.rf
  have hl : lv_has ls 2 [(0, .ref (ad 114)), (1, .ref (ad 3))] := hl
  refine lv_aload_n hE.1 hE.2.1 dX1_copyFrom_0 rfl (lv_at hl 0 rfl) ?_
  refine lv_aload_n hE.1 hE.2.1 dX1_copyFrom_1 rfl (lv_at hl 1 rfl) ?_
  refine x_get (x := .int (v 3 0)) hE hK hP 3 (by decide) (xG_1 rfl) rfl hin1 0 (by decide) mw_178 rfl dX1_copyFrom_2 ?_
  refine x_put hE hK hN hP hS 114 (by decide) (xG_1 rfl) rfl hin1 tyX1 tyX1_ok nmX1 0 (by decide) mw_178 rfl rfl rfl (Nat.le_of_ble_eq_true rfl) (xG_1 rfl) dX1_copyFrom_5 (fun v_1 H locs hv_1 hP hS => ?_)
  refine lv_aload_n hE.1 hE.2.1 dX1_copyFrom_8 rfl (lv_at hl 0 rfl) ?_
  refine lv_aload_n hE.1 hE.2.1 dX1_copyFrom_9 rfl (lv_at hl 1 rfl) ?_
  refine x_get (x := .int (v_1 3 1)) hE hK hP 3 (by decide) (xG_1 rfl) rfl hin1 1 (by decide) mw_182 rfl dX1_copyFrom_10 ?_
  refine x_top (y := (v 3 1)) ((up_oth hv_1 (by decide)).trans rfl) ?_
  refine x_put hE hK hN hP hS 114 (by decide) (xG_1 rfl) rfl hin1 tyX1 tyX1_ok nmX1 1 (by decide) mw_182 rfl rfl rfl (Nat.le_of_ble_eq_true rfl) (xG_1 rfl) dX1_copyFrom_13 (fun v_2 H locs hv_2 hP hS => ?_)
  refine lv_aload_n hE.1 hE.2.1 dX1_copyFrom_16 rfl (lv_at hl 0 rfl) ?_
  refine lv_aload_n hE.1 hE.2.1 dX1_copyFrom_17 rfl (lv_at hl 1 rfl) ?_
  refine x_get (x := .int (v_2 3 2)) hE hK hP 3 (by decide) (xG_1 rfl) rfl hin1 2 (by decide) mw_187 rfl dX1_copyFrom_18 ?_
  refine x_top (y := (v 3 2)) ((up_oth hv_2 (by decide)).trans ((up_oth hv_1 (by decide)).trans rfl)) ?_
  refine x_put hE hK hN hP hS 114 (by decide) (xG_1 rfl) rfl hin1 tyX1 tyX1_ok nmX1 2 (by decide) mw_187 rfl rfl rfl (Nat.le_of_ble_eq_true rfl) (xG_1 rfl) dX1_copyFrom_21 (fun v_3 H locs hv_3 hP hS => ?_)
  refine lv_aload_n hE.1 hE.2.1 dX1_copyFrom_24 rfl (lv_at hl 0 rfl) ?_
  refine lv_aload_n hE.1 hE.2.1 dX1_copyFrom_25 rfl (lv_at hl 1 rfl) ?_
  refine x_get (x := .int (v_3 3 3)) hE hK hP 3 (by decide) (xG_1 rfl) rfl hin1 3 (by decide) mw_190 rfl dX1_copyFrom_26 ?_
  refine x_top (y := (v 3 3)) ((up_oth hv_3 (by decide)).trans ((up_oth hv_2 (by decide)).trans ((up_oth hv_1 (by decide)).trans rfl))) ?_
  refine x_put hE hK hN hP hS 114 (by decide) (xG_1 rfl) rfl hin1 tyX1 tyX1_ok nmX1 3 (by decide) mw_190 rfl rfl rfl (Nat.le_of_ble_eq_true rfl) (xG_1 rfl) dX1_copyFrom_29 (fun v_4 H locs hv_4 hP hS => ?_)
  refine lv_aload_n hE.1 hE.2.1 dX1_copyFrom_32 rfl (lv_at hl 0 rfl) ?_
  refine lv_aload_n hE.1 hE.2.1 dX1_copyFrom_33 rfl (lv_at hl 1 rfl) ?_
  refine x_get (x := .int (v_4 3 4)) hE hK hP 3 (by decide) (xG_1 rfl) rfl hin1 4 (by decide) mw_194 rfl dX1_copyFrom_34 ?_
  refine x_top (y := (v 3 4)) ((up_oth hv_4 (by decide)).trans ((up_oth hv_3 (by decide)).trans ((up_oth hv_2 (by decide)).trans ((up_oth hv_1 (by decide)).trans rfl)))) ?_
  refine x_put hE hK hN hP hS 114 (by decide) (xG_1 rfl) rfl hin1 tyX1 tyX1_ok nmX1 4 (by decide) mw_194 rfl rfl rfl (Nat.le_of_ble_eq_true rfl) (xG_1 rfl) dX1_copyFrom_37 (fun v_5 H locs hv_5 hP hS => ?_)
  refine lv_aload_n hE.1 hE.2.1 dX1_copyFrom_40 rfl (lv_at hl 0 rfl) ?_
  refine lv_aload_n hE.1 hE.2.1 dX1_copyFrom_41 rfl (lv_at hl 1 rfl) ?_
  refine x_get (x := .int (v_5 3 5)) hE hK hP 3 (by decide) (xG_1 rfl) rfl hin1 5 (by decide) mw_197 rfl dX1_copyFrom_42 ?_
  refine x_top (y := (v 3 5)) ((up_oth hv_5 (by decide)).trans ((up_oth hv_4 (by decide)).trans ((up_oth hv_3 (by decide)).trans ((up_oth hv_2 (by decide)).trans ((up_oth hv_1 (by decide)).trans rfl))))) ?_
  refine x_put hE hK hN hP hS 114 (by decide) (xG_1 rfl) rfl hin1 tyX1 tyX1_ok nmX1 5 (by decide) mw_197 rfl rfl rfl (Nat.le_of_ble_eq_true rfl) (xG_1 rfl) dX1_copyFrom_45 (fun v_6 H locs hv_6 hP hS => ?_)
  refine lv_aload_n hE.1 hE.2.1 dX1_copyFrom_48 rfl (lv_at hl 0 rfl) ?_
  refine lv_aload_n hE.1 hE.2.1 dX1_copyFrom_49 rfl (lv_at hl 1 rfl) ?_
  refine x_get (x := .int (v_6 3 6)) hE hK hP 3 (by decide) (xG_1 rfl) rfl hin1 6 (by decide) mw_200 rfl dX1_copyFrom_50 ?_
  refine x_top (y := (v 3 6)) ((up_oth hv_6 (by decide)).trans ((up_oth hv_5 (by decide)).trans ((up_oth hv_4 (by decide)).trans ((up_oth hv_3 (by decide)).trans ((up_oth hv_2 (by decide)).trans ((up_oth hv_1 (by decide)).trans rfl)))))) ?_
  refine x_put hE hK hN hP hS 114 (by decide) (xG_1 rfl) rfl hin1 tyX1 tyX1_ok nmX1 6 (by decide) mw_200 rfl rfl rfl (Nat.le_of_ble_eq_true rfl) (xG_1 rfl) dX1_copyFrom_53 (fun v_7 H locs hv_7 hP hS => ?_)
  refine lv_aload_n hE.1 hE.2.1 dX1_copyFrom_56 rfl (lv_at hl 0 rfl) ?_
  refine lv_aload_n hE.1 hE.2.1 dX1_copyFrom_57 rfl (lv_at hl 1 rfl) ?_
  refine x_get (x := .int (v_7 3 7)) hE hK hP 3 (by decide) (xG_1 rfl) rfl hin1 7 (by decide) mw_203 rfl dX1_copyFrom_58 ?_
  refine x_top (y := (v 3 7)) ((up_oth hv_7 (by decide)).trans ((up_oth hv_6 (by decide)).trans ((up_oth hv_5 (by decide)).trans ((up_oth hv_4 (by decide)).trans ((up_oth hv_3 (by decide)).trans ((up_oth hv_2 (by decide)).trans ((up_oth hv_1 (by decide)).trans rfl))))))) ?_
  refine x_put hE hK hN hP hS 114 (by decide) (xG_1 rfl) rfl hin1 tyX1 tyX1_ok nmX1 7 (by decide) mw_203 rfl rfl rfl (Nat.le_of_ble_eq_true rfl) (xG_1 rfl) dX1_copyFrom_61 (fun v_8 H locs hv_8 hP hS => ?_)
  refine lv_aload_n hE.1 hE.2.1 dX1_copyFrom_64 rfl (lv_at hl 0 rfl) ?_
  refine lv_aload_n hE.1 hE.2.1 dX1_copyFrom_65 rfl (lv_at hl 1 rfl) ?_
  refine x_get (x := .int (v_8 3 8)) hE hK hP 3 (by decide) (xG_1 rfl) rfl hin1 8 (by decide) mw_207 rfl dX1_copyFrom_66 ?_
  refine x_top (y := (v 3 8)) ((up_oth hv_8 (by decide)).trans ((up_oth hv_7 (by decide)).trans ((up_oth hv_6 (by decide)).trans ((up_oth hv_5 (by decide)).trans ((up_oth hv_4 (by decide)).trans ((up_oth hv_3 (by decide)).trans ((up_oth hv_2 (by decide)).trans ((up_oth hv_1 (by decide)).trans rfl)))))))) ?_
  refine x_put hE hK hN hP hS 114 (by decide) (xG_1 rfl) rfl hin1 tyX1 tyX1_ok nmX1 8 (by decide) mw_207 rfl rfl rfl (Nat.le_of_ble_eq_true rfl) (xG_1 rfl) dX1_copyFrom_69 (fun v_9 H locs hv_9 hP hS => ?_)
  refine lv_aload_n hE.1 hE.2.1 dX1_copyFrom_72 rfl (lv_at hl 0 rfl) ?_
  refine lv_aload_n hE.1 hE.2.1 dX1_copyFrom_73 rfl (lv_at hl 1 rfl) ?_
  refine x_get (x := .int (v_9 3 9)) hE hK hP 3 (by decide) (xG_1 rfl) rfl hin1 9 (by decide) mw_211 rfl dX1_copyFrom_74 ?_
  refine x_top (y := (v 3 9)) ((up_oth hv_9 (by decide)).trans ((up_oth hv_8 (by decide)).trans ((up_oth hv_7 (by decide)).trans ((up_oth hv_6 (by decide)).trans ((up_oth hv_5 (by decide)).trans ((up_oth hv_4 (by decide)).trans ((up_oth hv_3 (by decide)).trans ((up_oth hv_2 (by decide)).trans ((up_oth hv_1 (by decide)).trans rfl))))))))) ?_
  refine x_put hE hK hN hP hS 114 (by decide) (xG_1 rfl) rfl hin1 tyX1 tyX1_ok nmX1 9 (by decide) mw_211 rfl rfl rfl (Nat.le_of_ble_eq_true rfl) (xG_1 rfl) dX1_copyFrom_77 (fun v_10 H locs hv_10 hP hS => ?_)
  refine lv_aload_n hE.1 hE.2.1 dX1_copyFrom_80 rfl (lv_at hl 0 rfl) ?_
  refine lv_aload_n hE.1 hE.2.1 dX1_copyFrom_81 rfl (lv_at hl 1 rfl) ?_
  refine x_get (x := .int (v_10 3 10)) hE hK hP 3 (by decide) (xG_1 rfl) rfl hin1 10 (by decide) mw_214 rfl dX1_copyFrom_82 ?_
  refine x_top (y := (v 3 10)) ((up_oth hv_10 (by decide)).trans ((up_oth hv_9 (by decide)).trans ((up_oth hv_8 (by decide)).trans ((up_oth hv_7 (by decide)).trans ((up_oth hv_6 (by decide)).trans ((up_oth hv_5 (by decide)).trans ((up_oth hv_4 (by decide)).trans ((up_oth hv_3 (by decide)).trans ((up_oth hv_2 (by decide)).trans ((up_oth hv_1 (by decide)).trans rfl)))))))))) ?_
  refine x_put hE hK hN hP hS 114 (by decide) (xG_1 rfl) rfl hin1 tyX1 tyX1_ok nmX1 10 (by decide) mw_214 rfl rfl rfl (Nat.le_of_ble_eq_true rfl) (xG_1 rfl) dX1_copyFrom_85 (fun v_11 H locs hv_11 hP hS => ?_)
  refine lv_aload_n hE.1 hE.2.1 dX1_copyFrom_88 rfl (lv_at hl 1 rfl) ?_
  refine x_get (x := .ref (ad 4)) hE hK hP 3 (by decide) (xG_1 rfl) rfl hin1 11 (by decide) mw_218 rfl dX1_copyFrom_89 ?_
  refine lv_iconst (v := 0) hE.1 hE.2.1 dX1_copyFrom_92 (by decide) ?_
  refine lv_aload_n hE.1 hE.2.1 dX1_copyFrom_93 rfl (lv_at hl 0 rfl) ?_
  refine x_get (x := .ref (ad 115)) hE hK hP 114 (by decide) (xG_1 rfl) rfl hin1 11 (by decide) mw_218 rfl dX1_copyFrom_94 ?_
  refine lv_iconst (v := 0) hE.1 hE.2.1 dX1_copyFrom_97 (by decide) ?_
  refine lv_bipush (v := 9) hE.1 hE.2.1 dX1_copyFrom_98 (by decide) ?_
  refine x_copyi (rest := []) (sp := 0) (dp := 0) (n := 9) hE hl.1 hK hN hP hS mw_678 mw_680 mw_679 mw_130 4 115 (by decide) (by decide) (xG_10 rfl) (fun _ => xG_10 rfl) (by decide) (by decide) (by decide) (by decide) (by decide) (by decide) (by decide) dX1_copyFrom_100 (fun ar_12 H locs har_12 hP hS => ?_)
  refine lv_aload_n hE.1 hE.2.1 dX1_copyFrom_103 rfl (lv_at hl 1 rfl) ?_
  refine x_get (x := .ref (ad 5)) hE hK hP 3 (by decide) (xG_1 rfl) rfl hin1 12 (by decide) mw_221 rfl dX1_copyFrom_104 ?_
  refine lv_iconst (v := 0) hE.1 hE.2.1 dX1_copyFrom_107 (by decide) ?_
  refine lv_aload_n hE.1 hE.2.1 dX1_copyFrom_108 rfl (lv_at hl 0 rfl) ?_
  refine x_get (x := .ref (ad 116)) hE hK hP 114 (by decide) (xG_1 rfl) rfl hin1 12 (by decide) mw_221 rfl dX1_copyFrom_109 ?_
  refine lv_iconst (v := 0) hE.1 hE.2.1 dX1_copyFrom_112 (by decide) ?_
  refine lv_bipush (v := 9) hE.1 hE.2.1 dX1_copyFrom_113 (by decide) ?_
  refine x_copyi (rest := []) (sp := 0) (dp := 0) (n := 9) hE hl.1 hK hN hP hS mw_678 mw_680 mw_679 mw_130 5 116 (by decide) (by decide) (xG_10 rfl) (fun _ => xG_10 rfl) (by decide) (by decide) (by decide) (by decide) (by decide) (by decide) (by decide) dX1_copyFrom_115 (fun ar_13 H locs har_13 hP hS => ?_)
  refine lv_aload_n hE.1 hE.2.1 dX1_copyFrom_118 rfl (lv_at hl 1 rfl) ?_
  refine x_get (x := .ref (ad 6)) hE hK hP 3 (by decide) (xG_1 rfl) rfl hin1 13 (by decide) mw_225 rfl dX1_copyFrom_119 ?_
  refine lv_iconst (v := 0) hE.1 hE.2.1 dX1_copyFrom_122 (by decide) ?_
  refine lv_aload_n hE.1 hE.2.1 dX1_copyFrom_123 rfl (lv_at hl 0 rfl) ?_
  refine x_get (x := .ref (ad 117)) hE hK hP 114 (by decide) (xG_1 rfl) rfl hin1 13 (by decide) mw_225 rfl dX1_copyFrom_124 ?_
  refine lv_iconst (v := 0) hE.1 hE.2.1 dX1_copyFrom_127 (by decide) ?_
  refine lv_bipush (v := 9) hE.1 hE.2.1 dX1_copyFrom_128 (by decide) ?_
  refine x_copyi (rest := []) (sp := 0) (dp := 0) (n := 9) hE hl.1 hK hN hP hS mw_678 mw_680 mw_679 mw_130 6 117 (by decide) (by decide) (xG_10 rfl) (fun _ => xG_10 rfl) (by decide) (by decide) (by decide) (by decide) (by decide) (by decide) (by decide) dX1_copyFrom_130 (fun ar_14 H locs har_14 hP hS => ?_)
  refine lv_aload_n hE.1 hE.2.1 dX1_copyFrom_133 rfl (lv_at hl 1 rfl) ?_
  refine x_get (x := .ref (ad 7)) hE hK hP 3 (by decide) (xG_1 rfl) rfl hin1 14 (by decide) mw_229 rfl dX1_copyFrom_134 ?_
  refine lv_iconst (v := 0) hE.1 hE.2.1 dX1_copyFrom_137 (by decide) ?_
  refine lv_aload_n hE.1 hE.2.1 dX1_copyFrom_138 rfl (lv_at hl 0 rfl) ?_
  refine x_get (x := .ref (ad 118)) hE hK hP 114 (by decide) (xG_1 rfl) rfl hin1 14 (by decide) mw_229 rfl dX1_copyFrom_139 ?_
  refine lv_iconst (v := 0) hE.1 hE.2.1 dX1_copyFrom_142 (by decide) ?_
  refine lv_bipush (v := 9) hE.1 hE.2.1 dX1_copyFrom_143 (by decide) ?_
  refine x_copyi (rest := []) (sp := 0) (dp := 0) (n := 9) hE hl.1 hK hN hP hS mw_678 mw_680 mw_679 mw_130 7 118 (by decide) (by decide) (xG_10 rfl) (fun _ => xG_10 rfl) (by decide) (by decide) (by decide) (by decide) (by decide) (by decide) (by decide) dX1_copyFrom_145 (fun ar_15 H locs har_15 hP hS => ?_)
  refine lv_aload_n hE.1 hE.2.1 dX1_copyFrom_148 rfl (lv_at hl 1 rfl) ?_
  refine x_get (x := .ref (ad 8)) hE hK hP 3 (by decide) (xG_1 rfl) rfl hin1 15 (by decide) mw_231 rfl dX1_copyFrom_149 ?_
  refine lv_iconst (v := 0) hE.1 hE.2.1 dX1_copyFrom_152 (by decide) ?_
  refine lv_aload_n hE.1 hE.2.1 dX1_copyFrom_153 rfl (lv_at hl 0 rfl) ?_
  refine x_get (x := .ref (ad 119)) hE hK hP 114 (by decide) (xG_1 rfl) rfl hin1 15 (by decide) mw_231 rfl dX1_copyFrom_154 ?_
  refine lv_iconst (v := 0) hE.1 hE.2.1 dX1_copyFrom_157 (by decide) ?_
  refine lv_bipush (v := 9) hE.1 hE.2.1 dX1_copyFrom_158 (by decide) ?_
  refine x_copyi (rest := []) (sp := 0) (dp := 0) (n := 9) hE hl.1 hK hN hP hS mw_678 mw_680 mw_679 mw_130 8 119 (by decide) (by decide) (xG_10 rfl) (fun _ => xG_10 rfl) (by decide) (by decide) (by decide) (by decide) (by decide) (by decide) (by decide) dX1_copyFrom_160 (fun ar_16 H locs har_16 hP hS => ?_)
  refine lv_aload_n hE.1 hE.2.1 dX1_copyFrom_163 rfl (lv_at hl 1 rfl) ?_
  refine x_get (x := .ref (ad 9)) hE hK hP 3 (by decide) (xG_1 rfl) rfl hin1 16 (by decide) mw_235 rfl dX1_copyFrom_164 ?_
  refine lv_iconst (v := 0) hE.1 hE.2.1 dX1_copyFrom_167 (by decide) ?_
  refine lv_aload_n hE.1 hE.2.1 dX1_copyFrom_168 rfl (lv_at hl 0 rfl) ?_
  refine x_get (x := .ref (ad 120)) hE hK hP 114 (by decide) (xG_1 rfl) rfl hin1 16 (by decide) mw_235 rfl dX1_copyFrom_169 ?_
  refine lv_iconst (v := 0) hE.1 hE.2.1 dX1_copyFrom_172 (by decide) ?_
  refine lv_bipush (v := 9) hE.1 hE.2.1 dX1_copyFrom_173 (by decide) ?_
  refine x_copyi (rest := []) (sp := 0) (dp := 0) (n := 9) hE hl.1 hK hN hP hS mw_678 mw_680 mw_679 mw_130 9 120 (by decide) (by decide) (xG_10 rfl) (fun _ => xG_10 rfl) (by decide) (by decide) (by decide) (by decide) (by decide) (by decide) (by decide) dX1_copyFrom_175 (fun ar_17 H locs har_17 hP hS => ?_)
  refine lv_aload_n hE.1 hE.2.1 dX1_copyFrom_178 rfl (lv_at hl 1 rfl) ?_
  refine x_get (x := .ref (ad 10)) hE hK hP 3 (by decide) (xG_1 rfl) rfl hin1 17 (by decide) mw_239 rfl dX1_copyFrom_179 ?_
  refine lv_iconst (v := 0) hE.1 hE.2.1 dX1_copyFrom_182 (by decide) ?_
  refine lv_aload_n hE.1 hE.2.1 dX1_copyFrom_183 rfl (lv_at hl 0 rfl) ?_
  refine x_get (x := .ref (ad 121)) hE hK hP 114 (by decide) (xG_1 rfl) rfl hin1 17 (by decide) mw_239 rfl dX1_copyFrom_184 ?_
  refine lv_iconst (v := 0) hE.1 hE.2.1 dX1_copyFrom_187 (by decide) ?_
  refine lv_iconst (v := 3) hE.1 hE.2.1 dX1_copyFrom_188 (by decide) ?_
  refine x_copyi (rest := []) (sp := 0) (dp := 0) (n := 3) hE hl.1 hK hN hP hS mw_678 mw_680 mw_679 mw_130 10 121 (by decide) (by decide) (xG_10 rfl) (fun _ => xG_10 rfl) (by decide) (by decide) (by decide) (by decide) (by decide) (by decide) (by decide) dX1_copyFrom_189 (fun ar_18 H locs har_18 hP hS => ?_)
  refine lv_aload_n hE.1 hE.2.1 dX1_copyFrom_192 rfl (lv_at hl 1 rfl) ?_
  refine x_get (x := .ref (ad 11)) hE hK hP 3 (by decide) (xG_1 rfl) rfl hin1 18 (by decide) mw_241 rfl dX1_copyFrom_193 ?_
  refine lv_iconst (v := 0) hE.1 hE.2.1 dX1_copyFrom_196 (by decide) ?_
  refine lv_aload_n hE.1 hE.2.1 dX1_copyFrom_197 rfl (lv_at hl 0 rfl) ?_
  refine x_get (x := .ref (ad 122)) hE hK hP 114 (by decide) (xG_1 rfl) rfl hin1 18 (by decide) mw_241 rfl dX1_copyFrom_198 ?_
  refine lv_iconst (v := 0) hE.1 hE.2.1 dX1_copyFrom_201 (by decide) ?_
  refine lv_bipush (v := 8) hE.1 hE.2.1 dX1_copyFrom_202 (by decide) ?_
  refine x_copyi (rest := []) (sp := 0) (dp := 0) (n := 8) hE hl.1 hK hN hP hS mw_678 mw_680 mw_679 mw_130 11 122 (by decide) (by decide) (xG_10 rfl) (fun _ => xG_10 rfl) (by decide) (by decide) (by decide) (by decide) (by decide) (by decide) (by decide) dX1_copyFrom_204 (fun ar_19 H locs har_19 hP hS => ?_)
  refine lv_aload_n hE.1 hE.2.1 dX1_copyFrom_207 rfl (lv_at hl 1 rfl) ?_
  refine x_get (x := .ref (ad 12)) hE hK hP 3 (by decide) (xG_1 rfl) rfl hin1 19 (by decide) mw_244 rfl dX1_copyFrom_208 ?_
  refine lv_iconst (v := 0) hE.1 hE.2.1 dX1_copyFrom_211 (by decide) ?_
  refine lv_aload_n hE.1 hE.2.1 dX1_copyFrom_212 rfl (lv_at hl 0 rfl) ?_
  refine x_get (x := .ref (ad 123)) hE hK hP 114 (by decide) (xG_1 rfl) rfl hin1 19 (by decide) mw_244 rfl dX1_copyFrom_213 ?_
  refine lv_iconst (v := 0) hE.1 hE.2.1 dX1_copyFrom_216 (by decide) ?_
  refine lv_bipush (v := 8) hE.1 hE.2.1 dX1_copyFrom_217 (by decide) ?_
  refine x_copyi (rest := []) (sp := 0) (dp := 0) (n := 8) hE hl.1 hK hN hP hS mw_678 mw_680 mw_679 mw_130 12 123 (by decide) (by decide) (xG_10 rfl) (fun _ => xG_10 rfl) (by decide) (by decide) (by decide) (by decide) (by decide) (by decide) (by decide) dX1_copyFrom_219 (fun ar_20 H locs har_20 hP hS => ?_)
  exact x_wv hE hr hlo hP hS (fun i j h => ((up_oth hv_11 (fun q => h (by rcases q with ⟨rfl, rfl⟩; decide))).trans ((up_oth hv_10 (fun q => h (by rcases q with ⟨rfl, rfl⟩; decide))).trans ((up_oth hv_9 (fun q => h (by rcases q with ⟨rfl, rfl⟩; decide))).trans ((up_oth hv_8 (fun q => h (by rcases q with ⟨rfl, rfl⟩; decide))).trans ((up_oth hv_7 (fun q => h (by rcases q with ⟨rfl, rfl⟩; decide))).trans ((up_oth hv_6 (fun q => h (by rcases q with ⟨rfl, rfl⟩; decide))).trans ((up_oth hv_5 (fun q => h (by rcases q with ⟨rfl, rfl⟩; decide))).trans ((up_oth hv_4 (fun q => h (by rcases q with ⟨rfl, rfl⟩; decide))).trans ((up_oth hv_3 (fun q => h (by rcases q with ⟨rfl, rfl⟩; decide))).trans ((up_oth hv_2 (fun q => h (by rcases q with ⟨rfl, rfl⟩; decide))).trans (up_oth hv_1 (fun q => h (by rcases q with ⟨rfl, rfl⟩; decide)))))))))))))) dX1_copyFrom_222

theorem dX7_copyFrom_0 : decode cX7_copyFrom 0 = .ok (.aload_n 0, 1) := by decide +kernel
theorem dX7_copyFrom_1 : decode cX7_copyFrom 1 = .ok (.aload_n 1, 1) := by decide +kernel
theorem dX7_copyFrom_2 : decode cX7_copyFrom 2 = .ok (.getfield 41, 3) := by decide +kernel
theorem dX7_copyFrom_5 : decode cX7_copyFrom 5 = .ok (.putfield 41, 3) := by decide +kernel
theorem dX7_copyFrom_8 : decode cX7_copyFrom 8 = .ok (.aload_n 0, 1) := by decide +kernel
theorem dX7_copyFrom_9 : decode cX7_copyFrom 9 = .ok (.aload_n 1, 1) := by decide +kernel
theorem dX7_copyFrom_10 : decode cX7_copyFrom 10 = .ok (.getfield 44, 3) := by decide +kernel
theorem dX7_copyFrom_13 : decode cX7_copyFrom 13 = .ok (.putfield 44, 3) := by decide +kernel
theorem dX7_copyFrom_16 : decode cX7_copyFrom 16 = .ok (.aload_n 0, 1) := by decide +kernel
theorem dX7_copyFrom_17 : decode cX7_copyFrom 17 = .ok (.aload_n 1, 1) := by decide +kernel
theorem dX7_copyFrom_18 : decode cX7_copyFrom 18 = .ok (.getfield 18, 3) := by decide +kernel
theorem dX7_copyFrom_21 : decode cX7_copyFrom 21 = .ok (.putfield 18, 3) := by decide +kernel
theorem dX7_copyFrom_24 : decode cX7_copyFrom 24 = .ok (.aload_n 0, 1) := by decide +kernel
theorem dX7_copyFrom_25 : decode cX7_copyFrom 25 = .ok (.aload_n 1, 1) := by decide +kernel
theorem dX7_copyFrom_26 : decode cX7_copyFrom 26 = .ok (.getfield 47, 3) := by decide +kernel
theorem dX7_copyFrom_29 : decode cX7_copyFrom 29 = .ok (.putfield 47, 3) := by decide +kernel
theorem dX7_copyFrom_32 : decode cX7_copyFrom 32 = .ok (.aload_n 0, 1) := by decide +kernel
theorem dX7_copyFrom_33 : decode cX7_copyFrom 33 = .ok (.aload_n 1, 1) := by decide +kernel
theorem dX7_copyFrom_34 : decode cX7_copyFrom 34 = .ok (.getfield 50, 3) := by decide +kernel
theorem dX7_copyFrom_37 : decode cX7_copyFrom 37 = .ok (.putfield 50, 3) := by decide +kernel
theorem dX7_copyFrom_40 : decode cX7_copyFrom 40 = .ok (.aload_n 0, 1) := by decide +kernel
theorem dX7_copyFrom_41 : decode cX7_copyFrom 41 = .ok (.aload_n 1, 1) := by decide +kernel
theorem dX7_copyFrom_42 : decode cX7_copyFrom 42 = .ok (.getfield 53, 3) := by decide +kernel
theorem dX7_copyFrom_45 : decode cX7_copyFrom 45 = .ok (.putfield 53, 3) := by decide +kernel
theorem dX7_copyFrom_48 : decode cX7_copyFrom 48 = .ok (.aload_n 1, 1) := by decide +kernel
theorem dX7_copyFrom_49 : decode cX7_copyFrom 49 = .ok (.getfield 9, 3) := by decide +kernel
theorem dX7_copyFrom_52 : decode cX7_copyFrom 52 = .ok (.iconst 0, 1) := by decide +kernel
theorem dX7_copyFrom_53 : decode cX7_copyFrom 53 = .ok (.aload_n 0, 1) := by decide +kernel
theorem dX7_copyFrom_54 : decode cX7_copyFrom 54 = .ok (.getfield 9, 3) := by decide +kernel
theorem dX7_copyFrom_57 : decode cX7_copyFrom 57 = .ok (.iconst 0, 1) := by decide +kernel
theorem dX7_copyFrom_58 : decode cX7_copyFrom 58 = .ok (.bipush 18, 2) := by decide +kernel
theorem dX7_copyFrom_60 : decode cX7_copyFrom 60 = .ok (.invokestatic 62, 3) := by decide +kernel
theorem dX7_copyFrom_63 : decode cX7_copyFrom 63 = .ok (.aload_n 1, 1) := by decide +kernel
theorem dX7_copyFrom_64 : decode cX7_copyFrom 64 = .ok (.getfield 15, 3) := by decide +kernel
theorem dX7_copyFrom_67 : decode cX7_copyFrom 67 = .ok (.iconst 0, 1) := by decide +kernel
theorem dX7_copyFrom_68 : decode cX7_copyFrom 68 = .ok (.aload_n 0, 1) := by decide +kernel
theorem dX7_copyFrom_69 : decode cX7_copyFrom 69 = .ok (.getfield 15, 3) := by decide +kernel
theorem dX7_copyFrom_72 : decode cX7_copyFrom 72 = .ok (.iconst 0, 1) := by decide +kernel
theorem dX7_copyFrom_73 : decode cX7_copyFrom 73 = .ok (.bipush 9, 2) := by decide +kernel
theorem dX7_copyFrom_75 : decode cX7_copyFrom 75 = .ok (.invokestatic 62, 3) := by decide +kernel
theorem dX7_copyFrom_78 : decode cX7_copyFrom 78 = .ok (.aload_n 1, 1) := by decide +kernel
theorem dX7_copyFrom_79 : decode cX7_copyFrom 79 = .ok (.getfield 22, 3) := by decide +kernel
theorem dX7_copyFrom_82 : decode cX7_copyFrom 82 = .ok (.iconst 0, 1) := by decide +kernel
theorem dX7_copyFrom_83 : decode cX7_copyFrom 83 = .ok (.aload_n 0, 1) := by decide +kernel
theorem dX7_copyFrom_84 : decode cX7_copyFrom 84 = .ok (.getfield 22, 3) := by decide +kernel
theorem dX7_copyFrom_87 : decode cX7_copyFrom 87 = .ok (.iconst 0, 1) := by decide +kernel
theorem dX7_copyFrom_88 : decode cX7_copyFrom 88 = .ok (.iconst 3, 1) := by decide +kernel
theorem dX7_copyFrom_89 : decode cX7_copyFrom 89 = .ok (.invokestatic 62, 3) := by decide +kernel
theorem dX7_copyFrom_92 : decode cX7_copyFrom 92 = .ok (.aload_n 1, 1) := by decide +kernel
theorem dX7_copyFrom_93 : decode cX7_copyFrom 93 = .ok (.getfield 25, 3) := by decide +kernel
theorem dX7_copyFrom_96 : decode cX7_copyFrom 96 = .ok (.iconst 0, 1) := by decide +kernel
theorem dX7_copyFrom_97 : decode cX7_copyFrom 97 = .ok (.aload_n 0, 1) := by decide +kernel
theorem dX7_copyFrom_98 : decode cX7_copyFrom 98 = .ok (.getfield 25, 3) := by decide +kernel
theorem dX7_copyFrom_101 : decode cX7_copyFrom 101 = .ok (.iconst 0, 1) := by decide +kernel
theorem dX7_copyFrom_102 : decode cX7_copyFrom 102 = .ok (.bipush 18, 2) := by decide +kernel
theorem dX7_copyFrom_104 : decode cX7_copyFrom 104 = .ok (.invokestatic 62, 3) := by decide +kernel
theorem dX7_copyFrom_107 : decode cX7_copyFrom 107 = .ok (.aload_n 1, 1) := by decide +kernel
theorem dX7_copyFrom_108 : decode cX7_copyFrom 108 = .ok (.getfield 28, 3) := by decide +kernel
theorem dX7_copyFrom_111 : decode cX7_copyFrom 111 = .ok (.iconst 0, 1) := by decide +kernel
theorem dX7_copyFrom_112 : decode cX7_copyFrom 112 = .ok (.aload_n 0, 1) := by decide +kernel
theorem dX7_copyFrom_113 : decode cX7_copyFrom 113 = .ok (.getfield 28, 3) := by decide +kernel
theorem dX7_copyFrom_116 : decode cX7_copyFrom 116 = .ok (.iconst 0, 1) := by decide +kernel
theorem dX7_copyFrom_117 : decode cX7_copyFrom 117 = .ok (.bipush 18, 2) := by decide +kernel
theorem dX7_copyFrom_119 : decode cX7_copyFrom 119 = .ok (.invokestatic 62, 3) := by decide +kernel
theorem dX7_copyFrom_122 : decode cX7_copyFrom 122 = .ok (.aload_n 1, 1) := by decide +kernel
theorem dX7_copyFrom_123 : decode cX7_copyFrom 123 = .ok (.getfield 31, 3) := by decide +kernel
theorem dX7_copyFrom_126 : decode cX7_copyFrom 126 = .ok (.iconst 0, 1) := by decide +kernel
theorem dX7_copyFrom_127 : decode cX7_copyFrom 127 = .ok (.aload_n 0, 1) := by decide +kernel
theorem dX7_copyFrom_128 : decode cX7_copyFrom 128 = .ok (.getfield 31, 3) := by decide +kernel
theorem dX7_copyFrom_131 : decode cX7_copyFrom 131 = .ok (.iconst 0, 1) := by decide +kernel
theorem dX7_copyFrom_132 : decode cX7_copyFrom 132 = .ok (.bipush 18, 2) := by decide +kernel
theorem dX7_copyFrom_134 : decode cX7_copyFrom 134 = .ok (.invokestatic 62, 3) := by decide +kernel
theorem dX7_copyFrom_137 : decode cX7_copyFrom 137 = .ok (.aload_n 1, 1) := by decide +kernel
theorem dX7_copyFrom_138 : decode cX7_copyFrom 138 = .ok (.getfield 34, 3) := by decide +kernel
theorem dX7_copyFrom_141 : decode cX7_copyFrom 141 = .ok (.iconst 0, 1) := by decide +kernel
theorem dX7_copyFrom_142 : decode cX7_copyFrom 142 = .ok (.aload_n 0, 1) := by decide +kernel
theorem dX7_copyFrom_143 : decode cX7_copyFrom 143 = .ok (.getfield 34, 3) := by decide +kernel
theorem dX7_copyFrom_146 : decode cX7_copyFrom 146 = .ok (.iconst 0, 1) := by decide +kernel
theorem dX7_copyFrom_147 : decode cX7_copyFrom 147 = .ok (.bipush 18, 2) := by decide +kernel
theorem dX7_copyFrom_149 : decode cX7_copyFrom 149 = .ok (.invokestatic 62, 3) := by decide +kernel
theorem dX7_copyFrom_152 : decode cX7_copyFrom 152 = .ok (.return_, 1) := by decide +kernel
set_option maxHeartbeats 4000000 in
set_option maxRecDepth 100000 in
theorem k_X7_copyFrom_86_23 (l : Launch) (D : va_G) (K : Nat → ClassId) (ad : Nat → Nat) (mm : Option Nat) (v ar : sI) (al : sL) : Met l yX7_copyFrom (wM yX7_copyFrom cX7_copyFrom 2 none) (rmD 1) (va_Pc [.ref (ad 86), .ref (ad 23)] (wPre D K ad (xG ad K mm) 132 v ar al)) (va_Qv (fun u : sT => (∀ i j : Nat, (i, j) ∉ ([(86, 2), (86, 3), (86, 4), (86, 5), (86, 8), (86, 9)] : List (Nat × Nat)) → u.1 i j = v i j)) (wB D ad (xG ad K mm) 132) (inW ad 132)) 0 0 (inW ad 132) := by
  refine x_met (by decide) (Nat.le_of_ble_eq_true rfl) ?_
  intro p e s m below meth c ls hE hr hlo hnm hB hl
  have hE : CallFix p m c cX7_copyFrom 2 s _ tbG "TaleCourt$Telling" := hE
  obtain ⟨hP, hK, hN⟩ := hB
  have hS : va_S (inW ad 132) s.heap s.heap [] := va_S.rf
  have hl : lv_has ls 2 [(0, .ref (ad 86)), (1, .ref (ad 23))] := hl
  refine lv_aload_n hE.1 hE.2.1 dX7_copyFrom_0 rfl (lv_at hl 0 rfl) ?_
  refine lv_aload_n hE.1 hE.2.1 dX7_copyFrom_1 rfl (lv_at hl 1 rfl) ?_
  refine x_get (x := .int (v 23 2)) hE hK hP 23 (by decide) (xG_7 rfl) rfl hin7 2 (by decide) mw_301 rfl dX7_copyFrom_2 ?_
  refine x_put hE hK hN hP hS 86 (by decide) (xG_7 rfl) rfl hin7 tyX7 tyX7_ok nmX7 2 (by decide) mw_301 rfl rfl rfl (Nat.le_of_ble_eq_true rfl) (xG_7 rfl) dX7_copyFrom_5 (fun v_1 H locs hv_1 hP hS => ?_)
  refine lv_aload_n hE.1 hE.2.1 dX7_copyFrom_8 rfl (lv_at hl 0 rfl) ?_
  refine lv_aload_n hE.1 hE.2.1 dX7_copyFrom_9 rfl (lv_at hl 1 rfl) ?_
  refine x_get (x := .int (v_1 23 3)) hE hK hP 23 (by decide) (xG_7 rfl) rfl hin7 3 (by decide) mw_305 rfl dX7_copyFrom_10 ?_
  refine x_top (y := (v 23 3)) ((up_oth hv_1 (by decide)).trans rfl) ?_
  refine x_put hE hK hN hP hS 86 (by decide) (xG_7 rfl) rfl hin7 tyX7 tyX7_ok nmX7 3 (by decide) mw_305 rfl rfl rfl (Nat.le_of_ble_eq_true rfl) (xG_7 rfl) dX7_copyFrom_13 (fun v_2 H locs hv_2 hP hS => ?_)
  refine lv_aload_n hE.1 hE.2.1 dX7_copyFrom_16 rfl (lv_at hl 0 rfl) ?_
  refine lv_aload_n hE.1 hE.2.1 dX7_copyFrom_17 rfl (lv_at hl 1 rfl) ?_
  refine x_get (x := .int (v_2 23 4)) hE hK hP 23 (by decide) (xG_7 rfl) rfl hin7 4 (by decide) mw_309 rfl dX7_copyFrom_18 ?_
  refine x_top (y := (v 23 4)) ((up_oth hv_2 (by decide)).trans ((up_oth hv_1 (by decide)).trans rfl)) ?_
  refine x_put hE hK hN hP hS 86 (by decide) (xG_7 rfl) rfl hin7 tyX7 tyX7_ok nmX7 4 (by decide) mw_309 rfl rfl rfl (Nat.le_of_ble_eq_true rfl) (xG_7 rfl) dX7_copyFrom_21 (fun v_3 H locs hv_3 hP hS => ?_)
  refine lv_aload_n hE.1 hE.2.1 dX7_copyFrom_24 rfl (lv_at hl 0 rfl) ?_
  refine lv_aload_n hE.1 hE.2.1 dX7_copyFrom_25 rfl (lv_at hl 1 rfl) ?_
  refine x_get (x := .int (v_3 23 5)) hE hK hP 23 (by decide) (xG_7 rfl) rfl hin7 5 (by decide) mw_312 rfl dX7_copyFrom_26 ?_
  refine x_top (y := (v 23 5)) ((up_oth hv_3 (by decide)).trans ((up_oth hv_2 (by decide)).trans ((up_oth hv_1 (by decide)).trans rfl))) ?_
  refine x_put hE hK hN hP hS 86 (by decide) (xG_7 rfl) rfl hin7 tyX7 tyX7_ok nmX7 5 (by decide) mw_312 rfl rfl rfl (Nat.le_of_ble_eq_true rfl) (xG_7 rfl) dX7_copyFrom_29 (fun v_4 H locs hv_4 hP hS => ?_)
  refine lv_aload_n hE.1 hE.2.1 dX7_copyFrom_32 rfl (lv_at hl 0 rfl) ?_
  refine lv_aload_n hE.1 hE.2.1 dX7_copyFrom_33 rfl (lv_at hl 1 rfl) ?_
  refine x_get (x := .int (v_4 23 8)) hE hK hP 23 (by decide) (xG_7 rfl) rfl hin7 8 (by decide) mw_317 rfl dX7_copyFrom_34 ?_
  refine x_top (y := (v 23 8)) ((up_oth hv_4 (by decide)).trans ((up_oth hv_3 (by decide)).trans ((up_oth hv_2 (by decide)).trans ((up_oth hv_1 (by decide)).trans rfl)))) ?_
  refine x_put hE hK hN hP hS 86 (by decide) (xG_7 rfl) rfl hin7 tyX7 tyX7_ok nmX7 8 (by decide) mw_317 rfl rfl rfl (Nat.le_of_ble_eq_true rfl) (xG_7 rfl) dX7_copyFrom_37 (fun v_5 H locs hv_5 hP hS => ?_)
  refine lv_aload_n hE.1 hE.2.1 dX7_copyFrom_40 rfl (lv_at hl 0 rfl) ?_
  refine lv_aload_n hE.1 hE.2.1 dX7_copyFrom_41 rfl (lv_at hl 1 rfl) ?_
  refine x_get (x := .int (v_5 23 9)) hE hK hP 23 (by decide) (xG_7 rfl) rfl hin7 9 (by decide) mw_318 rfl dX7_copyFrom_42 ?_
  refine x_top (y := (v 23 9)) ((up_oth hv_5 (by decide)).trans ((up_oth hv_4 (by decide)).trans ((up_oth hv_3 (by decide)).trans ((up_oth hv_2 (by decide)).trans ((up_oth hv_1 (by decide)).trans rfl))))) ?_
  refine x_put hE hK hN hP hS 86 (by decide) (xG_7 rfl) rfl hin7 tyX7 tyX7_ok nmX7 9 (by decide) mw_318 rfl rfl rfl (Nat.le_of_ble_eq_true rfl) (xG_7 rfl) dX7_copyFrom_45 (fun v_6 H locs hv_6 hP hS => ?_)
  refine lv_aload_n hE.1 hE.2.1 dX7_copyFrom_48 rfl (lv_at hl 1 rfl) ?_
  refine x_get (x := .ref (ad 24)) hE hK hP 23 (by decide) (xG_7 rfl) rfl hin7 0 (by decide) mw_295 rfl dX7_copyFrom_49 ?_
  refine lv_iconst (v := 0) hE.1 hE.2.1 dX7_copyFrom_52 (by decide) ?_
  refine lv_aload_n hE.1 hE.2.1 dX7_copyFrom_53 rfl (lv_at hl 0 rfl) ?_
  refine x_get (x := .ref (ad 87)) hE hK hP 86 (by decide) (xG_7 rfl) rfl hin7 0 (by decide) mw_295 rfl dX7_copyFrom_54 ?_
  refine lv_iconst (v := 0) hE.1 hE.2.1 dX7_copyFrom_57 (by decide) ?_
  refine lv_bipush (v := 18) hE.1 hE.2.1 dX7_copyFrom_58 (by decide) ?_
  refine x_copyi (rest := []) (sp := 0) (dp := 0) (n := 18) hE hl.1 hK hN hP hS mw_912 mw_680 mw_679 mw_130 24 87 (by decide) (by decide) (xG_10 rfl) (fun _ => xG_10 rfl) (by decide) (by decide) (by decide) (by decide) (by decide) (by decide) (by decide) dX7_copyFrom_60 (fun ar_7 H locs har_7 hP hS => ?_)
  refine lv_aload_n hE.1 hE.2.1 dX7_copyFrom_63 rfl (lv_at hl 1 rfl) ?_
  refine x_get (x := .ref (ad 25)) hE hK hP 23 (by decide) (xG_7 rfl) rfl hin7 1 (by decide) mw_299 rfl dX7_copyFrom_64 ?_
  refine lv_iconst (v := 0) hE.1 hE.2.1 dX7_copyFrom_67 (by decide) ?_
  refine lv_aload_n hE.1 hE.2.1 dX7_copyFrom_68 rfl (lv_at hl 0 rfl) ?_
  refine x_get (x := .ref (ad 88)) hE hK hP 86 (by decide) (xG_7 rfl) rfl hin7 1 (by decide) mw_299 rfl dX7_copyFrom_69 ?_
  refine lv_iconst (v := 0) hE.1 hE.2.1 dX7_copyFrom_72 (by decide) ?_
  refine lv_bipush (v := 9) hE.1 hE.2.1 dX7_copyFrom_73 (by decide) ?_
  refine x_copyi (rest := []) (sp := 0) (dp := 0) (n := 9) hE hl.1 hK hN hP hS mw_912 mw_680 mw_679 mw_130 25 88 (by decide) (by decide) (xG_10 rfl) (fun _ => xG_10 rfl) (by decide) (by decide) (by decide) (by decide) (by decide) (by decide) (by decide) dX7_copyFrom_75 (fun ar_8 H locs har_8 hP hS => ?_)
  refine lv_aload_n hE.1 hE.2.1 dX7_copyFrom_78 rfl (lv_at hl 1 rfl) ?_
  refine x_get (x := .ref (ad 26)) hE hK hP 23 (by decide) (xG_7 rfl) rfl hin7 7 (by decide) mw_316 rfl dX7_copyFrom_79 ?_
  refine lv_iconst (v := 0) hE.1 hE.2.1 dX7_copyFrom_82 (by decide) ?_
  refine lv_aload_n hE.1 hE.2.1 dX7_copyFrom_83 rfl (lv_at hl 0 rfl) ?_
  refine x_get (x := .ref (ad 89)) hE hK hP 86 (by decide) (xG_7 rfl) rfl hin7 7 (by decide) mw_316 rfl dX7_copyFrom_84 ?_
  refine lv_iconst (v := 0) hE.1 hE.2.1 dX7_copyFrom_87 (by decide) ?_
  refine lv_iconst (v := 3) hE.1 hE.2.1 dX7_copyFrom_88 (by decide) ?_
  refine x_copyi (rest := []) (sp := 0) (dp := 0) (n := 3) hE hl.1 hK hN hP hS mw_912 mw_680 mw_679 mw_130 26 89 (by decide) (by decide) (xG_10 rfl) (fun _ => xG_10 rfl) (by decide) (by decide) (by decide) (by decide) (by decide) (by decide) (by decide) dX7_copyFrom_89 (fun ar_9 H locs har_9 hP hS => ?_)
  refine lv_aload_n hE.1 hE.2.1 dX7_copyFrom_92 rfl (lv_at hl 1 rfl) ?_
  refine x_get (x := .ref (ad 27)) hE hK hP 23 (by decide) (xG_7 rfl) rfl hin7 10 (by decide) mw_319 rfl dX7_copyFrom_93 ?_
  refine lv_iconst (v := 0) hE.1 hE.2.1 dX7_copyFrom_96 (by decide) ?_
  refine lv_aload_n hE.1 hE.2.1 dX7_copyFrom_97 rfl (lv_at hl 0 rfl) ?_
  refine x_get (x := .ref (ad 90)) hE hK hP 86 (by decide) (xG_7 rfl) rfl hin7 10 (by decide) mw_319 rfl dX7_copyFrom_98 ?_
  refine lv_iconst (v := 0) hE.1 hE.2.1 dX7_copyFrom_101 (by decide) ?_
  refine lv_bipush (v := 18) hE.1 hE.2.1 dX7_copyFrom_102 (by decide) ?_
  refine x_copyi (rest := []) (sp := 0) (dp := 0) (n := 18) hE hl.1 hK hN hP hS mw_912 mw_680 mw_679 mw_130 27 90 (by decide) (by decide) (xG_10 rfl) (fun _ => xG_10 rfl) (by decide) (by decide) (by decide) (by decide) (by decide) (by decide) (by decide) dX7_copyFrom_104 (fun ar_10 H locs har_10 hP hS => ?_)
  refine lv_aload_n hE.1 hE.2.1 dX7_copyFrom_107 rfl (lv_at hl 1 rfl) ?_
  refine x_get (x := .ref (ad 28)) hE hK hP 23 (by decide) (xG_7 rfl) rfl hin7 11 (by decide) mw_320 rfl dX7_copyFrom_108 ?_
  refine lv_iconst (v := 0) hE.1 hE.2.1 dX7_copyFrom_111 (by decide) ?_
  refine lv_aload_n hE.1 hE.2.1 dX7_copyFrom_112 rfl (lv_at hl 0 rfl) ?_
  refine x_get (x := .ref (ad 91)) hE hK hP 86 (by decide) (xG_7 rfl) rfl hin7 11 (by decide) mw_320 rfl dX7_copyFrom_113 ?_
  refine lv_iconst (v := 0) hE.1 hE.2.1 dX7_copyFrom_116 (by decide) ?_
  refine lv_bipush (v := 18) hE.1 hE.2.1 dX7_copyFrom_117 (by decide) ?_
  refine x_copyi (rest := []) (sp := 0) (dp := 0) (n := 18) hE hl.1 hK hN hP hS mw_912 mw_680 mw_679 mw_130 28 91 (by decide) (by decide) (xG_10 rfl) (fun _ => xG_10 rfl) (by decide) (by decide) (by decide) (by decide) (by decide) (by decide) (by decide) dX7_copyFrom_119 (fun ar_11 H locs har_11 hP hS => ?_)
  refine lv_aload_n hE.1 hE.2.1 dX7_copyFrom_122 rfl (lv_at hl 1 rfl) ?_
  refine x_get (x := .ref (ad 29)) hE hK hP 23 (by decide) (xG_7 rfl) rfl hin7 12 (by decide) mw_321 rfl dX7_copyFrom_123 ?_
  refine lv_iconst (v := 0) hE.1 hE.2.1 dX7_copyFrom_126 (by decide) ?_
  refine lv_aload_n hE.1 hE.2.1 dX7_copyFrom_127 rfl (lv_at hl 0 rfl) ?_
  refine x_get (x := .ref (ad 92)) hE hK hP 86 (by decide) (xG_7 rfl) rfl hin7 12 (by decide) mw_321 rfl dX7_copyFrom_128 ?_
  refine lv_iconst (v := 0) hE.1 hE.2.1 dX7_copyFrom_131 (by decide) ?_
  refine lv_bipush (v := 18) hE.1 hE.2.1 dX7_copyFrom_132 (by decide) ?_
  refine x_copyi (rest := []) (sp := 0) (dp := 0) (n := 18) hE hl.1 hK hN hP hS mw_912 mw_680 mw_679 mw_130 29 92 (by decide) (by decide) (xG_10 rfl) (fun _ => xG_10 rfl) (by decide) (by decide) (by decide) (by decide) (by decide) (by decide) (by decide) dX7_copyFrom_134 (fun ar_12 H locs har_12 hP hS => ?_)
  refine lv_aload_n hE.1 hE.2.1 dX7_copyFrom_137 rfl (lv_at hl 1 rfl) ?_
  refine x_get (x := .ref (ad 30)) hE hK hP 23 (by decide) (xG_7 rfl) rfl hin7 13 (by decide) mw_322 rfl dX7_copyFrom_138 ?_
  refine lv_iconst (v := 0) hE.1 hE.2.1 dX7_copyFrom_141 (by decide) ?_
  refine lv_aload_n hE.1 hE.2.1 dX7_copyFrom_142 rfl (lv_at hl 0 rfl) ?_
  refine x_get (x := .ref (ad 93)) hE hK hP 86 (by decide) (xG_7 rfl) rfl hin7 13 (by decide) mw_322 rfl dX7_copyFrom_143 ?_
  refine lv_iconst (v := 0) hE.1 hE.2.1 dX7_copyFrom_146 (by decide) ?_
  refine lv_bipush (v := 18) hE.1 hE.2.1 dX7_copyFrom_147 (by decide) ?_
  refine x_copyi (rest := []) (sp := 0) (dp := 0) (n := 18) hE hl.1 hK hN hP hS mw_912 mw_680 mw_679 mw_130 30 93 (by decide) (by decide) (xG_10 rfl) (fun _ => xG_10 rfl) (by decide) (by decide) (by decide) (by decide) (by decide) (by decide) (by decide) dX7_copyFrom_149 (fun ar_13 H locs har_13 hP hS => ?_)
  exact x_wv hE hr hlo hP hS (fun i j h => ((up_oth hv_6 (fun q => h (by rcases q with ⟨rfl, rfl⟩; decide))).trans ((up_oth hv_5 (fun q => h (by rcases q with ⟨rfl, rfl⟩; decide))).trans ((up_oth hv_4 (fun q => h (by rcases q with ⟨rfl, rfl⟩; decide))).trans ((up_oth hv_3 (fun q => h (by rcases q with ⟨rfl, rfl⟩; decide))).trans ((up_oth hv_2 (fun q => h (by rcases q with ⟨rfl, rfl⟩; decide))).trans (up_oth hv_1 (fun q => h (by rcases q with ⟨rfl, rfl⟩; decide))))))))) dX7_copyFrom_152

set_option maxHeartbeats 4000000 in
set_option maxRecDepth 100000 in
theorem k_X7_copyFrom_105_23 (l : Launch) (D : va_G) (K : Nat → ClassId) (ad : Nat → Nat) (mm : Option Nat) (v ar : sI) (al : sL) : Met l yX7_copyFrom (wM yX7_copyFrom cX7_copyFrom 2 none) (rmD 1) (va_Pc [.ref (ad 105), .ref (ad 23)] (wPre D K ad (xG ad K mm) 132 v ar al)) (va_Qv (fun u : sT => (∀ i j : Nat, (i, j) ∉ ([(105, 2), (105, 3), (105, 4), (105, 5), (105, 8), (105, 9)] : List (Nat × Nat)) → u.1 i j = v i j)) (wB D ad (xG ad K mm) 132) (inW ad 132)) 0 0 (inW ad 132) := by
  refine x_met (by decide) (Nat.le_of_ble_eq_true rfl) ?_
  intro p e s m below meth c ls hE hr hlo hnm hB hl
  have hE : CallFix p m c cX7_copyFrom 2 s _ tbG "TaleCourt$Telling" := hE
  obtain ⟨hP, hK, hN⟩ := hB
  have hS : va_S (inW ad 132) s.heap s.heap [] := va_S.rf
  have hl : lv_has ls 2 [(0, .ref (ad 105)), (1, .ref (ad 23))] := hl
  refine lv_aload_n hE.1 hE.2.1 dX7_copyFrom_0 rfl (lv_at hl 0 rfl) ?_
  refine lv_aload_n hE.1 hE.2.1 dX7_copyFrom_1 rfl (lv_at hl 1 rfl) ?_
  refine x_get (x := .int (v 23 2)) hE hK hP 23 (by decide) (xG_7 rfl) rfl hin7 2 (by decide) mw_301 rfl dX7_copyFrom_2 ?_
  refine x_put hE hK hN hP hS 105 (by decide) (xG_7 rfl) rfl hin7 tyX7 tyX7_ok nmX7 2 (by decide) mw_301 rfl rfl rfl (Nat.le_of_ble_eq_true rfl) (xG_7 rfl) dX7_copyFrom_5 (fun v_1 H locs hv_1 hP hS => ?_)
  refine lv_aload_n hE.1 hE.2.1 dX7_copyFrom_8 rfl (lv_at hl 0 rfl) ?_
  refine lv_aload_n hE.1 hE.2.1 dX7_copyFrom_9 rfl (lv_at hl 1 rfl) ?_
  refine x_get (x := .int (v_1 23 3)) hE hK hP 23 (by decide) (xG_7 rfl) rfl hin7 3 (by decide) mw_305 rfl dX7_copyFrom_10 ?_
  refine x_top (y := (v 23 3)) ((up_oth hv_1 (by decide)).trans rfl) ?_
  refine x_put hE hK hN hP hS 105 (by decide) (xG_7 rfl) rfl hin7 tyX7 tyX7_ok nmX7 3 (by decide) mw_305 rfl rfl rfl (Nat.le_of_ble_eq_true rfl) (xG_7 rfl) dX7_copyFrom_13 (fun v_2 H locs hv_2 hP hS => ?_)
  refine lv_aload_n hE.1 hE.2.1 dX7_copyFrom_16 rfl (lv_at hl 0 rfl) ?_
  refine lv_aload_n hE.1 hE.2.1 dX7_copyFrom_17 rfl (lv_at hl 1 rfl) ?_
  refine x_get (x := .int (v_2 23 4)) hE hK hP 23 (by decide) (xG_7 rfl) rfl hin7 4 (by decide) mw_309 rfl dX7_copyFrom_18 ?_
  refine x_top (y := (v 23 4)) ((up_oth hv_2 (by decide)).trans ((up_oth hv_1 (by decide)).trans rfl)) ?_
  refine x_put hE hK hN hP hS 105 (by decide) (xG_7 rfl) rfl hin7 tyX7 tyX7_ok nmX7 4 (by decide) mw_309 rfl rfl rfl (Nat.le_of_ble_eq_true rfl) (xG_7 rfl) dX7_copyFrom_21 (fun v_3 H locs hv_3 hP hS => ?_)
  refine lv_aload_n hE.1 hE.2.1 dX7_copyFrom_24 rfl (lv_at hl 0 rfl) ?_
  refine lv_aload_n hE.1 hE.2.1 dX7_copyFrom_25 rfl (lv_at hl 1 rfl) ?_
  refine x_get (x := .int (v_3 23 5)) hE hK hP 23 (by decide) (xG_7 rfl) rfl hin7 5 (by decide) mw_312 rfl dX7_copyFrom_26 ?_
  refine x_top (y := (v 23 5)) ((up_oth hv_3 (by decide)).trans ((up_oth hv_2 (by decide)).trans ((up_oth hv_1 (by decide)).trans rfl))) ?_
  refine x_put hE hK hN hP hS 105 (by decide) (xG_7 rfl) rfl hin7 tyX7 tyX7_ok nmX7 5 (by decide) mw_312 rfl rfl rfl (Nat.le_of_ble_eq_true rfl) (xG_7 rfl) dX7_copyFrom_29 (fun v_4 H locs hv_4 hP hS => ?_)
  refine lv_aload_n hE.1 hE.2.1 dX7_copyFrom_32 rfl (lv_at hl 0 rfl) ?_
  refine lv_aload_n hE.1 hE.2.1 dX7_copyFrom_33 rfl (lv_at hl 1 rfl) ?_
  refine x_get (x := .int (v_4 23 8)) hE hK hP 23 (by decide) (xG_7 rfl) rfl hin7 8 (by decide) mw_317 rfl dX7_copyFrom_34 ?_
  refine x_top (y := (v 23 8)) ((up_oth hv_4 (by decide)).trans ((up_oth hv_3 (by decide)).trans ((up_oth hv_2 (by decide)).trans ((up_oth hv_1 (by decide)).trans rfl)))) ?_
  refine x_put hE hK hN hP hS 105 (by decide) (xG_7 rfl) rfl hin7 tyX7 tyX7_ok nmX7 8 (by decide) mw_317 rfl rfl rfl (Nat.le_of_ble_eq_true rfl) (xG_7 rfl) dX7_copyFrom_37 (fun v_5 H locs hv_5 hP hS => ?_)
  refine lv_aload_n hE.1 hE.2.1 dX7_copyFrom_40 rfl (lv_at hl 0 rfl) ?_
  refine lv_aload_n hE.1 hE.2.1 dX7_copyFrom_41 rfl (lv_at hl 1 rfl) ?_
  refine x_get (x := .int (v_5 23 9)) hE hK hP 23 (by decide) (xG_7 rfl) rfl hin7 9 (by decide) mw_318 rfl dX7_copyFrom_42 ?_
  refine x_top (y := (v 23 9)) ((up_oth hv_5 (by decide)).trans ((up_oth hv_4 (by decide)).trans ((up_oth hv_3 (by decide)).trans ((up_oth hv_2 (by decide)).trans ((up_oth hv_1 (by decide)).trans rfl))))) ?_
  refine x_put hE hK hN hP hS 105 (by decide) (xG_7 rfl) rfl hin7 tyX7 tyX7_ok nmX7 9 (by decide) mw_318 rfl rfl rfl (Nat.le_of_ble_eq_true rfl) (xG_7 rfl) dX7_copyFrom_45 (fun v_6 H locs hv_6 hP hS => ?_)
  refine lv_aload_n hE.1 hE.2.1 dX7_copyFrom_48 rfl (lv_at hl 1 rfl) ?_
  refine x_get (x := .ref (ad 24)) hE hK hP 23 (by decide) (xG_7 rfl) rfl hin7 0 (by decide) mw_295 rfl dX7_copyFrom_49 ?_
  refine lv_iconst (v := 0) hE.1 hE.2.1 dX7_copyFrom_52 (by decide) ?_
  refine lv_aload_n hE.1 hE.2.1 dX7_copyFrom_53 rfl (lv_at hl 0 rfl) ?_
  refine x_get (x := .ref (ad 106)) hE hK hP 105 (by decide) (xG_7 rfl) rfl hin7 0 (by decide) mw_295 rfl dX7_copyFrom_54 ?_
  refine lv_iconst (v := 0) hE.1 hE.2.1 dX7_copyFrom_57 (by decide) ?_
  refine lv_bipush (v := 18) hE.1 hE.2.1 dX7_copyFrom_58 (by decide) ?_
  refine x_copyi (rest := []) (sp := 0) (dp := 0) (n := 18) hE hl.1 hK hN hP hS mw_912 mw_680 mw_679 mw_130 24 106 (by decide) (by decide) (xG_10 rfl) (fun _ => xG_10 rfl) (by decide) (by decide) (by decide) (by decide) (by decide) (by decide) (by decide) dX7_copyFrom_60 (fun ar_7 H locs har_7 hP hS => ?_)
  refine lv_aload_n hE.1 hE.2.1 dX7_copyFrom_63 rfl (lv_at hl 1 rfl) ?_
  refine x_get (x := .ref (ad 25)) hE hK hP 23 (by decide) (xG_7 rfl) rfl hin7 1 (by decide) mw_299 rfl dX7_copyFrom_64 ?_
  refine lv_iconst (v := 0) hE.1 hE.2.1 dX7_copyFrom_67 (by decide) ?_
  refine lv_aload_n hE.1 hE.2.1 dX7_copyFrom_68 rfl (lv_at hl 0 rfl) ?_
  refine x_get (x := .ref (ad 107)) hE hK hP 105 (by decide) (xG_7 rfl) rfl hin7 1 (by decide) mw_299 rfl dX7_copyFrom_69 ?_
  refine lv_iconst (v := 0) hE.1 hE.2.1 dX7_copyFrom_72 (by decide) ?_
  refine lv_bipush (v := 9) hE.1 hE.2.1 dX7_copyFrom_73 (by decide) ?_
  refine x_copyi (rest := []) (sp := 0) (dp := 0) (n := 9) hE hl.1 hK hN hP hS mw_912 mw_680 mw_679 mw_130 25 107 (by decide) (by decide) (xG_10 rfl) (fun _ => xG_10 rfl) (by decide) (by decide) (by decide) (by decide) (by decide) (by decide) (by decide) dX7_copyFrom_75 (fun ar_8 H locs har_8 hP hS => ?_)
  refine lv_aload_n hE.1 hE.2.1 dX7_copyFrom_78 rfl (lv_at hl 1 rfl) ?_
  refine x_get (x := .ref (ad 26)) hE hK hP 23 (by decide) (xG_7 rfl) rfl hin7 7 (by decide) mw_316 rfl dX7_copyFrom_79 ?_
  refine lv_iconst (v := 0) hE.1 hE.2.1 dX7_copyFrom_82 (by decide) ?_
  refine lv_aload_n hE.1 hE.2.1 dX7_copyFrom_83 rfl (lv_at hl 0 rfl) ?_
  refine x_get (x := .ref (ad 108)) hE hK hP 105 (by decide) (xG_7 rfl) rfl hin7 7 (by decide) mw_316 rfl dX7_copyFrom_84 ?_
  refine lv_iconst (v := 0) hE.1 hE.2.1 dX7_copyFrom_87 (by decide) ?_
  refine lv_iconst (v := 3) hE.1 hE.2.1 dX7_copyFrom_88 (by decide) ?_
  refine x_copyi (rest := []) (sp := 0) (dp := 0) (n := 3) hE hl.1 hK hN hP hS mw_912 mw_680 mw_679 mw_130 26 108 (by decide) (by decide) (xG_10 rfl) (fun _ => xG_10 rfl) (by decide) (by decide) (by decide) (by decide) (by decide) (by decide) (by decide) dX7_copyFrom_89 (fun ar_9 H locs har_9 hP hS => ?_)
  refine lv_aload_n hE.1 hE.2.1 dX7_copyFrom_92 rfl (lv_at hl 1 rfl) ?_
  refine x_get (x := .ref (ad 27)) hE hK hP 23 (by decide) (xG_7 rfl) rfl hin7 10 (by decide) mw_319 rfl dX7_copyFrom_93 ?_
  refine lv_iconst (v := 0) hE.1 hE.2.1 dX7_copyFrom_96 (by decide) ?_
  refine lv_aload_n hE.1 hE.2.1 dX7_copyFrom_97 rfl (lv_at hl 0 rfl) ?_
  refine x_get (x := .ref (ad 109)) hE hK hP 105 (by decide) (xG_7 rfl) rfl hin7 10 (by decide) mw_319 rfl dX7_copyFrom_98 ?_
  refine lv_iconst (v := 0) hE.1 hE.2.1 dX7_copyFrom_101 (by decide) ?_
  refine lv_bipush (v := 18) hE.1 hE.2.1 dX7_copyFrom_102 (by decide) ?_
  refine x_copyi (rest := []) (sp := 0) (dp := 0) (n := 18) hE hl.1 hK hN hP hS mw_912 mw_680 mw_679 mw_130 27 109 (by decide) (by decide) (xG_10 rfl) (fun _ => xG_10 rfl) (by decide) (by decide) (by decide) (by decide) (by decide) (by decide) (by decide) dX7_copyFrom_104 (fun ar_10 H locs har_10 hP hS => ?_)
  refine lv_aload_n hE.1 hE.2.1 dX7_copyFrom_107 rfl (lv_at hl 1 rfl) ?_
  refine x_get (x := .ref (ad 28)) hE hK hP 23 (by decide) (xG_7 rfl) rfl hin7 11 (by decide) mw_320 rfl dX7_copyFrom_108 ?_
  refine lv_iconst (v := 0) hE.1 hE.2.1 dX7_copyFrom_111 (by decide) ?_
  refine lv_aload_n hE.1 hE.2.1 dX7_copyFrom_112 rfl (lv_at hl 0 rfl) ?_
  refine x_get (x := .ref (ad 110)) hE hK hP 105 (by decide) (xG_7 rfl) rfl hin7 11 (by decide) mw_320 rfl dX7_copyFrom_113 ?_
  refine lv_iconst (v := 0) hE.1 hE.2.1 dX7_copyFrom_116 (by decide) ?_
  refine lv_bipush (v := 18) hE.1 hE.2.1 dX7_copyFrom_117 (by decide) ?_
  refine x_copyi (rest := []) (sp := 0) (dp := 0) (n := 18) hE hl.1 hK hN hP hS mw_912 mw_680 mw_679 mw_130 28 110 (by decide) (by decide) (xG_10 rfl) (fun _ => xG_10 rfl) (by decide) (by decide) (by decide) (by decide) (by decide) (by decide) (by decide) dX7_copyFrom_119 (fun ar_11 H locs har_11 hP hS => ?_)
  refine lv_aload_n hE.1 hE.2.1 dX7_copyFrom_122 rfl (lv_at hl 1 rfl) ?_
  refine x_get (x := .ref (ad 29)) hE hK hP 23 (by decide) (xG_7 rfl) rfl hin7 12 (by decide) mw_321 rfl dX7_copyFrom_123 ?_
  refine lv_iconst (v := 0) hE.1 hE.2.1 dX7_copyFrom_126 (by decide) ?_
  refine lv_aload_n hE.1 hE.2.1 dX7_copyFrom_127 rfl (lv_at hl 0 rfl) ?_
  refine x_get (x := .ref (ad 111)) hE hK hP 105 (by decide) (xG_7 rfl) rfl hin7 12 (by decide) mw_321 rfl dX7_copyFrom_128 ?_
  refine lv_iconst (v := 0) hE.1 hE.2.1 dX7_copyFrom_131 (by decide) ?_
  refine lv_bipush (v := 18) hE.1 hE.2.1 dX7_copyFrom_132 (by decide) ?_
  refine x_copyi (rest := []) (sp := 0) (dp := 0) (n := 18) hE hl.1 hK hN hP hS mw_912 mw_680 mw_679 mw_130 29 111 (by decide) (by decide) (xG_10 rfl) (fun _ => xG_10 rfl) (by decide) (by decide) (by decide) (by decide) (by decide) (by decide) (by decide) dX7_copyFrom_134 (fun ar_12 H locs har_12 hP hS => ?_)
  refine lv_aload_n hE.1 hE.2.1 dX7_copyFrom_137 rfl (lv_at hl 1 rfl) ?_
  refine x_get (x := .ref (ad 30)) hE hK hP 23 (by decide) (xG_7 rfl) rfl hin7 13 (by decide) mw_322 rfl dX7_copyFrom_138 ?_
  refine lv_iconst (v := 0) hE.1 hE.2.1 dX7_copyFrom_141 (by decide) ?_
  refine lv_aload_n hE.1 hE.2.1 dX7_copyFrom_142 rfl (lv_at hl 0 rfl) ?_
  refine x_get (x := .ref (ad 112)) hE hK hP 105 (by decide) (xG_7 rfl) rfl hin7 13 (by decide) mw_322 rfl dX7_copyFrom_143 ?_
  refine lv_iconst (v := 0) hE.1 hE.2.1 dX7_copyFrom_146 (by decide) ?_
  refine lv_bipush (v := 18) hE.1 hE.2.1 dX7_copyFrom_147 (by decide) ?_
  refine x_copyi (rest := []) (sp := 0) (dp := 0) (n := 18) hE hl.1 hK hN hP hS mw_912 mw_680 mw_679 mw_130 30 112 (by decide) (by decide) (xG_10 rfl) (fun _ => xG_10 rfl) (by decide) (by decide) (by decide) (by decide) (by decide) (by decide) (by decide) dX7_copyFrom_149 (fun ar_13 H locs har_13 hP hS => ?_)
  exact x_wv hE hr hlo hP hS (fun i j h => ((up_oth hv_6 (fun q => h (by rcases q with ⟨rfl, rfl⟩; decide))).trans ((up_oth hv_5 (fun q => h (by rcases q with ⟨rfl, rfl⟩; decide))).trans ((up_oth hv_4 (fun q => h (by rcases q with ⟨rfl, rfl⟩; decide))).trans ((up_oth hv_3 (fun q => h (by rcases q with ⟨rfl, rfl⟩; decide))).trans ((up_oth hv_2 (fun q => h (by rcases q with ⟨rfl, rfl⟩; decide))).trans (up_oth hv_1 (fun q => h (by rcases q with ⟨rfl, rfl⟩; decide))))))))) dX7_copyFrom_152

set_option maxHeartbeats 4000000 in
set_option maxRecDepth 100000 in
theorem k_X7_copyFrom_124_23 (l : Launch) (D : va_G) (K : Nat → ClassId) (ad : Nat → Nat) (mm : Option Nat) (v ar : sI) (al : sL) : Met l yX7_copyFrom (wM yX7_copyFrom cX7_copyFrom 2 none) (rmD 1) (va_Pc [.ref (ad 124), .ref (ad 23)] (wPre D K ad (xG ad K mm) 132 v ar al)) (va_Qv (fun u : sT => (∀ i j : Nat, (i, j) ∉ ([(124, 2), (124, 3), (124, 4), (124, 5), (124, 8), (124, 9)] : List (Nat × Nat)) → u.1 i j = v i j)) (wB D ad (xG ad K mm) 132) (inW ad 132)) 0 0 (inW ad 132) := by
  refine x_met (by decide) (Nat.le_of_ble_eq_true rfl) ?_
  intro p e s m below meth c ls hE hr hlo hnm hB hl
  have hE : CallFix p m c cX7_copyFrom 2 s _ tbG "TaleCourt$Telling" := hE
  obtain ⟨hP, hK, hN⟩ := hB
  have hS : va_S (inW ad 132) s.heap s.heap [] := va_S.rf
  have hl : lv_has ls 2 [(0, .ref (ad 124)), (1, .ref (ad 23))] := hl
  refine lv_aload_n hE.1 hE.2.1 dX7_copyFrom_0 rfl (lv_at hl 0 rfl) ?_
  refine lv_aload_n hE.1 hE.2.1 dX7_copyFrom_1 rfl (lv_at hl 1 rfl) ?_
  refine x_get (x := .int (v 23 2)) hE hK hP 23 (by decide) (xG_7 rfl) rfl hin7 2 (by decide) mw_301 rfl dX7_copyFrom_2 ?_
  refine x_put hE hK hN hP hS 124 (by decide) (xG_7 rfl) rfl hin7 tyX7 tyX7_ok nmX7 2 (by decide) mw_301 rfl rfl rfl (Nat.le_of_ble_eq_true rfl) (xG_7 rfl) dX7_copyFrom_5 (fun v_1 H locs hv_1 hP hS => ?_)
  refine lv_aload_n hE.1 hE.2.1 dX7_copyFrom_8 rfl (lv_at hl 0 rfl) ?_
  refine lv_aload_n hE.1 hE.2.1 dX7_copyFrom_9 rfl (lv_at hl 1 rfl) ?_
  refine x_get (x := .int (v_1 23 3)) hE hK hP 23 (by decide) (xG_7 rfl) rfl hin7 3 (by decide) mw_305 rfl dX7_copyFrom_10 ?_
  refine x_top (y := (v 23 3)) ((up_oth hv_1 (by decide)).trans rfl) ?_
  refine x_put hE hK hN hP hS 124 (by decide) (xG_7 rfl) rfl hin7 tyX7 tyX7_ok nmX7 3 (by decide) mw_305 rfl rfl rfl (Nat.le_of_ble_eq_true rfl) (xG_7 rfl) dX7_copyFrom_13 (fun v_2 H locs hv_2 hP hS => ?_)
  refine lv_aload_n hE.1 hE.2.1 dX7_copyFrom_16 rfl (lv_at hl 0 rfl) ?_
  refine lv_aload_n hE.1 hE.2.1 dX7_copyFrom_17 rfl (lv_at hl 1 rfl) ?_
  refine x_get (x := .int (v_2 23 4)) hE hK hP 23 (by decide) (xG_7 rfl) rfl hin7 4 (by decide) mw_309 rfl dX7_copyFrom_18 ?_
  refine x_top (y := (v 23 4)) ((up_oth hv_2 (by decide)).trans ((up_oth hv_1 (by decide)).trans rfl)) ?_
  refine x_put hE hK hN hP hS 124 (by decide) (xG_7 rfl) rfl hin7 tyX7 tyX7_ok nmX7 4 (by decide) mw_309 rfl rfl rfl (Nat.le_of_ble_eq_true rfl) (xG_7 rfl) dX7_copyFrom_21 (fun v_3 H locs hv_3 hP hS => ?_)
  refine lv_aload_n hE.1 hE.2.1 dX7_copyFrom_24 rfl (lv_at hl 0 rfl) ?_
  refine lv_aload_n hE.1 hE.2.1 dX7_copyFrom_25 rfl (lv_at hl 1 rfl) ?_
  refine x_get (x := .int (v_3 23 5)) hE hK hP 23 (by decide) (xG_7 rfl) rfl hin7 5 (by decide) mw_312 rfl dX7_copyFrom_26 ?_
  refine x_top (y := (v 23 5)) ((up_oth hv_3 (by decide)).trans ((up_oth hv_2 (by decide)).trans ((up_oth hv_1 (by decide)).trans rfl))) ?_
  refine x_put hE hK hN hP hS 124 (by decide) (xG_7 rfl) rfl hin7 tyX7 tyX7_ok nmX7 5 (by decide) mw_312 rfl rfl rfl (Nat.le_of_ble_eq_true rfl) (xG_7 rfl) dX7_copyFrom_29 (fun v_4 H locs hv_4 hP hS => ?_)
  refine lv_aload_n hE.1 hE.2.1 dX7_copyFrom_32 rfl (lv_at hl 0 rfl) ?_
  refine lv_aload_n hE.1 hE.2.1 dX7_copyFrom_33 rfl (lv_at hl 1 rfl) ?_
  refine x_get (x := .int (v_4 23 8)) hE hK hP 23 (by decide) (xG_7 rfl) rfl hin7 8 (by decide) mw_317 rfl dX7_copyFrom_34 ?_
  refine x_top (y := (v 23 8)) ((up_oth hv_4 (by decide)).trans ((up_oth hv_3 (by decide)).trans ((up_oth hv_2 (by decide)).trans ((up_oth hv_1 (by decide)).trans rfl)))) ?_
  refine x_put hE hK hN hP hS 124 (by decide) (xG_7 rfl) rfl hin7 tyX7 tyX7_ok nmX7 8 (by decide) mw_317 rfl rfl rfl (Nat.le_of_ble_eq_true rfl) (xG_7 rfl) dX7_copyFrom_37 (fun v_5 H locs hv_5 hP hS => ?_)
  refine lv_aload_n hE.1 hE.2.1 dX7_copyFrom_40 rfl (lv_at hl 0 rfl) ?_
  refine lv_aload_n hE.1 hE.2.1 dX7_copyFrom_41 rfl (lv_at hl 1 rfl) ?_
  refine x_get (x := .int (v_5 23 9)) hE hK hP 23 (by decide) (xG_7 rfl) rfl hin7 9 (by decide) mw_318 rfl dX7_copyFrom_42 ?_
  refine x_top (y := (v 23 9)) ((up_oth hv_5 (by decide)).trans ((up_oth hv_4 (by decide)).trans ((up_oth hv_3 (by decide)).trans ((up_oth hv_2 (by decide)).trans ((up_oth hv_1 (by decide)).trans rfl))))) ?_
  refine x_put hE hK hN hP hS 124 (by decide) (xG_7 rfl) rfl hin7 tyX7 tyX7_ok nmX7 9 (by decide) mw_318 rfl rfl rfl (Nat.le_of_ble_eq_true rfl) (xG_7 rfl) dX7_copyFrom_45 (fun v_6 H locs hv_6 hP hS => ?_)
  refine lv_aload_n hE.1 hE.2.1 dX7_copyFrom_48 rfl (lv_at hl 1 rfl) ?_
  refine x_get (x := .ref (ad 24)) hE hK hP 23 (by decide) (xG_7 rfl) rfl hin7 0 (by decide) mw_295 rfl dX7_copyFrom_49 ?_
  refine lv_iconst (v := 0) hE.1 hE.2.1 dX7_copyFrom_52 (by decide) ?_
  refine lv_aload_n hE.1 hE.2.1 dX7_copyFrom_53 rfl (lv_at hl 0 rfl) ?_
  refine x_get (x := .ref (ad 125)) hE hK hP 124 (by decide) (xG_7 rfl) rfl hin7 0 (by decide) mw_295 rfl dX7_copyFrom_54 ?_
  refine lv_iconst (v := 0) hE.1 hE.2.1 dX7_copyFrom_57 (by decide) ?_
  refine lv_bipush (v := 18) hE.1 hE.2.1 dX7_copyFrom_58 (by decide) ?_
  refine x_copyi (rest := []) (sp := 0) (dp := 0) (n := 18) hE hl.1 hK hN hP hS mw_912 mw_680 mw_679 mw_130 24 125 (by decide) (by decide) (xG_10 rfl) (fun _ => xG_10 rfl) (by decide) (by decide) (by decide) (by decide) (by decide) (by decide) (by decide) dX7_copyFrom_60 (fun ar_7 H locs har_7 hP hS => ?_)
  refine lv_aload_n hE.1 hE.2.1 dX7_copyFrom_63 rfl (lv_at hl 1 rfl) ?_
  refine x_get (x := .ref (ad 25)) hE hK hP 23 (by decide) (xG_7 rfl) rfl hin7 1 (by decide) mw_299 rfl dX7_copyFrom_64 ?_
  refine lv_iconst (v := 0) hE.1 hE.2.1 dX7_copyFrom_67 (by decide) ?_
  refine lv_aload_n hE.1 hE.2.1 dX7_copyFrom_68 rfl (lv_at hl 0 rfl) ?_
  refine x_get (x := .ref (ad 126)) hE hK hP 124 (by decide) (xG_7 rfl) rfl hin7 1 (by decide) mw_299 rfl dX7_copyFrom_69 ?_
  refine lv_iconst (v := 0) hE.1 hE.2.1 dX7_copyFrom_72 (by decide) ?_
  refine lv_bipush (v := 9) hE.1 hE.2.1 dX7_copyFrom_73 (by decide) ?_
  refine x_copyi (rest := []) (sp := 0) (dp := 0) (n := 9) hE hl.1 hK hN hP hS mw_912 mw_680 mw_679 mw_130 25 126 (by decide) (by decide) (xG_10 rfl) (fun _ => xG_10 rfl) (by decide) (by decide) (by decide) (by decide) (by decide) (by decide) (by decide) dX7_copyFrom_75 (fun ar_8 H locs har_8 hP hS => ?_)
  refine lv_aload_n hE.1 hE.2.1 dX7_copyFrom_78 rfl (lv_at hl 1 rfl) ?_
  refine x_get (x := .ref (ad 26)) hE hK hP 23 (by decide) (xG_7 rfl) rfl hin7 7 (by decide) mw_316 rfl dX7_copyFrom_79 ?_
  refine lv_iconst (v := 0) hE.1 hE.2.1 dX7_copyFrom_82 (by decide) ?_
  refine lv_aload_n hE.1 hE.2.1 dX7_copyFrom_83 rfl (lv_at hl 0 rfl) ?_
  refine x_get (x := .ref (ad 127)) hE hK hP 124 (by decide) (xG_7 rfl) rfl hin7 7 (by decide) mw_316 rfl dX7_copyFrom_84 ?_
  refine lv_iconst (v := 0) hE.1 hE.2.1 dX7_copyFrom_87 (by decide) ?_
  refine lv_iconst (v := 3) hE.1 hE.2.1 dX7_copyFrom_88 (by decide) ?_
  refine x_copyi (rest := []) (sp := 0) (dp := 0) (n := 3) hE hl.1 hK hN hP hS mw_912 mw_680 mw_679 mw_130 26 127 (by decide) (by decide) (xG_10 rfl) (fun _ => xG_10 rfl) (by decide) (by decide) (by decide) (by decide) (by decide) (by decide) (by decide) dX7_copyFrom_89 (fun ar_9 H locs har_9 hP hS => ?_)
  refine lv_aload_n hE.1 hE.2.1 dX7_copyFrom_92 rfl (lv_at hl 1 rfl) ?_
  refine x_get (x := .ref (ad 27)) hE hK hP 23 (by decide) (xG_7 rfl) rfl hin7 10 (by decide) mw_319 rfl dX7_copyFrom_93 ?_
  refine lv_iconst (v := 0) hE.1 hE.2.1 dX7_copyFrom_96 (by decide) ?_
  refine lv_aload_n hE.1 hE.2.1 dX7_copyFrom_97 rfl (lv_at hl 0 rfl) ?_
  refine x_get (x := .ref (ad 128)) hE hK hP 124 (by decide) (xG_7 rfl) rfl hin7 10 (by decide) mw_319 rfl dX7_copyFrom_98 ?_
  refine lv_iconst (v := 0) hE.1 hE.2.1 dX7_copyFrom_101 (by decide) ?_
  refine lv_bipush (v := 18) hE.1 hE.2.1 dX7_copyFrom_102 (by decide) ?_
  refine x_copyi (rest := []) (sp := 0) (dp := 0) (n := 18) hE hl.1 hK hN hP hS mw_912 mw_680 mw_679 mw_130 27 128 (by decide) (by decide) (xG_10 rfl) (fun _ => xG_10 rfl) (by decide) (by decide) (by decide) (by decide) (by decide) (by decide) (by decide) dX7_copyFrom_104 (fun ar_10 H locs har_10 hP hS => ?_)
  refine lv_aload_n hE.1 hE.2.1 dX7_copyFrom_107 rfl (lv_at hl 1 rfl) ?_
  refine x_get (x := .ref (ad 28)) hE hK hP 23 (by decide) (xG_7 rfl) rfl hin7 11 (by decide) mw_320 rfl dX7_copyFrom_108 ?_
  refine lv_iconst (v := 0) hE.1 hE.2.1 dX7_copyFrom_111 (by decide) ?_
  refine lv_aload_n hE.1 hE.2.1 dX7_copyFrom_112 rfl (lv_at hl 0 rfl) ?_
  refine x_get (x := .ref (ad 129)) hE hK hP 124 (by decide) (xG_7 rfl) rfl hin7 11 (by decide) mw_320 rfl dX7_copyFrom_113 ?_
  refine lv_iconst (v := 0) hE.1 hE.2.1 dX7_copyFrom_116 (by decide) ?_
  refine lv_bipush (v := 18) hE.1 hE.2.1 dX7_copyFrom_117 (by decide) ?_
  refine x_copyi (rest := []) (sp := 0) (dp := 0) (n := 18) hE hl.1 hK hN hP hS mw_912 mw_680 mw_679 mw_130 28 129 (by decide) (by decide) (xG_10 rfl) (fun _ => xG_10 rfl) (by decide) (by decide) (by decide) (by decide) (by decide) (by decide) (by decide) dX7_copyFrom_119 (fun ar_11 H locs har_11 hP hS => ?_)
  refine lv_aload_n hE.1 hE.2.1 dX7_copyFrom_122 rfl (lv_at hl 1 rfl) ?_
  refine x_get (x := .ref (ad 29)) hE hK hP 23 (by decide) (xG_7 rfl) rfl hin7 12 (by decide) mw_321 rfl dX7_copyFrom_123 ?_
  refine lv_iconst (v := 0) hE.1 hE.2.1 dX7_copyFrom_126 (by decide) ?_
  refine lv_aload_n hE.1 hE.2.1 dX7_copyFrom_127 rfl (lv_at hl 0 rfl) ?_
  refine x_get (x := .ref (ad 130)) hE hK hP 124 (by decide) (xG_7 rfl) rfl hin7 12 (by decide) mw_321 rfl dX7_copyFrom_128 ?_
  refine lv_iconst (v := 0) hE.1 hE.2.1 dX7_copyFrom_131 (by decide) ?_
  refine lv_bipush (v := 18) hE.1 hE.2.1 dX7_copyFrom_132 (by decide) ?_
  refine x_copyi (rest := []) (sp := 0) (dp := 0) (n := 18) hE hl.1 hK hN hP hS mw_912 mw_680 mw_679 mw_130 29 130 (by decide) (by decide) (xG_10 rfl) (fun _ => xG_10 rfl) (by decide) (by decide) (by decide) (by decide) (by decide) (by decide) (by decide) dX7_copyFrom_134 (fun ar_12 H locs har_12 hP hS => ?_)
  refine lv_aload_n hE.1 hE.2.1 dX7_copyFrom_137 rfl (lv_at hl 1 rfl) ?_
  refine x_get (x := .ref (ad 30)) hE hK hP 23 (by decide) (xG_7 rfl) rfl hin7 13 (by decide) mw_322 rfl dX7_copyFrom_138 ?_
  refine lv_iconst (v := 0) hE.1 hE.2.1 dX7_copyFrom_141 (by decide) ?_
  refine lv_aload_n hE.1 hE.2.1 dX7_copyFrom_142 rfl (lv_at hl 0 rfl) ?_
  refine x_get (x := .ref (ad 131)) hE hK hP 124 (by decide) (xG_7 rfl) rfl hin7 13 (by decide) mw_322 rfl dX7_copyFrom_143 ?_
  refine lv_iconst (v := 0) hE.1 hE.2.1 dX7_copyFrom_146 (by decide) ?_
  refine lv_bipush (v := 18) hE.1 hE.2.1 dX7_copyFrom_147 (by decide) ?_
  refine x_copyi (rest := []) (sp := 0) (dp := 0) (n := 18) hE hl.1 hK hN hP hS mw_912 mw_680 mw_679 mw_130 30 131 (by decide) (by decide) (xG_10 rfl) (fun _ => xG_10 rfl) (by decide) (by decide) (by decide) (by decide) (by decide) (by decide) (by decide) dX7_copyFrom_149 (fun ar_13 H locs har_13 hP hS => ?_)
  exact x_wv hE hr hlo hP hS (fun i j h => ((up_oth hv_6 (fun q => h (by rcases q with ⟨rfl, rfl⟩; decide))).trans ((up_oth hv_5 (fun q => h (by rcases q with ⟨rfl, rfl⟩; decide))).trans ((up_oth hv_4 (fun q => h (by rcases q with ⟨rfl, rfl⟩; decide))).trans ((up_oth hv_3 (fun q => h (by rcases q with ⟨rfl, rfl⟩; decide))).trans ((up_oth hv_2 (fun q => h (by rcases q with ⟨rfl, rfl⟩; decide))).trans (up_oth hv_1 (fun q => h (by rcases q with ⟨rfl, rfl⟩; decide))))))))) dX7_copyFrom_152

theorem dX7_clear_0 : decode cX7_clear 0 = .ok (.aload_n 0, 1) := by decide +kernel
theorem dX7_clear_1 : decode cX7_clear 1 = .ok (.iconst 0, 1) := by decide +kernel
theorem dX7_clear_2 : decode cX7_clear 2 = .ok (.putfield 41, 3) := by decide +kernel
theorem dX7_clear_5 : decode cX7_clear 5 = .ok (.aload_n 0, 1) := by decide +kernel
theorem dX7_clear_6 : decode cX7_clear 6 = .ok (.iconst 0, 1) := by decide +kernel
theorem dX7_clear_7 : decode cX7_clear 7 = .ok (.putfield 44, 3) := by decide +kernel
theorem dX7_clear_10 : decode cX7_clear 10 = .ok (.aload_n 0, 1) := by decide +kernel
theorem dX7_clear_11 : decode cX7_clear 11 = .ok (.iconst (-1), 1) := by decide +kernel
theorem dX7_clear_12 : decode cX7_clear 12 = .ok (.putfield 18, 3) := by decide +kernel
theorem dX7_clear_15 : decode cX7_clear 15 = .ok (.aload_n 0, 1) := by decide +kernel
theorem dX7_clear_16 : decode cX7_clear 16 = .ok (.iconst 0, 1) := by decide +kernel
theorem dX7_clear_17 : decode cX7_clear 17 = .ok (.putfield 47, 3) := by decide +kernel
theorem dX7_clear_20 : decode cX7_clear 20 = .ok (.aload_n 0, 1) := by decide +kernel
theorem dX7_clear_21 : decode cX7_clear 21 = .ok (.iconst 0, 1) := by decide +kernel
theorem dX7_clear_22 : decode cX7_clear 22 = .ok (.putfield 50, 3) := by decide +kernel
theorem dX7_clear_25 : decode cX7_clear 25 = .ok (.aload_n 0, 1) := by decide +kernel
theorem dX7_clear_26 : decode cX7_clear 26 = .ok (.iconst 0, 1) := by decide +kernel
theorem dX7_clear_27 : decode cX7_clear 27 = .ok (.putfield 53, 3) := by decide +kernel
theorem dX7_clear_30 : decode cX7_clear 30 = .ok (.aload_n 0, 1) := by decide +kernel
theorem dX7_clear_31 : decode cX7_clear 31 = .ok (.getfield 22, 3) := by decide +kernel
theorem dX7_clear_34 : decode cX7_clear 34 = .ok (.iconst 0, 1) := by decide +kernel
theorem dX7_clear_35 : decode cX7_clear 35 = .ok (.invokestatic 56, 3) := by decide +kernel
theorem dX7_clear_38 : decode cX7_clear 38 = .ok (.return_, 1) := by decide +kernel
set_option maxHeartbeats 4000000 in
set_option maxRecDepth 100000 in
theorem k_X7_clear_23 (l : Launch) (D : va_G) (K : Nat → ClassId) (ad : Nat → Nat) (mm : Option Nat) (v ar : sI) (al : sL) : Met l yX7_clear (wM yX7_clear cX7_clear 1 none) (rmD 1) (va_Pc [.ref (ad 23)] (wPre D K ad (xG ad K mm) 132 v ar al)) (va_Qv (fun u : sT => (∀ i j : Nat, (i, j) ∉ ([(23, 2), (23, 3), (23, 4), (23, 5), (23, 8), (23, 9)] : List (Nat × Nat)) → u.1 i j = v i j)) (wB D ad (xG ad K mm) 132) (inW ad 132)) 0 0 (inW ad 132) := by
  refine x_met (by decide) (Nat.le_of_ble_eq_true rfl) ?_
  intro p e s m below meth c ls hE hr hlo hnm hB hl
  have hE : CallFix p m c cX7_clear 1 s _ tbG "TaleCourt$Telling" := hE
  obtain ⟨hP, hK, hN⟩ := hB
  have hS : va_S (inW ad 132) s.heap s.heap [] := va_S.rf
  have hl : lv_has ls 1 [(0, .ref (ad 23))] := hl
  refine lv_aload_n hE.1 hE.2.1 dX7_clear_0 rfl (lv_at hl 0 rfl) ?_
  refine lv_iconst (v := 0) hE.1 hE.2.1 dX7_clear_1 (by decide) ?_
  refine x_put hE hK hN hP hS 23 (by decide) (xG_7 rfl) rfl hin7 tyX7 tyX7_ok nmX7 2 (by decide) mw_301 rfl rfl rfl (Nat.le_of_ble_eq_true rfl) (xG_7 rfl) dX7_clear_2 (fun v_1 H locs hv_1 hP hS => ?_)
  refine lv_aload_n hE.1 hE.2.1 dX7_clear_5 rfl (lv_at hl 0 rfl) ?_
  refine lv_iconst (v := 0) hE.1 hE.2.1 dX7_clear_6 (by decide) ?_
  refine x_put hE hK hN hP hS 23 (by decide) (xG_7 rfl) rfl hin7 tyX7 tyX7_ok nmX7 3 (by decide) mw_305 rfl rfl rfl (Nat.le_of_ble_eq_true rfl) (xG_7 rfl) dX7_clear_7 (fun v_2 H locs hv_2 hP hS => ?_)
  refine lv_aload_n hE.1 hE.2.1 dX7_clear_10 rfl (lv_at hl 0 rfl) ?_
  refine lv_iconst (v := (-1)) hE.1 hE.2.1 dX7_clear_11 (by decide) ?_
  refine x_put hE hK hN hP hS 23 (by decide) (xG_7 rfl) rfl hin7 tyX7 tyX7_ok nmX7 4 (by decide) mw_309 rfl rfl rfl (Nat.le_of_ble_eq_true rfl) (xG_7 rfl) dX7_clear_12 (fun v_3 H locs hv_3 hP hS => ?_)
  refine lv_aload_n hE.1 hE.2.1 dX7_clear_15 rfl (lv_at hl 0 rfl) ?_
  refine lv_iconst (v := 0) hE.1 hE.2.1 dX7_clear_16 (by decide) ?_
  refine x_put hE hK hN hP hS 23 (by decide) (xG_7 rfl) rfl hin7 tyX7 tyX7_ok nmX7 5 (by decide) mw_312 rfl rfl rfl (Nat.le_of_ble_eq_true rfl) (xG_7 rfl) dX7_clear_17 (fun v_4 H locs hv_4 hP hS => ?_)
  refine lv_aload_n hE.1 hE.2.1 dX7_clear_20 rfl (lv_at hl 0 rfl) ?_
  refine lv_iconst (v := 0) hE.1 hE.2.1 dX7_clear_21 (by decide) ?_
  refine x_put hE hK hN hP hS 23 (by decide) (xG_7 rfl) rfl hin7 tyX7 tyX7_ok nmX7 8 (by decide) mw_317 rfl rfl rfl (Nat.le_of_ble_eq_true rfl) (xG_7 rfl) dX7_clear_22 (fun v_5 H locs hv_5 hP hS => ?_)
  refine lv_aload_n hE.1 hE.2.1 dX7_clear_25 rfl (lv_at hl 0 rfl) ?_
  refine lv_iconst (v := 0) hE.1 hE.2.1 dX7_clear_26 (by decide) ?_
  refine x_put hE hK hN hP hS 23 (by decide) (xG_7 rfl) rfl hin7 tyX7 tyX7_ok nmX7 9 (by decide) mw_318 rfl rfl rfl (Nat.le_of_ble_eq_true rfl) (xG_7 rfl) dX7_clear_27 (fun v_6 H locs hv_6 hP hS => ?_)
  refine lv_aload_n hE.1 hE.2.1 dX7_clear_30 rfl (lv_at hl 0 rfl) ?_
  refine x_get (x := .ref (ad 26)) hE hK hP 23 (by decide) (xG_7 rfl) rfl hin7 7 (by decide) mw_316 rfl dX7_clear_31 ?_
  refine lv_iconst (v := 0) hE.1 hE.2.1 dX7_clear_34 (by decide) ?_
  refine x_sv (nn := 2) (As := [.ref (ad 26), .int 0]) (rest := []) hE hK hN hP hS (k_fillI l D K ad v_6 ar al 26 3 (by decide) (fun _ => xG_10 rfl) (Nat.le_of_ble_eq_true rfl) 0) rfl mw_685 mw_536 mw_124 mw_537 (by decide +kernel) ⟨by decide, by decide⟩ hl.1 rfl (Nat.le_of_ble_eq_true rfl) ⟨Nat.zero_le _, Nat.zero_le _⟩ dX7_clear_35 (fun v_7 ar_7 al_7 H locs hq_7 hP hS => ?_)
  have hv_7 : v_7 = v_6 := hq_7.1
  rw [hv_7] at hP
  exact x_wv hE hr hlo hP hS (fun i j h => ((up_oth hv_6 (fun q => h (by rcases q with ⟨rfl, rfl⟩; decide))).trans ((up_oth hv_5 (fun q => h (by rcases q with ⟨rfl, rfl⟩; decide))).trans ((up_oth hv_4 (fun q => h (by rcases q with ⟨rfl, rfl⟩; decide))).trans ((up_oth hv_3 (fun q => h (by rcases q with ⟨rfl, rfl⟩; decide))).trans ((up_oth hv_2 (fun q => h (by rcases q with ⟨rfl, rfl⟩; decide))).trans (up_oth hv_1 (fun q => h (by rcases q with ⟨rfl, rfl⟩; decide))))))))) dX7_clear_38

theorem dX1_clear_0 : decode cX1_clear 0 = .ok (.aload_n 0, 1) := by decide +kernel
theorem dX1_clear_1 : decode cX1_clear 1 = .ok (.iconst 0, 1) := by decide +kernel
theorem dX1_clear_2 : decode cX1_clear 2 = .ok (.putfield 39, 3) := by decide +kernel
theorem dX1_clear_5 : decode cX1_clear 5 = .ok (.aload_n 0, 1) := by decide +kernel
theorem dX1_clear_6 : decode cX1_clear 6 = .ok (.iconst 0, 1) := by decide +kernel
theorem dX1_clear_7 : decode cX1_clear 7 = .ok (.putfield 43, 3) := by decide +kernel
theorem dX1_clear_10 : decode cX1_clear 10 = .ok (.aload_n 0, 1) := by decide +kernel
theorem dX1_clear_11 : decode cX1_clear 11 = .ok (.iconst 0, 1) := by decide +kernel
theorem dX1_clear_12 : decode cX1_clear 12 = .ok (.putfield 46, 3) := by decide +kernel
theorem dX1_clear_15 : decode cX1_clear 15 = .ok (.aload_n 0, 1) := by decide +kernel
theorem dX1_clear_16 : decode cX1_clear 16 = .ok (.iconst 0, 1) := by decide +kernel
theorem dX1_clear_17 : decode cX1_clear 17 = .ok (.putfield 49, 3) := by decide +kernel
theorem dX1_clear_20 : decode cX1_clear 20 = .ok (.aload_n 0, 1) := by decide +kernel
theorem dX1_clear_21 : decode cX1_clear 21 = .ok (.iconst 0, 1) := by decide +kernel
theorem dX1_clear_22 : decode cX1_clear 22 = .ok (.putfield 52, 3) := by decide +kernel
theorem dX1_clear_25 : decode cX1_clear 25 = .ok (.aload_n 0, 1) := by decide +kernel
theorem dX1_clear_26 : decode cX1_clear 26 = .ok (.iconst 0, 1) := by decide +kernel
theorem dX1_clear_27 : decode cX1_clear 27 = .ok (.putfield 55, 3) := by decide +kernel
theorem dX1_clear_30 : decode cX1_clear 30 = .ok (.aload_n 0, 1) := by decide +kernel
theorem dX1_clear_31 : decode cX1_clear 31 = .ok (.iconst 0, 1) := by decide +kernel
theorem dX1_clear_32 : decode cX1_clear 32 = .ok (.putfield 58, 3) := by decide +kernel
theorem dX1_clear_35 : decode cX1_clear 35 = .ok (.aload_n 0, 1) := by decide +kernel
theorem dX1_clear_36 : decode cX1_clear 36 = .ok (.iconst 0, 1) := by decide +kernel
theorem dX1_clear_37 : decode cX1_clear 37 = .ok (.putfield 61, 3) := by decide +kernel
theorem dX1_clear_40 : decode cX1_clear 40 = .ok (.aload_n 0, 1) := by decide +kernel
theorem dX1_clear_41 : decode cX1_clear 41 = .ok (.iconst 0, 1) := by decide +kernel
theorem dX1_clear_42 : decode cX1_clear 42 = .ok (.putfield 64, 3) := by decide +kernel
theorem dX1_clear_45 : decode cX1_clear 45 = .ok (.aload_n 0, 1) := by decide +kernel
theorem dX1_clear_46 : decode cX1_clear 46 = .ok (.iconst 0, 1) := by decide +kernel
theorem dX1_clear_47 : decode cX1_clear 47 = .ok (.putfield 67, 3) := by decide +kernel
theorem dX1_clear_50 : decode cX1_clear 50 = .ok (.aload_n 0, 1) := by decide +kernel
theorem dX1_clear_51 : decode cX1_clear 51 = .ok (.iconst 0, 1) := by decide +kernel
theorem dX1_clear_52 : decode cX1_clear 52 = .ok (.putfield 70, 3) := by decide +kernel
theorem dX1_clear_55 : decode cX1_clear 55 = .ok (.aload_n 0, 1) := by decide +kernel
theorem dX1_clear_56 : decode cX1_clear 56 = .ok (.getfield 9, 3) := by decide +kernel
theorem dX1_clear_59 : decode cX1_clear 59 = .ok (.iconst 0, 1) := by decide +kernel
theorem dX1_clear_60 : decode cX1_clear 60 = .ok (.invokestatic 73, 3) := by decide +kernel
theorem dX1_clear_63 : decode cX1_clear 63 = .ok (.aload_n 0, 1) := by decide +kernel
theorem dX1_clear_64 : decode cX1_clear 64 = .ok (.getfield 15, 3) := by decide +kernel
theorem dX1_clear_67 : decode cX1_clear 67 = .ok (.iconst (-1), 1) := by decide +kernel
theorem dX1_clear_68 : decode cX1_clear 68 = .ok (.invokestatic 73, 3) := by decide +kernel
theorem dX1_clear_71 : decode cX1_clear 71 = .ok (.aload_n 0, 1) := by decide +kernel
theorem dX1_clear_72 : decode cX1_clear 72 = .ok (.getfield 18, 3) := by decide +kernel
theorem dX1_clear_75 : decode cX1_clear 75 = .ok (.iconst 0, 1) := by decide +kernel
theorem dX1_clear_76 : decode cX1_clear 76 = .ok (.invokestatic 73, 3) := by decide +kernel
theorem dX1_clear_79 : decode cX1_clear 79 = .ok (.aload_n 0, 1) := by decide +kernel
theorem dX1_clear_80 : decode cX1_clear 80 = .ok (.getfield 21, 3) := by decide +kernel
theorem dX1_clear_83 : decode cX1_clear 83 = .ok (.iconst (-1), 1) := by decide +kernel
theorem dX1_clear_84 : decode cX1_clear 84 = .ok (.invokestatic 73, 3) := by decide +kernel
theorem dX1_clear_87 : decode cX1_clear 87 = .ok (.aload_n 0, 1) := by decide +kernel
theorem dX1_clear_88 : decode cX1_clear 88 = .ok (.getfield 24, 3) := by decide +kernel
theorem dX1_clear_91 : decode cX1_clear 91 = .ok (.iconst 0, 1) := by decide +kernel
theorem dX1_clear_92 : decode cX1_clear 92 = .ok (.invokestatic 73, 3) := by decide +kernel
theorem dX1_clear_95 : decode cX1_clear 95 = .ok (.aload_n 0, 1) := by decide +kernel
theorem dX1_clear_96 : decode cX1_clear 96 = .ok (.getfield 27, 3) := by decide +kernel
theorem dX1_clear_99 : decode cX1_clear 99 = .ok (.iconst 0, 1) := by decide +kernel
theorem dX1_clear_100 : decode cX1_clear 100 = .ok (.invokestatic 73, 3) := by decide +kernel
theorem dX1_clear_103 : decode cX1_clear 103 = .ok (.aload_n 0, 1) := by decide +kernel
theorem dX1_clear_104 : decode cX1_clear 104 = .ok (.getfield 30, 3) := by decide +kernel
theorem dX1_clear_107 : decode cX1_clear 107 = .ok (.iconst 0, 1) := by decide +kernel
theorem dX1_clear_108 : decode cX1_clear 108 = .ok (.invokestatic 73, 3) := by decide +kernel
theorem dX1_clear_111 : decode cX1_clear 111 = .ok (.aload_n 0, 1) := by decide +kernel
theorem dX1_clear_112 : decode cX1_clear 112 = .ok (.getfield 33, 3) := by decide +kernel
theorem dX1_clear_115 : decode cX1_clear 115 = .ok (.iconst 0, 1) := by decide +kernel
theorem dX1_clear_116 : decode cX1_clear 116 = .ok (.invokestatic 73, 3) := by decide +kernel
theorem dX1_clear_119 : decode cX1_clear 119 = .ok (.aload_n 0, 1) := by decide +kernel
theorem dX1_clear_120 : decode cX1_clear 120 = .ok (.getfield 36, 3) := by decide +kernel
theorem dX1_clear_123 : decode cX1_clear 123 = .ok (.iconst 0, 1) := by decide +kernel
theorem dX1_clear_124 : decode cX1_clear 124 = .ok (.invokestatic 73, 3) := by decide +kernel
theorem dX1_clear_127 : decode cX1_clear 127 = .ok (.return_, 1) := by decide +kernel
set_option maxHeartbeats 4000000 in
set_option maxRecDepth 100000 in
theorem k_X1_clear_13 (l : Launch) (D : va_G) (K : Nat → ClassId) (ad : Nat → Nat) (mm : Option Nat) (v ar : sI) (al : sL) : Met l yX1_clear (wM yX1_clear cX1_clear 1 none) (rmD 1) (va_Pc [.ref (ad 13)] (wPre D K ad (xG ad K mm) 132 v ar al)) (va_Qv (fun u : sT => (∀ i j : Nat, (i, j) ∉ ([(13, 0), (13, 1), (13, 2), (13, 3), (13, 4), (13, 5), (13, 6), (13, 7), (13, 8), (13, 9), (13, 10)] : List (Nat × Nat)) → u.1 i j = v i j) ∧ u.1 13 4 = 0) (wB D ad (xG ad K mm) 132) (inW ad 132)) 0 0 (inW ad 132) := by
  refine x_met (by decide) (Nat.le_of_ble_eq_true rfl) ?_
  intro p e s m below meth c ls hE hr hlo hnm hB hl
  have hE : CallFix p m c cX1_clear 1 s _ tbG "TaleCourt$Court" := hE
  obtain ⟨hP, hK, hN⟩ := hB
  have hS : va_S (inW ad 132) s.heap s.heap [] := va_S.rf
  have hl : lv_has ls 1 [(0, .ref (ad 13))] := hl
  refine lv_aload_n hE.1 hE.2.1 dX1_clear_0 rfl (lv_at hl 0 rfl) ?_
  refine lv_iconst (v := 0) hE.1 hE.2.1 dX1_clear_1 (by decide) ?_
  refine x_put hE hK hN hP hS 13 (by decide) (xG_1 rfl) rfl hin1 tyX1 tyX1_ok nmX1 0 (by decide) mw_178 rfl rfl rfl (Nat.le_of_ble_eq_true rfl) (xG_1 rfl) dX1_clear_2 (fun v_1 H locs hv_1 hP hS => ?_)
  refine lv_aload_n hE.1 hE.2.1 dX1_clear_5 rfl (lv_at hl 0 rfl) ?_
  refine lv_iconst (v := 0) hE.1 hE.2.1 dX1_clear_6 (by decide) ?_
  refine x_put hE hK hN hP hS 13 (by decide) (xG_1 rfl) rfl hin1 tyX1 tyX1_ok nmX1 1 (by decide) mw_182 rfl rfl rfl (Nat.le_of_ble_eq_true rfl) (xG_1 rfl) dX1_clear_7 (fun v_2 H locs hv_2 hP hS => ?_)
  refine lv_aload_n hE.1 hE.2.1 dX1_clear_10 rfl (lv_at hl 0 rfl) ?_
  refine lv_iconst (v := 0) hE.1 hE.2.1 dX1_clear_11 (by decide) ?_
  refine x_put hE hK hN hP hS 13 (by decide) (xG_1 rfl) rfl hin1 tyX1 tyX1_ok nmX1 2 (by decide) mw_187 rfl rfl rfl (Nat.le_of_ble_eq_true rfl) (xG_1 rfl) dX1_clear_12 (fun v_3 H locs hv_3 hP hS => ?_)
  refine lv_aload_n hE.1 hE.2.1 dX1_clear_15 rfl (lv_at hl 0 rfl) ?_
  refine lv_iconst (v := 0) hE.1 hE.2.1 dX1_clear_16 (by decide) ?_
  refine x_put hE hK hN hP hS 13 (by decide) (xG_1 rfl) rfl hin1 tyX1 tyX1_ok nmX1 3 (by decide) mw_190 rfl rfl rfl (Nat.le_of_ble_eq_true rfl) (xG_1 rfl) dX1_clear_17 (fun v_4 H locs hv_4 hP hS => ?_)
  refine lv_aload_n hE.1 hE.2.1 dX1_clear_20 rfl (lv_at hl 0 rfl) ?_
  refine lv_iconst (v := 0) hE.1 hE.2.1 dX1_clear_21 (by decide) ?_
  refine x_put hE hK hN hP hS 13 (by decide) (xG_1 rfl) rfl hin1 tyX1 tyX1_ok nmX1 4 (by decide) mw_194 rfl rfl rfl (Nat.le_of_ble_eq_true rfl) (xG_1 rfl) dX1_clear_22 (fun v_5 H locs hv_5 hP hS => ?_)
  refine lv_aload_n hE.1 hE.2.1 dX1_clear_25 rfl (lv_at hl 0 rfl) ?_
  refine lv_iconst (v := 0) hE.1 hE.2.1 dX1_clear_26 (by decide) ?_
  refine x_put hE hK hN hP hS 13 (by decide) (xG_1 rfl) rfl hin1 tyX1 tyX1_ok nmX1 5 (by decide) mw_197 rfl rfl rfl (Nat.le_of_ble_eq_true rfl) (xG_1 rfl) dX1_clear_27 (fun v_6 H locs hv_6 hP hS => ?_)
  refine lv_aload_n hE.1 hE.2.1 dX1_clear_30 rfl (lv_at hl 0 rfl) ?_
  refine lv_iconst (v := 0) hE.1 hE.2.1 dX1_clear_31 (by decide) ?_
  refine x_put hE hK hN hP hS 13 (by decide) (xG_1 rfl) rfl hin1 tyX1 tyX1_ok nmX1 6 (by decide) mw_200 rfl rfl rfl (Nat.le_of_ble_eq_true rfl) (xG_1 rfl) dX1_clear_32 (fun v_7 H locs hv_7 hP hS => ?_)
  refine lv_aload_n hE.1 hE.2.1 dX1_clear_35 rfl (lv_at hl 0 rfl) ?_
  refine lv_iconst (v := 0) hE.1 hE.2.1 dX1_clear_36 (by decide) ?_
  refine x_put hE hK hN hP hS 13 (by decide) (xG_1 rfl) rfl hin1 tyX1 tyX1_ok nmX1 7 (by decide) mw_203 rfl rfl rfl (Nat.le_of_ble_eq_true rfl) (xG_1 rfl) dX1_clear_37 (fun v_8 H locs hv_8 hP hS => ?_)
  refine lv_aload_n hE.1 hE.2.1 dX1_clear_40 rfl (lv_at hl 0 rfl) ?_
  refine lv_iconst (v := 0) hE.1 hE.2.1 dX1_clear_41 (by decide) ?_
  refine x_put hE hK hN hP hS 13 (by decide) (xG_1 rfl) rfl hin1 tyX1 tyX1_ok nmX1 8 (by decide) mw_207 rfl rfl rfl (Nat.le_of_ble_eq_true rfl) (xG_1 rfl) dX1_clear_42 (fun v_9 H locs hv_9 hP hS => ?_)
  refine lv_aload_n hE.1 hE.2.1 dX1_clear_45 rfl (lv_at hl 0 rfl) ?_
  refine lv_iconst (v := 0) hE.1 hE.2.1 dX1_clear_46 (by decide) ?_
  refine x_put hE hK hN hP hS 13 (by decide) (xG_1 rfl) rfl hin1 tyX1 tyX1_ok nmX1 9 (by decide) mw_211 rfl rfl rfl (Nat.le_of_ble_eq_true rfl) (xG_1 rfl) dX1_clear_47 (fun v_10 H locs hv_10 hP hS => ?_)
  refine lv_aload_n hE.1 hE.2.1 dX1_clear_50 rfl (lv_at hl 0 rfl) ?_
  refine lv_iconst (v := 0) hE.1 hE.2.1 dX1_clear_51 (by decide) ?_
  refine x_put hE hK hN hP hS 13 (by decide) (xG_1 rfl) rfl hin1 tyX1 tyX1_ok nmX1 10 (by decide) mw_214 rfl rfl rfl (Nat.le_of_ble_eq_true rfl) (xG_1 rfl) dX1_clear_52 (fun v_11 H locs hv_11 hP hS => ?_)
  refine lv_aload_n hE.1 hE.2.1 dX1_clear_55 rfl (lv_at hl 0 rfl) ?_
  refine x_get (x := .ref (ad 14)) hE hK hP 13 (by decide) (xG_1 rfl) rfl hin1 11 (by decide) mw_218 rfl dX1_clear_56 ?_
  refine lv_iconst (v := 0) hE.1 hE.2.1 dX1_clear_59 (by decide) ?_
  refine x_sv (nn := 2) (As := [.ref (ad 14), .int 0]) (rest := []) hE hK hN hP hS (k_fillI l D K ad v_11 ar al 14 9 (by decide) (fun _ => xG_10 rfl) (Nat.le_of_ble_eq_true rfl) 0) rfl mw_535 mw_536 mw_124 mw_537 (by decide +kernel) ⟨by decide, by decide⟩ hl.1 rfl (Nat.le_of_ble_eq_true rfl) ⟨Nat.zero_le _, Nat.zero_le _⟩ dX1_clear_60 (fun v_12 ar_12 al_12 H locs hq_12 hP hS => ?_)
  have hv_12 : v_12 = v_11 := hq_12.1
  rw [hv_12] at hP
  refine lv_aload_n hE.1 hE.2.1 dX1_clear_63 rfl (lv_at hl 0 rfl) ?_
  refine x_get (x := .ref (ad 15)) hE hK hP 13 (by decide) (xG_1 rfl) rfl hin1 12 (by decide) mw_221 rfl dX1_clear_64 ?_
  refine lv_iconst (v := (-1)) hE.1 hE.2.1 dX1_clear_67 (by decide) ?_
  refine x_sv (nn := 2) (As := [.ref (ad 15), .int (-1)]) (rest := []) hE hK hN hP hS (k_fillI l D K ad v_11 ar_12 al_12 15 9 (by decide) (fun _ => xG_10 rfl) (Nat.le_of_ble_eq_true rfl) (-1)) rfl mw_535 mw_536 mw_124 mw_537 (by decide +kernel) ⟨by decide, by decide⟩ hl.1 rfl (Nat.le_of_ble_eq_true rfl) ⟨Nat.zero_le _, Nat.zero_le _⟩ dX1_clear_68 (fun v_13 ar_13 al_13 H locs hq_13 hP hS => ?_)
  have hv_13 : v_13 = v_11 := hq_13.1
  rw [hv_13] at hP
  refine lv_aload_n hE.1 hE.2.1 dX1_clear_71 rfl (lv_at hl 0 rfl) ?_
  refine x_get (x := .ref (ad 16)) hE hK hP 13 (by decide) (xG_1 rfl) rfl hin1 13 (by decide) mw_225 rfl dX1_clear_72 ?_
  refine lv_iconst (v := 0) hE.1 hE.2.1 dX1_clear_75 (by decide) ?_
  refine x_sv (nn := 2) (As := [.ref (ad 16), .int 0]) (rest := []) hE hK hN hP hS (k_fillI l D K ad v_11 ar_13 al_13 16 9 (by decide) (fun _ => xG_10 rfl) (Nat.le_of_ble_eq_true rfl) 0) rfl mw_535 mw_536 mw_124 mw_537 (by decide +kernel) ⟨by decide, by decide⟩ hl.1 rfl (Nat.le_of_ble_eq_true rfl) ⟨Nat.zero_le _, Nat.zero_le _⟩ dX1_clear_76 (fun v_14 ar_14 al_14 H locs hq_14 hP hS => ?_)
  have hv_14 : v_14 = v_11 := hq_14.1
  rw [hv_14] at hP
  refine lv_aload_n hE.1 hE.2.1 dX1_clear_79 rfl (lv_at hl 0 rfl) ?_
  refine x_get (x := .ref (ad 17)) hE hK hP 13 (by decide) (xG_1 rfl) rfl hin1 14 (by decide) mw_229 rfl dX1_clear_80 ?_
  refine lv_iconst (v := (-1)) hE.1 hE.2.1 dX1_clear_83 (by decide) ?_
  refine x_sv (nn := 2) (As := [.ref (ad 17), .int (-1)]) (rest := []) hE hK hN hP hS (k_fillI l D K ad v_11 ar_14 al_14 17 9 (by decide) (fun _ => xG_10 rfl) (Nat.le_of_ble_eq_true rfl) (-1)) rfl mw_535 mw_536 mw_124 mw_537 (by decide +kernel) ⟨by decide, by decide⟩ hl.1 rfl (Nat.le_of_ble_eq_true rfl) ⟨Nat.zero_le _, Nat.zero_le _⟩ dX1_clear_84 (fun v_15 ar_15 al_15 H locs hq_15 hP hS => ?_)
  have hv_15 : v_15 = v_11 := hq_15.1
  rw [hv_15] at hP
  refine lv_aload_n hE.1 hE.2.1 dX1_clear_87 rfl (lv_at hl 0 rfl) ?_
  refine x_get (x := .ref (ad 18)) hE hK hP 13 (by decide) (xG_1 rfl) rfl hin1 15 (by decide) mw_231 rfl dX1_clear_88 ?_
  refine lv_iconst (v := 0) hE.1 hE.2.1 dX1_clear_91 (by decide) ?_
  refine x_sv (nn := 2) (As := [.ref (ad 18), .int 0]) (rest := []) hE hK hN hP hS (k_fillI l D K ad v_11 ar_15 al_15 18 9 (by decide) (fun _ => xG_10 rfl) (Nat.le_of_ble_eq_true rfl) 0) rfl mw_535 mw_536 mw_124 mw_537 (by decide +kernel) ⟨by decide, by decide⟩ hl.1 rfl (Nat.le_of_ble_eq_true rfl) ⟨Nat.zero_le _, Nat.zero_le _⟩ dX1_clear_92 (fun v_16 ar_16 al_16 H locs hq_16 hP hS => ?_)
  have hv_16 : v_16 = v_11 := hq_16.1
  rw [hv_16] at hP
  refine lv_aload_n hE.1 hE.2.1 dX1_clear_95 rfl (lv_at hl 0 rfl) ?_
  refine x_get (x := .ref (ad 19)) hE hK hP 13 (by decide) (xG_1 rfl) rfl hin1 16 (by decide) mw_235 rfl dX1_clear_96 ?_
  refine lv_iconst (v := 0) hE.1 hE.2.1 dX1_clear_99 (by decide) ?_
  refine x_sv (nn := 2) (As := [.ref (ad 19), .int 0]) (rest := []) hE hK hN hP hS (k_fillI l D K ad v_11 ar_16 al_16 19 9 (by decide) (fun _ => xG_10 rfl) (Nat.le_of_ble_eq_true rfl) 0) rfl mw_535 mw_536 mw_124 mw_537 (by decide +kernel) ⟨by decide, by decide⟩ hl.1 rfl (Nat.le_of_ble_eq_true rfl) ⟨Nat.zero_le _, Nat.zero_le _⟩ dX1_clear_100 (fun v_17 ar_17 al_17 H locs hq_17 hP hS => ?_)
  have hv_17 : v_17 = v_11 := hq_17.1
  rw [hv_17] at hP
  refine lv_aload_n hE.1 hE.2.1 dX1_clear_103 rfl (lv_at hl 0 rfl) ?_
  refine x_get (x := .ref (ad 20)) hE hK hP 13 (by decide) (xG_1 rfl) rfl hin1 17 (by decide) mw_239 rfl dX1_clear_104 ?_
  refine lv_iconst (v := 0) hE.1 hE.2.1 dX1_clear_107 (by decide) ?_
  refine x_sv (nn := 2) (As := [.ref (ad 20), .int 0]) (rest := []) hE hK hN hP hS (k_fillI l D K ad v_11 ar_17 al_17 20 3 (by decide) (fun _ => xG_10 rfl) (Nat.le_of_ble_eq_true rfl) 0) rfl mw_535 mw_536 mw_124 mw_537 (by decide +kernel) ⟨by decide, by decide⟩ hl.1 rfl (Nat.le_of_ble_eq_true rfl) ⟨Nat.zero_le _, Nat.zero_le _⟩ dX1_clear_108 (fun v_18 ar_18 al_18 H locs hq_18 hP hS => ?_)
  have hv_18 : v_18 = v_11 := hq_18.1
  rw [hv_18] at hP
  refine lv_aload_n hE.1 hE.2.1 dX1_clear_111 rfl (lv_at hl 0 rfl) ?_
  refine x_get (x := .ref (ad 21)) hE hK hP 13 (by decide) (xG_1 rfl) rfl hin1 18 (by decide) mw_241 rfl dX1_clear_112 ?_
  refine lv_iconst (v := 0) hE.1 hE.2.1 dX1_clear_115 (by decide) ?_
  refine x_sv (nn := 2) (As := [.ref (ad 21), .int 0]) (rest := []) hE hK hN hP hS (k_fillI l D K ad v_11 ar_18 al_18 21 8 (by decide) (fun _ => xG_10 rfl) (Nat.le_of_ble_eq_true rfl) 0) rfl mw_535 mw_536 mw_124 mw_537 (by decide +kernel) ⟨by decide, by decide⟩ hl.1 rfl (Nat.le_of_ble_eq_true rfl) ⟨Nat.zero_le _, Nat.zero_le _⟩ dX1_clear_116 (fun v_19 ar_19 al_19 H locs hq_19 hP hS => ?_)
  have hv_19 : v_19 = v_11 := hq_19.1
  rw [hv_19] at hP
  refine lv_aload_n hE.1 hE.2.1 dX1_clear_119 rfl (lv_at hl 0 rfl) ?_
  refine x_get (x := .ref (ad 22)) hE hK hP 13 (by decide) (xG_1 rfl) rfl hin1 19 (by decide) mw_244 rfl dX1_clear_120 ?_
  refine lv_iconst (v := 0) hE.1 hE.2.1 dX1_clear_123 (by decide) ?_
  refine x_sv (nn := 2) (As := [.ref (ad 22), .int 0]) (rest := []) hE hK hN hP hS (k_fillI l D K ad v_11 ar_19 al_19 22 8 (by decide) (fun _ => xG_10 rfl) (Nat.le_of_ble_eq_true rfl) 0) rfl mw_535 mw_536 mw_124 mw_537 (by decide +kernel) ⟨by decide, by decide⟩ hl.1 rfl (Nat.le_of_ble_eq_true rfl) ⟨Nat.zero_le _, Nat.zero_le _⟩ dX1_clear_124 (fun v_20 ar_20 al_20 H locs hq_20 hP hS => ?_)
  have hv_20 : v_20 = v_11 := hq_20.1
  rw [hv_20] at hP
  exact x_wv hE hr hlo hP hS ⟨fun i j h => ((up_oth hv_11 (fun q => h (by rcases q with ⟨rfl, rfl⟩; decide))).trans ((up_oth hv_10 (fun q => h (by rcases q with ⟨rfl, rfl⟩; decide))).trans ((up_oth hv_9 (fun q => h (by rcases q with ⟨rfl, rfl⟩; decide))).trans ((up_oth hv_8 (fun q => h (by rcases q with ⟨rfl, rfl⟩; decide))).trans ((up_oth hv_7 (fun q => h (by rcases q with ⟨rfl, rfl⟩; decide))).trans ((up_oth hv_6 (fun q => h (by rcases q with ⟨rfl, rfl⟩; decide))).trans ((up_oth hv_5 (fun q => h (by rcases q with ⟨rfl, rfl⟩; decide))).trans ((up_oth hv_4 (fun q => h (by rcases q with ⟨rfl, rfl⟩; decide))).trans ((up_oth hv_3 (fun q => h (by rcases q with ⟨rfl, rfl⟩; decide))).trans ((up_oth hv_2 (fun q => h (by rcases q with ⟨rfl, rfl⟩; decide))).trans (up_oth hv_1 (fun q => h (by rcases q with ⟨rfl, rfl⟩; decide))))))))))))), ((up_oth hv_11 (by decide)).trans ((up_oth hv_10 (by decide)).trans ((up_oth hv_9 (by decide)).trans ((up_oth hv_8 (by decide)).trans ((up_oth hv_7 (by decide)).trans ((up_oth hv_6 (by decide)).trans (up_eq hv_5)))))))⟩ dX1_clear_127

theorem dX4_byteAt_0 : decode cX4_byteAt 0 = .ok (.iload_n 1, 1) := by decide +kernel
theorem dX4_byteAt_1 : decode cX4_byteAt 1 = .ok (.ifCond .lt 31, 3) := by decide +kernel
theorem dX4_byteAt_4 : decode cX4_byteAt 4 = .ok (.iload_n 1, 1) := by decide +kernel
theorem dX4_byteAt_5 : decode cX4_byteAt 5 = .ok (.aload_n 0, 1) := by decide +kernel
theorem dX4_byteAt_6 : decode cX4_byteAt 6 = .ok (.getfield 19, 3) := by decide +kernel
theorem dX4_byteAt_9 : decode cX4_byteAt 9 = .ok (.if_icmp .ge 23, 3) := by decide +kernel
theorem dX4_byteAt_32 : decode cX4_byteAt 32 = .ok (.iconst (-1), 1) := by decide +kernel
theorem dX4_byteAt_33 : decode cX4_byteAt 33 = .ok (.ireturn, 1) := by decide +kernel
set_option maxHeartbeats 4000000 in
set_option maxRecDepth 100000 in
theorem k_X4_byteAt_0 (l : Launch) (D : va_G) (K : Nat → ClassId) (ad : Nat → Nat) (mm : Option Nat) (v ar : sI) (al : sL) (h_1_0 : v 1 0 = 0) : Met l yX4_byteAt (wM yX4_byteAt cX4_byteAt 2 (some .int)) (rmD 0) (va_Pc [.ref (ad 1), .int 0] (wPre D K ad (xG ad K mm) 132 v ar al)) (vp_Si (fun r => r = -1)) 0 0 (fun _ => False) := by
  refine x_met (by decide) (Nat.le_of_ble_eq_true rfl) ?_
  intro p e s m below meth c ls hE hr hlo hnm hB hl
  have hE : CallFix p m c cX4_byteAt 2 s _ tbG "TaleCourt$Reader" := hE
  obtain ⟨hP, hK, hN⟩ := hB
  have hS : va_S (inW ad 132) s.heap s.heap [] := va_S.rf
  have hl : lv_has ls 2 [(0, .ref (ad 1)), (1, .int 0)] := hl
  refine lv_iload_n hE.1 hE.2.1 dX4_byteAt_0 rfl (lv_at hl 1 rfl) ?_
  refine lv_if_lt (tgt := 32) hE.1 hE.2.1 dX4_byteAt_1 (by decide) (fun h => absurd h (by decide)) (fun _ => ?_)
  refine lv_iload_n hE.1 hE.2.1 dX4_byteAt_4 rfl (lv_at hl 1 rfl) ?_
  refine lv_aload_n hE.1 hE.2.1 dX4_byteAt_5 rfl (lv_at hl 0 rfl) ?_
  refine x_get (x := .int (v 1 0)) hE hK hP 1 (by decide) (xG_4 rfl) rfl hin4 0 (by decide) mw_146 rfl dX4_byteAt_6 ?_
  refine x_top (y := 0) h_1_0 ?_
  refine lv_icmp_ge (tgt := 32) hE.1 hE.2.1 dX4_byteAt_9 (by decide) (fun _ => ?_) (fun h => absurd (by decide) h)
  refine lv_iconst (v := (-1)) hE.1 hE.2.1 dX4_byteAt_32 (by decide) ?_
  exact x_ri (post := fun r => r = (-1)) hE hr hlo rfl rfl dX4_byteAt_33

theorem dX4_kindOf_0 : decode cX4_kindOf 0 = .ok (.iload_n 0, 1) := by decide +kernel
theorem dX4_kindOf_1 : decode cX4_kindOf 1 = .ok (.iconst (-1), 1) := by decide +kernel
theorem dX4_kindOf_2 : decode cX4_kindOf 2 = .ok (.if_icmp .ne 5, 3) := by decide +kernel
theorem dX4_kindOf_5 : decode cX4_kindOf 5 = .ok (.iconst 0, 1) := by decide +kernel
theorem dX4_kindOf_6 : decode cX4_kindOf 6 = .ok (.ireturn, 1) := by decide +kernel
set_option maxHeartbeats 4000000 in
set_option maxRecDepth 100000 in
theorem k_X4_kindOf_m (l : Launch) : Met l yX4_kindOf (wM yX4_kindOf cX4_kindOf 1 (some .int)) (rmD 0) (va_Pc [.int (-1)] (fun _ => True)) (vp_Si (fun r => r = 0)) 0 0 (fun _ => False) := by
  refine x_met (by decide) (Nat.le_of_ble_eq_true rfl) ?_
  intro p e s m below meth c ls hE hr hlo hnm hB hl
  have hE : CallFix p m c cX4_kindOf 1 s _ tbG "TaleCourt$Reader" := hE
  have hl : lv_has ls 1 [(0, .int (-1))] := hl
  refine lv_iload_n hE.1 hE.2.1 dX4_kindOf_0 rfl (lv_at hl 0 rfl) ?_
  refine lv_iconst (v := (-1)) hE.1 hE.2.1 dX4_kindOf_1 (by decide) ?_
  refine lv_icmp_ne (tgt := 7) hE.1 hE.2.1 dX4_kindOf_2 (by decide) (fun h => absurd (by decide) h) (fun _ => ?_)
  refine lv_iconst (v := 0) hE.1 hE.2.1 dX4_kindOf_5 (by decide) ?_
  exact x_ri (post := fun r => r = 0) hE hr hlo rfl rfl dX4_kindOf_6

theorem dX4_step_0 : decode cX4_step 0 = .ok (.aload_n 0, 1) := by decide +kernel
theorem dX4_step_1 : decode cX4_step 1 = .ok (.getfield 27, 3) := by decide +kernel
theorem dX4_step_4 : decode cX4_step 4 = .ok (.ifCond .eq 4, 3) := by decide +kernel
theorem dX4_step_8 : decode cX4_step 8 = .ok (.aload_n 0, 1) := by decide +kernel
theorem dX4_step_9 : decode cX4_step 9 = .ok (.aload_n 0, 1) := by decide +kernel
theorem dX4_step_10 : decode cX4_step 10 = .ok (.getfield 30, 3) := by decide +kernel
theorem dX4_step_13 : decode cX4_step 13 = .ok (.putfield 172, 3) := by decide +kernel
theorem dX4_step_16 : decode cX4_step 16 = .ok (.iconst 0, 1) := by decide +kernel
theorem dX4_step_17 : decode cX4_step 17 = .ok (.istore_n 1, 1) := by decide +kernel
theorem dX4_step_18 : decode cX4_step 18 = .ok (.iload_n 1, 1) := by decide +kernel
theorem dX4_step_19 : decode cX4_step 19 = .ok (.sipush 1600, 3) := by decide +kernel
theorem dX4_step_22 : decode cX4_step 22 = .ok (.if_icmp .ge 34, 3) := by decide +kernel
theorem dX4_step_25 : decode cX4_step 25 = .ok (.aload_n 0, 1) := by decide +kernel
theorem dX4_step_26 : decode cX4_step 26 = .ok (.aload_n 0, 1) := by decide +kernel
theorem dX4_step_27 : decode cX4_step 27 = .ok (.getfield 172, 3) := by decide +kernel
theorem dX4_step_30 : decode cX4_step 30 = .ok (.invokevirtual 184, 3) := by decide +kernel
theorem dX4_step_33 : decode cX4_step 33 = .ok (.invokestatic 192, 3) := by decide +kernel
theorem dX4_step_36 : decode cX4_step 36 = .ok (.iconst 1, 1) := by decide +kernel
theorem dX4_step_37 : decode cX4_step 37 = .ok (.if_icmp .ne 19, 3) := by decide +kernel
theorem dX4_step_56 : decode cX4_step 56 = .ok (.aload_n 0, 1) := by decide +kernel
theorem dX4_step_57 : decode cX4_step 57 = .ok (.aload_n 0, 1) := by decide +kernel
theorem dX4_step_58 : decode cX4_step 58 = .ok (.aload_n 0, 1) := by decide +kernel
theorem dX4_step_59 : decode cX4_step 59 = .ok (.getfield 172, 3) := by decide +kernel
theorem dX4_step_62 : decode cX4_step 62 = .ok (.invokevirtual 184, 3) := by decide +kernel
theorem dX4_step_65 : decode cX4_step 65 = .ok (.invokestatic 192, 3) := by decide +kernel
theorem dX4_step_68 : decode cX4_step 68 = .ok (.putfield 36, 3) := by decide +kernel
theorem dX4_step_71 : decode cX4_step 71 = .ok (.aload_n 0, 1) := by decide +kernel
theorem dX4_step_72 : decode cX4_step 72 = .ok (.aload_n 0, 1) := by decide +kernel
theorem dX4_step_73 : decode cX4_step 73 = .ok (.getfield 36, 3) := by decide +kernel
theorem dX4_step_76 : decode cX4_step 76 = .ok (.ifCond .ne 10, 3) := by decide +kernel
theorem dX4_step_79 : decode cX4_step 79 = .ok (.aload_n 0, 1) := by decide +kernel
theorem dX4_step_80 : decode cX4_step 80 = .ok (.getfield 172, 3) := by decide +kernel
theorem dX4_step_83 : decode cX4_step 83 = .ok (.goto 9, 3) := by decide +kernel
theorem dX4_step_92 : decode cX4_step 92 = .ok (.putfield 30, 3) := by decide +kernel
theorem dX4_step_95 : decode cX4_step 95 = .ok (.aload_n 0, 1) := by decide +kernel
theorem dX4_step_96 : decode cX4_step 96 = .ok (.getfield 36, 3) := by decide +kernel
theorem dX4_step_99 : decode cX4_step 99 = .ok (.iconst 2, 1) := by decide +kernel
theorem dX4_step_100 : decode cX4_step 100 = .ok (.if_icmp .eq 11, 3) := by decide +kernel
theorem dX4_step_103 : decode cX4_step 103 = .ok (.aload_n 0, 1) := by decide +kernel
theorem dX4_step_104 : decode cX4_step 104 = .ok (.getfield 36, 3) := by decide +kernel
theorem dX4_step_107 : decode cX4_step 107 = .ok (.iconst 3, 1) := by decide +kernel
theorem dX4_step_108 : decode cX4_step 108 = .ok (.if_icmp .ne 7, 3) := by decide +kernel
theorem dX4_step_115 : decode cX4_step 115 = .ok (.iconst 0, 1) := by decide +kernel
theorem dX4_step_116 : decode cX4_step 116 = .ok (.istore_n 1, 1) := by decide +kernel
theorem dX4_step_117 : decode cX4_step 117 = .ok (.iconst 0, 1) := by decide +kernel
theorem dX4_step_118 : decode cX4_step 118 = .ok (.istore_n 2, 1) := by decide +kernel
theorem dX4_step_119 : decode cX4_step 119 = .ok (.iload_n 1, 1) := by decide +kernel
theorem dX4_step_120 : decode cX4_step 120 = .ok (.ifCond .eq 44, 3) := by decide +kernel
theorem dX4_step_164 : decode cX4_step 164 = .ok (.return_, 1) := by decide +kernel
set_option maxHeartbeats 4000000 in
set_option maxRecDepth 100000 in
theorem k_X4_step_e (l : Launch) (D : va_G) (K : Nat → ClassId) (ad : Nat → Nat) (mm : Option Nat) (v ar : sI) (al : sL) (h_1_0 : v 1 0 = 0) (h_1_1 : v 1 1 = 0) (h_1_5 : v 1 5 = 0) : Met l yX4_step (wM yX4_step cX4_step 3 none) (rmD 1) (va_Pc [.ref (ad 1)] (wPre D K ad (xG ad K mm) 132 v ar al)) (va_Qv (fun u : sT => (∀ i j : Nat, (i, j) ∉ ([(1, 4), (1, 5), (1, 6)] : List (Nat × Nat)) → u.1 i j = v i j) ∧ u.1 1 6 = 0 ∧ u.2.1 = ar ∧ u.2.2 = al) (wB D ad (xG ad K mm) 132) (inW ad 132)) 0 0 (inW ad 132) := by
  refine x_met (by decide) (Nat.le_of_ble_eq_true rfl) ?_
  intro p e s m below meth c ls hE hr hlo hnm hB hl
  have hE : CallFix p m c cX4_step 3 s _ tbG "TaleCourt$Reader" := hE
  obtain ⟨hP, hK, hN⟩ := hB
  have hS : va_S (inW ad 132) s.heap s.heap [] := va_S.rf
  have hl : lv_has ls 3 [(0, .ref (ad 1))] := hl
  refine lv_aload_n hE.1 hE.2.1 dX4_step_0 rfl (lv_at hl 0 rfl) ?_
  refine x_get (x := .int (v 1 1)) hE hK hP 1 (by decide) (xG_4 rfl) rfl hin4 1 (by decide) mw_148 rfl dX4_step_1 ?_
  refine x_top (y := 0) h_1_1 ?_
  refine lv_if_eq (tgt := 8) hE.1 hE.2.1 dX4_step_4 (by decide) (fun _ => ?_) (fun h => absurd (by decide) h)
  refine lv_aload_n hE.1 hE.2.1 dX4_step_8 rfl (lv_at hl 0 rfl) ?_
  refine lv_aload_n hE.1 hE.2.1 dX4_step_9 rfl (lv_at hl 0 rfl) ?_
  refine x_get (x := .int (v 1 5)) hE hK hP 1 (by decide) (xG_4 rfl) rfl hin4 5 (by decide) mw_154 rfl dX4_step_10 ?_
  refine x_top (y := 0) h_1_5 ?_
  refine x_put hE hK hN hP hS 1 (by decide) (xG_4 rfl) rfl hin4 tyX4 tyX4_ok nmX4 4 (by decide) mw_153 rfl rfl rfl (Nat.le_of_ble_eq_true rfl) (xG_4 rfl) dX4_step_13 (fun v_1 H locs hv_1 hP hS => ?_)
  refine lv_iconst (v := 0) hE.1 hE.2.1 dX4_step_16 (by decide) ?_
  refine lv_istore_n (lv' := [(1, .int 0), (0, .ref (ad 1))]) hE.1 hE.2.1 dX4_step_17 rfl hl (by decide) rfl (fun ls hl => ?_)
  refine lv_iload_n hE.1 hE.2.1 dX4_step_18 rfl (lv_at hl 0 rfl) ?_
  refine lv_sipush (v := 1600) hE.1 hE.2.1 dX4_step_19 (by decide) ?_
  refine lv_icmp_ge (tgt := 56) hE.1 hE.2.1 dX4_step_22 (by decide) (fun h => absurd h (by decide)) (fun _ => ?_)
  refine lv_aload_n hE.1 hE.2.1 dX4_step_25 rfl (lv_at hl 1 rfl) ?_
  refine lv_aload_n hE.1 hE.2.1 dX4_step_26 rfl (lv_at hl 1 rfl) ?_
  refine x_get (x := .int (v_1 1 4)) hE hK hP 1 (by decide) (xG_4 rfl) rfl hin4 4 (by decide) mw_153 rfl dX4_step_27 ?_
  refine x_top (y := 0) (up_eq hv_1) ?_
  refine x_vp (nn := 1) (As := [.int 0]) (rest := []) hE (k_X4_byteAt_0 l D K ad mm v_1 ar al ((up_oth hv_1 (by decide)).trans h_1_0)) wPre_blind (wPre_now hK hN hP) (x_recv hK hP 1 (by decide) (xG_4 rfl) rfl) rfl mw_542 mw_544 mw_1 mw_115 mw_545 (by decide +kernel) ⟨by decide, by decide⟩ hl.1 rfl (Nat.le_of_ble_eq_true rfl) ⟨Nat.zero_le _, Nat.zero_le _⟩ dX4_step_30 (fun r_2 hr_2 => ?_)
  subst hr_2
  refine x_sp (nn := 1) (As := [.int (-1)]) (rest := []) hE (k_X4_kindOf_m l) tt_blind (fun _ _ _ => trivial) rfl mw_546 mw_547 mw_115 mw_548 (by decide +kernel) ⟨by decide, by decide⟩ hl.1 rfl (Nat.le_of_ble_eq_true rfl) ⟨Nat.zero_le _, Nat.zero_le _⟩ dX4_step_33 (fun r_3 hr_3 => ?_)
  subst hr_3
  refine lv_iconst (v := 1) hE.1 hE.2.1 dX4_step_36 (by decide) ?_
  refine lv_icmp_ne (tgt := 56) hE.1 hE.2.1 dX4_step_37 (by decide) (fun _ => ?_) (fun h => absurd h (by decide))
  refine lv_aload_n hE.1 hE.2.1 dX4_step_56 rfl (lv_at hl 1 rfl) ?_
  refine lv_aload_n hE.1 hE.2.1 dX4_step_57 rfl (lv_at hl 1 rfl) ?_
  refine lv_aload_n hE.1 hE.2.1 dX4_step_58 rfl (lv_at hl 1 rfl) ?_
  refine x_get (x := .int (v_1 1 4)) hE hK hP 1 (by decide) (xG_4 rfl) rfl hin4 4 (by decide) mw_153 rfl dX4_step_59 ?_
  refine x_top (y := 0) (up_eq hv_1) ?_
  refine x_vp (nn := 1) (As := [.int 0]) (rest := [.ref (ad 1)]) hE (k_X4_byteAt_0 l D K ad mm v_1 ar al ((up_oth hv_1 (by decide)).trans h_1_0)) wPre_blind (wPre_now hK hN hP) (x_recv hK hP 1 (by decide) (xG_4 rfl) rfl) rfl mw_542 mw_544 mw_1 mw_115 mw_545 (by decide +kernel) ⟨by decide, by decide⟩ hl.1 rfl (Nat.le_of_ble_eq_true rfl) ⟨Nat.zero_le _, Nat.zero_le _⟩ dX4_step_62 (fun r_4 hr_4 => ?_)
  subst hr_4
  refine x_sp (nn := 1) (As := [.int (-1)]) (rest := [.ref (ad 1)]) hE (k_X4_kindOf_m l) tt_blind (fun _ _ _ => trivial) rfl mw_546 mw_547 mw_115 mw_548 (by decide +kernel) ⟨by decide, by decide⟩ hl.1 rfl (Nat.le_of_ble_eq_true rfl) ⟨Nat.zero_le _, Nat.zero_le _⟩ dX4_step_65 (fun r_5 hr_5 => ?_)
  subst hr_5
  refine x_put hE hK hN hP hS 1 (by decide) (xG_4 rfl) rfl hin4 tyX4 tyX4_ok nmX4 6 (by decide) mw_155 rfl rfl rfl (Nat.le_of_ble_eq_true rfl) (xG_4 rfl) dX4_step_68 (fun v_6 H locs hv_6 hP hS => ?_)
  refine lv_aload_n hE.1 hE.2.1 dX4_step_71 rfl (lv_at hl 1 rfl) ?_
  refine lv_aload_n hE.1 hE.2.1 dX4_step_72 rfl (lv_at hl 1 rfl) ?_
  refine x_get (x := .int (v_6 1 6)) hE hK hP 1 (by decide) (xG_4 rfl) rfl hin4 6 (by decide) mw_155 rfl dX4_step_73 ?_
  refine x_top (y := 0) (up_eq hv_6) ?_
  refine lv_if_ne (tgt := 86) hE.1 hE.2.1 dX4_step_76 (by decide) (fun h => absurd (by decide) h) (fun _ => ?_)
  refine lv_aload_n hE.1 hE.2.1 dX4_step_79 rfl (lv_at hl 1 rfl) ?_
  refine x_get (x := .int (v_6 1 4)) hE hK hP 1 (by decide) (xG_4 rfl) rfl hin4 4 (by decide) mw_153 rfl dX4_step_80 ?_
  refine x_top (y := 0) ((up_oth hv_6 (by decide)).trans (up_eq hv_1)) ?_
  refine lv_goto (tgt := 92) hE.1 hE.2.1 dX4_step_83 (by decide) ?_
  refine x_put hE hK hN hP hS 1 (by decide) (xG_4 rfl) rfl hin4 tyX4 tyX4_ok nmX4 5 (by decide) mw_154 rfl rfl rfl (Nat.le_of_ble_eq_true rfl) (xG_4 rfl) dX4_step_92 (fun v_7 H locs hv_7 hP hS => ?_)
  rw [hv_7.trans (up_same ((up_oth hv_6 (by decide)).trans ((up_oth hv_1 (by decide)).trans h_1_5)))] at hP
  refine lv_aload_n hE.1 hE.2.1 dX4_step_95 rfl (lv_at hl 1 rfl) ?_
  refine x_get (x := .int (v_6 1 6)) hE hK hP 1 (by decide) (xG_4 rfl) rfl hin4 6 (by decide) mw_155 rfl dX4_step_96 ?_
  refine x_top (y := 0) (up_eq hv_6) ?_
  refine lv_iconst (v := 2) hE.1 hE.2.1 dX4_step_99 (by decide) ?_
  refine lv_icmp_eq (tgt := 111) hE.1 hE.2.1 dX4_step_100 (by decide) (fun h => absurd h (by decide)) (fun _ => ?_)
  refine lv_aload_n hE.1 hE.2.1 dX4_step_103 rfl (lv_at hl 1 rfl) ?_
  refine x_get (x := .int (v_6 1 6)) hE hK hP 1 (by decide) (xG_4 rfl) rfl hin4 6 (by decide) mw_155 rfl dX4_step_104 ?_
  refine x_top (y := 0) (up_eq hv_6) ?_
  refine lv_iconst (v := 3) hE.1 hE.2.1 dX4_step_107 (by decide) ?_
  refine lv_icmp_ne (tgt := 115) hE.1 hE.2.1 dX4_step_108 (by decide) (fun _ => ?_) (fun h => absurd h (by decide))
  refine lv_iconst (v := 0) hE.1 hE.2.1 dX4_step_115 (by decide) ?_
  refine lv_istore_n (lv' := [(1, .int 0), (0, .ref (ad 1))]) hE.1 hE.2.1 dX4_step_116 rfl hl (by decide) rfl (fun ls hl => ?_)
  refine lv_iconst (v := 0) hE.1 hE.2.1 dX4_step_117 (by decide) ?_
  refine lv_istore_n (lv' := [(2, .int 0), (1, .int 0), (0, .ref (ad 1))]) hE.1 hE.2.1 dX4_step_118 rfl hl (by decide) rfl (fun ls hl => ?_)
  refine lv_iload_n hE.1 hE.2.1 dX4_step_119 rfl (lv_at hl 1 rfl) ?_
  refine lv_if_eq (tgt := 164) hE.1 hE.2.1 dX4_step_120 (by decide) (fun _ => ?_) (fun h => absurd (by decide) h)
  exact x_wv hE hr hlo hP hS ⟨fun i j h => ((up_oth hv_6 (fun q => h (by rcases q with ⟨rfl, rfl⟩; decide))).trans (up_oth hv_1 (fun q => h (by rcases q with ⟨rfl, rfl⟩; decide)))), (up_eq hv_6), rfl, rfl⟩ dX4_step_164

theorem dX4_read_0 : decode cX4_read 0 = .ok (.aload_n 1, 1) := by decide +kernel
theorem dX4_read_1 : decode cX4_read 1 = .ok (.invokevirtual 22, 3) := by decide +kernel
theorem dX4_read_4 : decode cX4_read 4 = .ok (.aload_n 0, 1) := by decide +kernel
theorem dX4_read_5 : decode cX4_read 5 = .ok (.iconst 0, 1) := by decide +kernel
theorem dX4_read_6 : decode cX4_read 6 = .ok (.putfield 27, 3) := by decide +kernel
theorem dX4_read_9 : decode cX4_read 9 = .ok (.aload_n 0, 1) := by decide +kernel
theorem dX4_read_10 : decode cX4_read 10 = .ok (.iconst (-1), 1) := by decide +kernel
theorem dX4_read_11 : decode cX4_read 11 = .ok (.putfield 9, 3) := by decide +kernel
theorem dX4_read_14 : decode cX4_read 14 = .ok (.aload_n 0, 1) := by decide +kernel
theorem dX4_read_15 : decode cX4_read 15 = .ok (.iconst 0, 1) := by decide +kernel
theorem dX4_read_16 : decode cX4_read 16 = .ok (.putfield 30, 3) := by decide +kernel
theorem dX4_read_19 : decode cX4_read 19 = .ok (.aload_n 0, 1) := by decide +kernel
theorem dX4_read_20 : decode cX4_read 20 = .ok (.invokevirtual 33, 3) := by decide +kernel
theorem dX4_read_23 : decode cX4_read 23 = .ok (.iconst 0, 1) := by decide +kernel
theorem dX4_read_24 : decode cX4_read 24 = .ok (.istore_n 2, 1) := by decide +kernel
theorem dX4_read_25 : decode cX4_read 25 = .ok (.iload_n 2, 1) := by decide +kernel
theorem dX4_read_26 : decode cX4_read 26 = .ok (.sipush 1600, 3) := by decide +kernel
theorem dX4_read_29 : decode cX4_read 29 = .ok (.if_icmp .gt 28, 3) := by decide +kernel
theorem dX4_read_32 : decode cX4_read 32 = .ok (.aload_n 0, 1) := by decide +kernel
theorem dX4_read_33 : decode cX4_read 33 = .ok (.getfield 27, 3) := by decide +kernel
theorem dX4_read_36 : decode cX4_read 36 = .ok (.ifCond .ne 21, 3) := by decide +kernel
theorem dX4_read_39 : decode cX4_read 39 = .ok (.aload_n 0, 1) := by decide +kernel
theorem dX4_read_40 : decode cX4_read 40 = .ok (.getfield 36, 3) := by decide +kernel
theorem dX4_read_43 : decode cX4_read 43 = .ok (.ifCond .eq 14, 3) := by decide +kernel
theorem dX4_read_57 : decode cX4_read 57 = .ok (.aload_n 0, 1) := by decide +kernel
theorem dX4_read_58 : decode cX4_read 58 = .ok (.getfield 27, 3) := by decide +kernel
theorem dX4_read_61 : decode cX4_read 61 = .ok (.ifCond .ne 7, 3) := by decide +kernel
theorem dX4_read_64 : decode cX4_read 64 = .ok (.iconst 1, 1) := by decide +kernel
theorem dX4_read_65 : decode cX4_read 65 = .ok (.goto 4, 3) := by decide +kernel
theorem dX4_read_69 : decode cX4_read 69 = .ok (.ireturn, 1) := by decide +kernel
set_option maxHeartbeats 4000000 in
set_option maxRecDepth 100000 in
theorem k_X4_read_e (l : Launch) (D : va_G) (K : Nat → ClassId) (ad : Nat → Nat) (mm : Option Nat) (v ar : sI) (al : sL) (h_1_0 : v 1 0 = 0) : Met l yX4_read (wM yX4_read cX4_read 3 (some .boolean)) (rmD 2) (va_Pc [.ref (ad 1), .ref (ad 13)] (wPre D K ad (xG ad K mm) 132 v ar al)) (va_Qi (fun (r : Int32) (u : sT) => r = 1 ∧ (∀ i j : Nat, (i, j) ∉ ([(13, 0), (13, 1), (13, 2), (13, 3), (13, 4), (13, 5), (13, 6), (13, 7), (13, 8), (13, 9), (13, 10), (1, 1), (1, 2), (1, 4), (1, 5), (1, 6)] : List (Nat × Nat)) → u.1 i j = v i j) ∧ u.1 13 4 = 0) (wB D ad (xG ad K mm) 132) (inW ad 132)) 0 0 (inW ad 132) := by
  refine x_met (by decide) (Nat.le_of_ble_eq_true rfl) ?_
  intro p e s m below meth c ls hE hr hlo hnm hB hl
  have hE : CallFix p m c cX4_read 3 s _ tbG "TaleCourt$Reader" := hE
  obtain ⟨hP, hK, hN⟩ := hB
  have hS : va_S (inW ad 132) s.heap s.heap [] := va_S.rf
  have hl : lv_has ls 3 [(0, .ref (ad 1)), (1, .ref (ad 13))] := hl
  refine lv_aload_n hE.1 hE.2.1 dX4_read_0 rfl (lv_at hl 1 rfl) ?_
  refine x_vv (nn := 0) (As := []) (rest := []) hE hK hN hP hS (k_X1_clear_13 l D K ad mm v ar al  ) (x_recv hK hP 13 (by decide) (xG_1 rfl) rfl) rfl mw_531 mw_532 mw_533 mw_116 mw_534 (by decide +kernel) ⟨by decide, by decide⟩ hl.1 rfl (Nat.le_of_ble_eq_true rfl) ⟨Nat.zero_le _, Nat.zero_le _⟩ dX4_read_1 (fun v_1 ar_1 al_1 H locs hq_1 hP hS => ?_)
  refine lv_aload_n hE.1 hE.2.1 dX4_read_4 rfl (lv_at hl 0 rfl) ?_
  refine lv_iconst (v := 0) hE.1 hE.2.1 dX4_read_5 (by decide) ?_
  refine x_put hE hK hN hP hS 1 (by decide) (xG_4 rfl) rfl hin4 tyX4 tyX4_ok nmX4 1 (by decide) mw_148 rfl rfl rfl (Nat.le_of_ble_eq_true rfl) (xG_4 rfl) dX4_read_6 (fun v_2 H locs hv_2 hP hS => ?_)
  refine lv_aload_n hE.1 hE.2.1 dX4_read_9 rfl (lv_at hl 0 rfl) ?_
  refine lv_iconst (v := (-1)) hE.1 hE.2.1 dX4_read_10 (by decide) ?_
  refine x_put hE hK hN hP hS 1 (by decide) (xG_4 rfl) rfl hin4 tyX4 tyX4_ok nmX4 2 (by decide) mw_150 rfl rfl rfl (Nat.le_of_ble_eq_true rfl) (xG_4 rfl) dX4_read_11 (fun v_3 H locs hv_3 hP hS => ?_)
  refine lv_aload_n hE.1 hE.2.1 dX4_read_14 rfl (lv_at hl 0 rfl) ?_
  refine lv_iconst (v := 0) hE.1 hE.2.1 dX4_read_15 (by decide) ?_
  refine x_put hE hK hN hP hS 1 (by decide) (xG_4 rfl) rfl hin4 tyX4 tyX4_ok nmX4 5 (by decide) mw_154 rfl rfl rfl (Nat.le_of_ble_eq_true rfl) (xG_4 rfl) dX4_read_16 (fun v_4 H locs hv_4 hP hS => ?_)
  refine lv_aload_n hE.1 hE.2.1 dX4_read_19 rfl (lv_at hl 0 rfl) ?_
  refine x_vv (nn := 0) (As := []) (rest := []) hE hK hN hP hS (k_X4_step_e l D K ad mm v_4 ar_1 al_1 ((up_oth hv_4 (by decide)).trans ((up_oth hv_3 (by decide)).trans ((up_oth hv_2 (by decide)).trans ((hq_1.1 1 0 (by decide)).trans h_1_0)))) ((up_oth hv_4 (by decide)).trans ((up_oth hv_3 (by decide)).trans (up_eq hv_2))) (up_eq hv_4) ) (x_recv hK hP 1 (by decide) (xG_4 rfl) rfl) rfl mw_538 mw_540 mw_0 mw_115 mw_541 (by decide +kernel) ⟨by decide, by decide⟩ hl.1 rfl (Nat.le_of_ble_eq_true rfl) ⟨Nat.zero_le _, Nat.zero_le _⟩ dX4_read_20 (fun v_5 ar_5 al_5 H locs hq_5 hP hS => ?_)
  rw [show ar_5 = ar_1 from hq_5.2.2.1, show al_5 = al_1 from hq_5.2.2.2] at hP
  refine lv_iconst (v := 0) hE.1 hE.2.1 dX4_read_23 (by decide) ?_
  refine lv_istore_n (lv' := [(2, .int 0), (0, .ref (ad 1)), (1, .ref (ad 13))]) hE.1 hE.2.1 dX4_read_24 rfl hl (by decide) rfl (fun ls hl => ?_)
  refine lv_iload_n hE.1 hE.2.1 dX4_read_25 rfl (lv_at hl 0 rfl) ?_
  refine lv_sipush (v := 1600) hE.1 hE.2.1 dX4_read_26 (by decide) ?_
  refine lv_icmp_gt (tgt := 57) hE.1 hE.2.1 dX4_read_29 (by decide) (fun h => absurd h (by decide)) (fun _ => ?_)
  refine lv_aload_n hE.1 hE.2.1 dX4_read_32 rfl (lv_at hl 1 rfl) ?_
  refine x_get (x := .int (v_5 1 1)) hE hK hP 1 (by decide) (xG_4 rfl) rfl hin4 1 (by decide) mw_148 rfl dX4_read_33 ?_
  refine x_top (y := 0) ((hq_5.1 1 1 (by decide)).trans ((up_oth hv_4 (by decide)).trans ((up_oth hv_3 (by decide)).trans (up_eq hv_2)))) ?_
  refine lv_if_ne (tgt := 57) hE.1 hE.2.1 dX4_read_36 (by decide) (fun h => absurd (by decide) h) (fun _ => ?_)
  refine lv_aload_n hE.1 hE.2.1 dX4_read_39 rfl (lv_at hl 1 rfl) ?_
  refine x_get (x := .int (v_5 1 6)) hE hK hP 1 (by decide) (xG_4 rfl) rfl hin4 6 (by decide) mw_155 rfl dX4_read_40 ?_
  refine x_top (y := 0) hq_5.2.1 ?_
  refine lv_if_eq (tgt := 57) hE.1 hE.2.1 dX4_read_43 (by decide) (fun _ => ?_) (fun h => absurd (by decide) h)
  refine lv_aload_n hE.1 hE.2.1 dX4_read_57 rfl (lv_at hl 1 rfl) ?_
  refine x_get (x := .int (v_5 1 1)) hE hK hP 1 (by decide) (xG_4 rfl) rfl hin4 1 (by decide) mw_148 rfl dX4_read_58 ?_
  refine x_top (y := 0) ((hq_5.1 1 1 (by decide)).trans ((up_oth hv_4 (by decide)).trans ((up_oth hv_3 (by decide)).trans (up_eq hv_2)))) ?_
  refine lv_if_ne (tgt := 68) hE.1 hE.2.1 dX4_read_61 (by decide) (fun h => absurd (by decide) h) (fun _ => ?_)
  refine lv_iconst (v := 1) hE.1 hE.2.1 dX4_read_64 (by decide) ?_
  refine lv_goto (tgt := 69) hE.1 hE.2.1 dX4_read_65 (by decide) ?_
  exact x_wi hE hr hlo hP hS rfl ⟨rfl, ⟨fun i j h => ((hq_5.1 i j (fun q => h (mem_sub (by decide) q))).trans ((up_oth hv_4 (fun q => h (by rcases q with ⟨rfl, rfl⟩; decide))).trans ((up_oth hv_3 (fun q => h (by rcases q with ⟨rfl, rfl⟩; decide))).trans ((up_oth hv_2 (fun q => h (by rcases q with ⟨rfl, rfl⟩; decide))).trans (hq_1.1 i j (fun q => h (mem_sub (by decide) q))))))), ((hq_5.1 13 4 (by decide)).trans ((up_oth hv_4 (by decide)).trans ((up_oth hv_3 (by decide)).trans ((up_oth hv_2 (by decide)).trans hq_1.2))))⟩⟩ dX4_read_69

theorem dX8_court_0 : decode cX8_court 0 = .ok (.aload_n 0, 1) := by decide +kernel
theorem dX8_court_1 : decode cX8_court 1 = .ok (.getfield 12, 3) := by decide +kernel
theorem dX8_court_4 : decode cX8_court 4 = .ok (.aload_n 0, 1) := by decide +kernel
theorem dX8_court_5 : decode cX8_court 5 = .ok (.getfield 23, 3) := by decide +kernel
theorem dX8_court_8 : decode cX8_court 8 = .ok (.invokevirtual 83, 3) := by decide +kernel
theorem dX8_court_11 : decode cX8_court 11 = .ok (.ifCond .ne 6, 3) := by decide +kernel
theorem dX8_court_17 : decode cX8_court 17 = .ok (.aload_n 0, 1) := by decide +kernel
theorem dX8_court_18 : decode cX8_court 18 = .ok (.getfield 12, 3) := by decide +kernel
theorem dX8_court_21 : decode cX8_court 21 = .ok (.iconst 0, 1) := by decide +kernel
theorem dX8_court_22 : decode cX8_court 22 = .ok (.putfield 75, 3) := by decide +kernel
theorem dX8_court_25 : decode cX8_court 25 = .ok (.aload_n 0, 1) := by decide +kernel
theorem dX8_court_26 : decode cX8_court 26 = .ok (.getfield 19, 3) := by decide +kernel
theorem dX8_court_29 : decode cX8_court 29 = .ok (.aload_n 0, 1) := by decide +kernel
theorem dX8_court_30 : decode cX8_court 30 = .ok (.getfield 23, 3) := by decide +kernel
theorem dX8_court_33 : decode cX8_court 33 = .ok (.invokevirtual 87, 3) := by decide +kernel
theorem dX8_court_36 : decode cX8_court 36 = .ok (.aload_n 0, 1) := by decide +kernel
theorem dX8_court_37 : decode cX8_court 37 = .ok (.getfield 31, 3) := by decide +kernel
theorem dX8_court_40 : decode cX8_court 40 = .ok (.invokevirtual 90, 3) := by decide +kernel
theorem dX8_court_43 : decode cX8_court 43 = .ok (.aload_n 0, 1) := by decide +kernel
theorem dX8_court_44 : decode cX8_court 44 = .ok (.getfield 19, 3) := by decide +kernel
theorem dX8_court_47 : decode cX8_court 47 = .ok (.getfield 93, 3) := by decide +kernel
theorem dX8_court_50 : decode cX8_court 50 = .ok (.ireturn, 1) := by decide +kernel
set_option maxHeartbeats 4000000 in
set_option maxRecDepth 100000 in
theorem k_X8_court (l : Launch) (D : va_G) (K : Nat → ClassId) (ad : Nat → Nat) (mm : Option Nat) : Met l yX8_court (wM yX8_court cX8_court 1 (some .int)) (rmD 3) (va_Pc [.ref (ad 0)] (wPre D K ad (xG ad K mm) 132 xv0 xa0 xl0)) (va_Qi (fun (r : Int32) (_ : sT) => r = 0) (wB D ad (xG ad K mm) 132) (inW ad 132)) 0 0 (inW ad 132) := by
  refine x_met (by decide) (Nat.le_of_ble_eq_true rfl) ?_
  intro p e s m below meth c ls hE hr hlo hnm hB hl
  have hE : CallFix p m c cX8_court 1 s _ tbG "TaleCourt" := hE
  obtain ⟨hP, hK, hN⟩ := hB
  have hS : va_S (inW ad 132) s.heap s.heap [] := va_S.rf
  have hl : lv_has ls 1 [(0, .ref (ad 0))] := hl
  refine lv_aload_n hE.1 hE.2.1 dX8_court_0 rfl (lv_at hl 0 rfl) ?_
  refine x_get (x := .ref (ad 1)) hE hK hP 0 (by decide) (xG_8 rfl) rfl hin8 0 (by decide) mw_480 rfl dX8_court_1 ?_
  refine lv_aload_n hE.1 hE.2.1 dX8_court_4 rfl (lv_at hl 0 rfl) ?_
  refine x_get (x := .ref (ad 13)) hE hK hP 0 (by decide) (xG_8 rfl) rfl hin8 2 (by decide) mw_482 rfl dX8_court_5 ?_
  refine x_vi (nn := 1) (As := [.ref (ad 13)]) (rest := []) hE hK hN hP hS (k_X4_read_e l D K ad mm xv0 xa0 xl0 rfl ) (x_recv hK hP 1 (by decide) (xG_4 rfl) rfl) rfl mw_527 mw_528 mw_529 mw_115 mw_530 (by decide +kernel) ⟨by decide, by decide⟩ hl.1 rfl (Nat.le_of_ble_eq_true rfl) ⟨Nat.zero_le _, Nat.zero_le _⟩ dX8_court_8 (fun r_1 v_1 ar_1 al_1 H locs hq_1 hP hS => ?_)
  obtain ⟨hr_1, hq_1⟩ := hq_1
  subst hr_1
  refine lv_if_ne (tgt := 17) hE.1 hE.2.1 dX8_court_11 (by decide) (fun _ => ?_) (fun h => absurd h (by decide))
  refine lv_aload_n hE.1 hE.2.1 dX8_court_17 rfl (lv_at hl 0 rfl) ?_
  refine x_get (x := .ref (ad 1)) hE hK hP 0 (by decide) (xG_8 rfl) rfl hin8 0 (by decide) mw_480 rfl dX8_court_18 ?_
  refine lv_iconst (v := 0) hE.1 hE.2.1 dX8_court_21 (by decide) ?_
  refine x_put hE hK hN hP hS 1 (by decide) (xG_4 rfl) rfl hin4 tyX4 tyX4_ok nmX4 0 (by decide) mw_147 rfl rfl rfl (Nat.le_of_ble_eq_true rfl) (xG_4 rfl) dX8_court_22 (fun v_2 H locs hv_2 hP hS => ?_)
  rw [hv_2.trans (up_same ((hq_1.1 1 0 (by decide)).trans rfl))] at hP
  refine lv_aload_n hE.1 hE.2.1 dX8_court_25 rfl (lv_at hl 0 rfl) ?_
  refine x_get (x := .ref (ad 3)) hE hK hP 0 (by decide) (xG_8 rfl) rfl hin8 1 (by decide) mw_481 rfl dX8_court_26 ?_
  refine lv_aload_n hE.1 hE.2.1 dX8_court_29 rfl (lv_at hl 0 rfl) ?_
  refine x_get (x := .ref (ad 13)) hE hK hP 0 (by decide) (xG_8 rfl) rfl hin8 2 (by decide) mw_482 rfl dX8_court_30 ?_
  refine x_vv (nn := 1) (As := [.ref (ad 13)]) (rest := []) hE hK hN hP hS (k_X1_copyFrom_3_13 l D K ad mm v_1 ar_1 al_1 hq_1.2 ) (x_recv hK hP 3 (by decide) (xG_1 rfl) rfl) rfl mw_674 mw_675 mw_676 mw_116 mw_677 (by decide +kernel) ⟨by decide, by decide⟩ hl.1 rfl (Nat.le_of_ble_eq_true rfl) ⟨Nat.zero_le _, Nat.zero_le _⟩ dX8_court_33 (fun v_3 ar_3 al_3 H locs hq_3 hP hS => ?_)
  refine lv_aload_n hE.1 hE.2.1 dX8_court_36 rfl (lv_at hl 0 rfl) ?_
  refine x_get (x := .ref (ad 23)) hE hK hP 0 (by decide) (xG_8 rfl) rfl hin8 3 (by decide) mw_483 rfl dX8_court_37 ?_
  refine x_vv (nn := 0) (As := []) (rest := []) hE hK hN hP hS (k_X7_clear_23 l D K ad mm v_3 ar_3 al_3  ) (x_recv hK hP 23 (by decide) (xG_7 rfl) rfl) rfl mw_681 mw_682 mw_683 mw_117 mw_684 (by decide +kernel) ⟨by decide, by decide⟩ hl.1 rfl (Nat.le_of_ble_eq_true rfl) ⟨Nat.zero_le _, Nat.zero_le _⟩ dX8_court_40 (fun v_4 ar_4 al_4 H locs hq_4 hP hS => ?_)
  have hq_4 : _ ∧ True := ⟨hq_4, trivial⟩
  refine lv_aload_n hE.1 hE.2.1 dX8_court_43 rfl (lv_at hl 0 rfl) ?_
  refine x_get (x := .ref (ad 3)) hE hK hP 0 (by decide) (xG_8 rfl) rfl hin8 1 (by decide) mw_481 rfl dX8_court_44 ?_
  refine x_get (x := .int (v_4 3 4)) hE hK hP 3 (by decide) (xG_1 rfl) rfl hin1 4 (by decide) mw_196 rfl dX8_court_47 ?_
  refine x_top (y := 0) ((hq_4.1 3 4 (by decide)).trans hq_3.2) ?_
  exact x_wi (post := fun r _ => r = 0) hE hr hlo hP hS rfl (show (0 : Int32) = 0 from rfl) dX8_court_50

theorem dX8_keep_0 : decode cX8_keep 0 = .ok (.iload_n 1, 1) := by decide +kernel
theorem dX8_keep_1 : decode cX8_keep 1 = .ok (.ifCond .lt 8, 3) := by decide +kernel
theorem dX8_keep_4 : decode cX8_keep 4 = .ok (.iload_n 1, 1) := by decide +kernel
theorem dX8_keep_5 : decode cX8_keep 5 = .ok (.iconst 3, 1) := by decide +kernel
theorem dX8_keep_6 : decode cX8_keep 6 = .ok (.if_icmp .lt 6, 3) := by decide +kernel
theorem dX8_keep_9 : decode cX8_keep 9 = .ok (.bipush (-2), 2) := by decide +kernel
theorem dX8_keep_11 : decode cX8_keep 11 = .ok (.ireturn, 1) := by decide +kernel
theorem dX8_keep_12 : decode cX8_keep 12 = .ok (.aload_n 0, 1) := by decide +kernel
theorem dX8_keep_13 : decode cX8_keep 13 = .ok (.getfield 69, 3) := by decide +kernel
theorem dX8_keep_16 : decode cX8_keep 16 = .ok (.iload_n 1, 1) := by decide +kernel
theorem dX8_keep_17 : decode cX8_keep 17 = .ok (.aaload, 1) := by decide +kernel
theorem dX8_keep_18 : decode cX8_keep 18 = .ok (.astore_n 2, 1) := by decide +kernel
theorem dX8_keep_19 : decode cX8_keep 19 = .ok (.aload_n 2, 1) := by decide +kernel
theorem dX8_keep_20 : decode cX8_keep 20 = .ok (.getfield 359, 3) := by decide +kernel
theorem dX8_keep_23 : decode cX8_keep 23 = .ok (.aload_n 0, 1) := by decide +kernel
theorem dX8_keep_24 : decode cX8_keep 24 = .ok (.getfield 19, 3) := by decide +kernel
theorem dX8_keep_27 : decode cX8_keep 27 = .ok (.invokevirtual 87, 3) := by decide +kernel
theorem dX8_keep_30 : decode cX8_keep 30 = .ok (.aload_n 2, 1) := by decide +kernel
theorem dX8_keep_31 : decode cX8_keep 31 = .ok (.getfield 360, 3) := by decide +kernel
theorem dX8_keep_34 : decode cX8_keep 34 = .ok (.aload_n 0, 1) := by decide +kernel
theorem dX8_keep_35 : decode cX8_keep 35 = .ok (.getfield 31, 3) := by decide +kernel
theorem dX8_keep_38 : decode cX8_keep 38 = .ok (.invokevirtual 327, 3) := by decide +kernel
theorem dX8_keep_41 : decode cX8_keep 41 = .ok (.aload_n 2, 1) := by decide +kernel
theorem dX8_keep_42 : decode cX8_keep 42 = .ok (.iconst 1, 1) := by decide +kernel
theorem dX8_keep_43 : decode cX8_keep 43 = .ok (.putfield 363, 3) := by decide +kernel
theorem dX8_keep_46 : decode cX8_keep 46 = .ok (.iconst 0, 1) := by decide +kernel
theorem dX8_keep_47 : decode cX8_keep 47 = .ok (.ireturn, 1) := by decide +kernel
set_option maxHeartbeats 4000000 in
set_option maxRecDepth 100000 in
theorem k_X8_keep (l : Launch) (D : va_G) (K : Nat → ClassId) (ad : Nat → Nat) (mm : Option Nat) (p1 : Int32) : Met l yX8_keep (wM yX8_keep cX8_keep 3 (some .int)) (rmD 2) (va_Pc [.ref (ad 0), .int p1] (wPre D K ad (xG ad K mm) 132 xv0 xa0 xl0)) (va_Qi (fun (r : Int32) (_ : sT) => r = fKeep p1) (wB D ad (xG ad K mm) 132) (inW ad 132)) 0 0 (inW ad 132) := by
  refine x_met (by decide) (Nat.le_of_ble_eq_true rfl) ?_
  intro p e s m below meth c ls hE hr hlo hnm hB hl
  have hE : CallFix p m c cX8_keep 3 s _ tbG "TaleCourt" := hE
  obtain ⟨hP, hK, hN⟩ := hB
  have hS : va_S (inW ad 132) s.heap s.heap [] := va_S.rf
  have hl : lv_has ls 3 [(0, .ref (ad 0)), (1, .int p1)] := hl
  refine lv_iload_n hE.1 hE.2.1 dX8_keep_0 rfl (lv_at hl 1 rfl) ?_
  refine lv_if_lt (tgt := 9) hE.1 hE.2.1 dX8_keep_1 (by decide) (fun c_1 => ?_) (fun c_1 => ?_)
  · skip
    refine lv_bipush (v := (-2)) hE.1 hE.2.1 dX8_keep_9 (by decide) ?_
    exact x_wi (post := fun r _ => r = fKeep p1) hE hr hlo hP hS rfl (show ((-2) : Int32) = fKeep p1 from (by unfold fKeep; rw [if_pos (imB_neg c_1)])) dX8_keep_11
  · skip
    refine lv_iload_n hE.1 hE.2.1 dX8_keep_4 rfl (lv_at hl 1 rfl) ?_
    refine lv_iconst (v := 3) hE.1 hE.2.1 dX8_keep_5 (by decide) ?_
    refine lv_icmp_lt (tgt := 12) hE.1 hE.2.1 dX8_keep_6 (by decide) (fun c_2 => ?_) (fun c_2 => ?_)
    · skip
      refine lv_aload_n hE.1 hE.2.1 dX8_keep_12 rfl (lv_at hl 0 rfl) ?_
      refine x_get (x := .ref (ad 66)) hE hK hP 0 (by decide) (xG_8 rfl) rfl hin8 9 (by decide) mw_489 rfl dX8_keep_13 ?_
      refine lv_iload_n hE.1 hE.2.1 dX8_keep_16 rfl (lv_at hl 1 rfl) ?_
      rcases im_cases c_1 c_2 with rfl | rfl | rfl
      · skip
        refine x_aald (r := .ref (ad 75)) hE hK hP 66 5 (by decide) (xG_14 rfl) rfl (by unfold vp_in; decide) rfl dX8_keep_17 ?_
        refine lv_astore_n (lv' := [(2, .ref (ad 75)), (0, .ref (ad 0)), (1, .int 0)]) hE.1 hE.2.1 dX8_keep_18 rfl hl (by decide) rfl (fun ls hl => ?_)
        refine lv_aload_n hE.1 hE.2.1 dX8_keep_19 rfl (lv_at hl 0 rfl) ?_
        refine x_get (x := .ref (ad 76)) hE hK hP 75 (by decide) (xG_3 rfl) rfl hin3 0 (by decide) mw_469 rfl dX8_keep_20 ?_
        refine lv_aload_n hE.1 hE.2.1 dX8_keep_23 rfl (lv_at hl 1 rfl) ?_
        refine x_get (x := .ref (ad 3)) hE hK hP 0 (by decide) (xG_8 rfl) rfl hin8 1 (by decide) mw_481 rfl dX8_keep_24 ?_
        refine x_vv (nn := 1) (As := [.ref (ad 3)]) (rest := []) hE hK hN hP hS (k_X1_copyFrom_76_3 l D K ad mm xv0 xa0 xl0  ) (x_recv hK hP 76 (by decide) (xG_1 rfl) rfl) rfl mw_674 mw_675 mw_676 mw_116 mw_677 (by decide +kernel) ⟨by decide, by decide⟩ hl.1 rfl (Nat.le_of_ble_eq_true rfl) ⟨Nat.zero_le _, Nat.zero_le _⟩ dX8_keep_27 (fun v_3 ar_3 al_3 H locs hq_3 hP hS => ?_)
        have hq_3 : _ ∧ True := ⟨hq_3, trivial⟩
        refine lv_aload_n hE.1 hE.2.1 dX8_keep_30 rfl (lv_at hl 0 rfl) ?_
        refine x_get (x := .ref (ad 86)) hE hK hP 75 (by decide) (xG_3 rfl) rfl hin3 1 (by decide) mw_471 rfl dX8_keep_31 ?_
        refine lv_aload_n hE.1 hE.2.1 dX8_keep_34 rfl (lv_at hl 1 rfl) ?_
        refine x_get (x := .ref (ad 23)) hE hK hP 0 (by decide) (xG_8 rfl) rfl hin8 3 (by decide) mw_483 rfl dX8_keep_35 ?_
        refine x_vv (nn := 1) (As := [.ref (ad 23)]) (rest := []) hE hK hN hP hS (k_X7_copyFrom_86_23 l D K ad mm v_3 ar_3 al_3  ) (x_recv hK hP 86 (by decide) (xG_7 rfl) rfl) rfl mw_1267 mw_909 mw_910 mw_117 mw_911 (by decide +kernel) ⟨by decide, by decide⟩ hl.1 rfl (Nat.le_of_ble_eq_true rfl) ⟨Nat.zero_le _, Nat.zero_le _⟩ dX8_keep_38 (fun v_4 ar_4 al_4 H locs hq_4 hP hS => ?_)
        have hq_4 : _ ∧ True := ⟨hq_4, trivial⟩
        refine lv_aload_n hE.1 hE.2.1 dX8_keep_41 rfl (lv_at hl 0 rfl) ?_
        refine lv_iconst (v := 1) hE.1 hE.2.1 dX8_keep_42 (by decide) ?_
        refine x_put hE hK hN hP hS 75 (by decide) (xG_3 rfl) rfl hin3 tyX3 tyX3_ok nmX3 2 (by decide) mw_472 rfl rfl rfl (Nat.le_of_ble_eq_true rfl) (xG_3 rfl) dX8_keep_43 (fun v_5 H locs hv_5 hP hS => ?_)
        refine lv_iconst (v := 0) hE.1 hE.2.1 dX8_keep_46 (by decide) ?_
        exact x_wi (post := fun r _ => r = fKeep 0) hE hr hlo hP hS rfl (show (0 : Int32) = fKeep 0 from by decide) dX8_keep_47
      · skip
        refine x_aald (r := .ref (ad 94)) hE hK hP 66 5 (by decide) (xG_14 rfl) rfl (by unfold vp_in; decide) rfl dX8_keep_17 ?_
        refine lv_astore_n (lv' := [(2, .ref (ad 94)), (0, .ref (ad 0)), (1, .int 1)]) hE.1 hE.2.1 dX8_keep_18 rfl hl (by decide) rfl (fun ls hl => ?_)
        refine lv_aload_n hE.1 hE.2.1 dX8_keep_19 rfl (lv_at hl 0 rfl) ?_
        refine x_get (x := .ref (ad 95)) hE hK hP 94 (by decide) (xG_3 rfl) rfl hin3 0 (by decide) mw_469 rfl dX8_keep_20 ?_
        refine lv_aload_n hE.1 hE.2.1 dX8_keep_23 rfl (lv_at hl 1 rfl) ?_
        refine x_get (x := .ref (ad 3)) hE hK hP 0 (by decide) (xG_8 rfl) rfl hin8 1 (by decide) mw_481 rfl dX8_keep_24 ?_
        refine x_vv (nn := 1) (As := [.ref (ad 3)]) (rest := []) hE hK hN hP hS (k_X1_copyFrom_95_3 l D K ad mm xv0 xa0 xl0  ) (x_recv hK hP 95 (by decide) (xG_1 rfl) rfl) rfl mw_674 mw_675 mw_676 mw_116 mw_677 (by decide +kernel) ⟨by decide, by decide⟩ hl.1 rfl (Nat.le_of_ble_eq_true rfl) ⟨Nat.zero_le _, Nat.zero_le _⟩ dX8_keep_27 (fun v_3 ar_3 al_3 H locs hq_3 hP hS => ?_)
        have hq_3 : _ ∧ True := ⟨hq_3, trivial⟩
        refine lv_aload_n hE.1 hE.2.1 dX8_keep_30 rfl (lv_at hl 0 rfl) ?_
        refine x_get (x := .ref (ad 105)) hE hK hP 94 (by decide) (xG_3 rfl) rfl hin3 1 (by decide) mw_471 rfl dX8_keep_31 ?_
        refine lv_aload_n hE.1 hE.2.1 dX8_keep_34 rfl (lv_at hl 1 rfl) ?_
        refine x_get (x := .ref (ad 23)) hE hK hP 0 (by decide) (xG_8 rfl) rfl hin8 3 (by decide) mw_483 rfl dX8_keep_35 ?_
        refine x_vv (nn := 1) (As := [.ref (ad 23)]) (rest := []) hE hK hN hP hS (k_X7_copyFrom_105_23 l D K ad mm v_3 ar_3 al_3  ) (x_recv hK hP 105 (by decide) (xG_7 rfl) rfl) rfl mw_1267 mw_909 mw_910 mw_117 mw_911 (by decide +kernel) ⟨by decide, by decide⟩ hl.1 rfl (Nat.le_of_ble_eq_true rfl) ⟨Nat.zero_le _, Nat.zero_le _⟩ dX8_keep_38 (fun v_4 ar_4 al_4 H locs hq_4 hP hS => ?_)
        have hq_4 : _ ∧ True := ⟨hq_4, trivial⟩
        refine lv_aload_n hE.1 hE.2.1 dX8_keep_41 rfl (lv_at hl 0 rfl) ?_
        refine lv_iconst (v := 1) hE.1 hE.2.1 dX8_keep_42 (by decide) ?_
        refine x_put hE hK hN hP hS 94 (by decide) (xG_3 rfl) rfl hin3 tyX3 tyX3_ok nmX3 2 (by decide) mw_472 rfl rfl rfl (Nat.le_of_ble_eq_true rfl) (xG_3 rfl) dX8_keep_43 (fun v_5 H locs hv_5 hP hS => ?_)
        refine lv_iconst (v := 0) hE.1 hE.2.1 dX8_keep_46 (by decide) ?_
        exact x_wi (post := fun r _ => r = fKeep 1) hE hr hlo hP hS rfl (show (0 : Int32) = fKeep 1 from by decide) dX8_keep_47
      · skip
        refine x_aald (r := .ref (ad 113)) hE hK hP 66 5 (by decide) (xG_14 rfl) rfl (by unfold vp_in; decide) rfl dX8_keep_17 ?_
        refine lv_astore_n (lv' := [(2, .ref (ad 113)), (0, .ref (ad 0)), (1, .int 2)]) hE.1 hE.2.1 dX8_keep_18 rfl hl (by decide) rfl (fun ls hl => ?_)
        refine lv_aload_n hE.1 hE.2.1 dX8_keep_19 rfl (lv_at hl 0 rfl) ?_
        refine x_get (x := .ref (ad 114)) hE hK hP 113 (by decide) (xG_3 rfl) rfl hin3 0 (by decide) mw_469 rfl dX8_keep_20 ?_
        refine lv_aload_n hE.1 hE.2.1 dX8_keep_23 rfl (lv_at hl 1 rfl) ?_
        refine x_get (x := .ref (ad 3)) hE hK hP 0 (by decide) (xG_8 rfl) rfl hin8 1 (by decide) mw_481 rfl dX8_keep_24 ?_
        refine x_vv (nn := 1) (As := [.ref (ad 3)]) (rest := []) hE hK hN hP hS (k_X1_copyFrom_114_3 l D K ad mm xv0 xa0 xl0  ) (x_recv hK hP 114 (by decide) (xG_1 rfl) rfl) rfl mw_674 mw_675 mw_676 mw_116 mw_677 (by decide +kernel) ⟨by decide, by decide⟩ hl.1 rfl (Nat.le_of_ble_eq_true rfl) ⟨Nat.zero_le _, Nat.zero_le _⟩ dX8_keep_27 (fun v_3 ar_3 al_3 H locs hq_3 hP hS => ?_)
        have hq_3 : _ ∧ True := ⟨hq_3, trivial⟩
        refine lv_aload_n hE.1 hE.2.1 dX8_keep_30 rfl (lv_at hl 0 rfl) ?_
        refine x_get (x := .ref (ad 124)) hE hK hP 113 (by decide) (xG_3 rfl) rfl hin3 1 (by decide) mw_471 rfl dX8_keep_31 ?_
        refine lv_aload_n hE.1 hE.2.1 dX8_keep_34 rfl (lv_at hl 1 rfl) ?_
        refine x_get (x := .ref (ad 23)) hE hK hP 0 (by decide) (xG_8 rfl) rfl hin8 3 (by decide) mw_483 rfl dX8_keep_35 ?_
        refine x_vv (nn := 1) (As := [.ref (ad 23)]) (rest := []) hE hK hN hP hS (k_X7_copyFrom_124_23 l D K ad mm v_3 ar_3 al_3  ) (x_recv hK hP 124 (by decide) (xG_7 rfl) rfl) rfl mw_1267 mw_909 mw_910 mw_117 mw_911 (by decide +kernel) ⟨by decide, by decide⟩ hl.1 rfl (Nat.le_of_ble_eq_true rfl) ⟨Nat.zero_le _, Nat.zero_le _⟩ dX8_keep_38 (fun v_4 ar_4 al_4 H locs hq_4 hP hS => ?_)
        have hq_4 : _ ∧ True := ⟨hq_4, trivial⟩
        refine lv_aload_n hE.1 hE.2.1 dX8_keep_41 rfl (lv_at hl 0 rfl) ?_
        refine lv_iconst (v := 1) hE.1 hE.2.1 dX8_keep_42 (by decide) ?_
        refine x_put hE hK hN hP hS 113 (by decide) (xG_3 rfl) rfl hin3 tyX3 tyX3_ok nmX3 2 (by decide) mw_472 rfl rfl rfl (Nat.le_of_ble_eq_true rfl) (xG_3 rfl) dX8_keep_43 (fun v_5 H locs hv_5 hP hS => ?_)
        refine lv_iconst (v := 0) hE.1 hE.2.1 dX8_keep_46 (by decide) ?_
        exact x_wi (post := fun r _ => r = fKeep 2) hE hr hlo hP hS rfl (show (0 : Int32) = fKeep 2 from by decide) dX8_keep_47
    · skip
      refine lv_bipush (v := (-2)) hE.1 hE.2.1 dX8_keep_9 (by decide) ?_
      exact x_wi (post := fun r _ => r = fKeep p1) hE hr hlo hP hS rfl (show ((-2) : Int32) = fKeep p1 from (by unfold fKeep; rw [if_pos (imB_big c_1 c_2)])) dX8_keep_11
