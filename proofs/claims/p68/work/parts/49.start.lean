theorem dL_33 : decode code 33 = .ok (.tableswitch 1921 0 67 #[287, 350, 373, 386, 409, 442, 475, 508, 531, 554, 577, 610, 633, 646, 659, 672, 695, 708, 721, 734, 757, 770, 793, 806, 819, 842, 865, 878, 891, 914, 927, 950, 973, 1006, 1029, 1042, 1065, 1088, 1101, 1114, 1127, 1140, 1173, 1186, 1219, 1252, 1275, 1288, 1311, 1324, 1347, 1370, 1393, 1416, 1439, 1462, 1485, 1508, 1541, 1574, 1607, 1640, 1673, 1696, 1719, 1742, 1785, 1858], 287) := by decide +kernel
theorem bsucc {P : Nat → Prop} {n : Nat} (h : ∀ j, j < n → P j) (h1 : P n) : ∀ j, j < n + 1 → P j := fun j hj => by
  rcases Nat.lt_or_ge j n with q | q
  · exact h j q
  · rw [show j = n by omega]; exact h1
def lawP (p : Program) (l : Launch) (e : Env) (s : State) (m : MethodId) (below : List Frame) (meth : Method) (c : Code) (b : Nat) (cells slots : Nat) (H : Heap) (locs : List Loc) (ls : Array Slot) (j : Nat) : Prop := W p l e room_1 s m #[Value.ref b] below meth c H locs cells slots (lw_Z below #[Value.ref b] s) (F0 m 33 ls [.int (nI j)])
set_option maxHeartbeats 4000000 in
set_option maxRecDepth 100000 in
theorem law_disp {p : Program} {l : Launch} {e : Env} {s : State} {m : MethodId} {below : List Frame} {meth : Method} {c : Code} {b L : Nat} {xs : Nat → Int32} {D : va_G} {K : Nat → ClassId} {ay ax : Nat → Nat} {mm : Option Nat} {N cells slots : Nat} {v ar : sI} {al : sL} {v' ar' : sI} {al' : sL} {H : Heap} {locs : List Loc} {ls : Array Slot} {tk tv : Nat → Nat} {i : Int} (hi : 0 ≤ i ∧ i + 6 ≤ (L : Int) ∧ L ≤ 3072) (F : lawF p s m meth c b L xs D K tk tv) (C : lawI s D K ay ax mm N cells slots v ar al v' ar' al' H locs) (hl : lv_has ls 4 [(3, .int (iI i)), (2, .ref (ay 0)), (1, .ref (ax 0)), (0, .ref b)]) (kk : lawK p l e s m below meth c b D K ay i) : ∀ j, j < 128 → lawP p l e s m below meth c b cells slots H locs ls j := by
  obtain ⟨hx, hb, hr, hml, hown, hts, hX, hbl, hlocks, hgv⟩ := id F.1
  have h0 : ∀ j, j < 0 → lawP p l e s m below meth c b cells slots H locs ls j := fun j h => absurd h (Nat.not_lt_zero j)
  have h1 : ∀ j, j < 1 → lawP p l e s m below meth c b cells slots H locs ls j := bsucc h0 (lv_tableIn (off := 287) (tgt := 320) hx hb dL_33 (by decide) (by decide) (by decide) (by decide) (lc_0 hi F C hl kk))
  have h2 : ∀ j, j < 2 → lawP p l e s m below meth c b cells slots H locs ls j := bsucc h1 (lv_tableIn (off := 350) (tgt := 383) hx hb dL_33 (by decide) (by decide) (by decide) (by decide) (lc_1 hi F C hl kk))
  have h3 : ∀ j, j < 3 → lawP p l e s m below meth c b cells slots H locs ls j := bsucc h2 (lv_tableIn (off := 373) (tgt := 406) hx hb dL_33 (by decide) (by decide) (by decide) (by decide) (lc_2 hi F C hl kk))
  have h4 : ∀ j, j < 4 → lawP p l e s m below meth c b cells slots H locs ls j := bsucc h3 (lv_tableIn (off := 386) (tgt := 419) hx hb dL_33 (by decide) (by decide) (by decide) (by decide) (lc_3 hi F C hl kk))
  have h5 : ∀ j, j < 5 → lawP p l e s m below meth c b cells slots H locs ls j := bsucc h4 (lv_tableIn (off := 409) (tgt := 442) hx hb dL_33 (by decide) (by decide) (by decide) (by decide) (lc_4 hi F C hl kk))
  have h6 : ∀ j, j < 6 → lawP p l e s m below meth c b cells slots H locs ls j := bsucc h5 (lv_tableIn (off := 442) (tgt := 475) hx hb dL_33 (by decide) (by decide) (by decide) (by decide) (lc_5 hi F C hl kk))
  have h7 : ∀ j, j < 7 → lawP p l e s m below meth c b cells slots H locs ls j := bsucc h6 (lv_tableIn (off := 475) (tgt := 508) hx hb dL_33 (by decide) (by decide) (by decide) (by decide) (lc_6 hi F C hl kk))
  have h8 : ∀ j, j < 8 → lawP p l e s m below meth c b cells slots H locs ls j := bsucc h7 (lv_tableIn (off := 508) (tgt := 541) hx hb dL_33 (by decide) (by decide) (by decide) (by decide) (lc_7 hi F C hl kk))
  have h9 : ∀ j, j < 9 → lawP p l e s m below meth c b cells slots H locs ls j := bsucc h8 (lv_tableIn (off := 531) (tgt := 564) hx hb dL_33 (by decide) (by decide) (by decide) (by decide) (lc_8 hi F C hl kk))
  have h10 : ∀ j, j < 10 → lawP p l e s m below meth c b cells slots H locs ls j := bsucc h9 (lv_tableIn (off := 554) (tgt := 587) hx hb dL_33 (by decide) (by decide) (by decide) (by decide) (lc_9 hi F C hl kk))
  have h11 : ∀ j, j < 11 → lawP p l e s m below meth c b cells slots H locs ls j := bsucc h10 (lv_tableIn (off := 577) (tgt := 610) hx hb dL_33 (by decide) (by decide) (by decide) (by decide) (lc_10 hi F C hl kk))
  have h12 : ∀ j, j < 12 → lawP p l e s m below meth c b cells slots H locs ls j := bsucc h11 (lv_tableIn (off := 610) (tgt := 643) hx hb dL_33 (by decide) (by decide) (by decide) (by decide) (lc_11 hi F C hl kk))
  have h13 : ∀ j, j < 13 → lawP p l e s m below meth c b cells slots H locs ls j := bsucc h12 (lv_tableIn (off := 633) (tgt := 666) hx hb dL_33 (by decide) (by decide) (by decide) (by decide) (lc_12 hi F C hl kk))
  have h14 : ∀ j, j < 14 → lawP p l e s m below meth c b cells slots H locs ls j := bsucc h13 (lv_tableIn (off := 646) (tgt := 679) hx hb dL_33 (by decide) (by decide) (by decide) (by decide) (lc_13 hi F C hl kk))
  have h15 : ∀ j, j < 15 → lawP p l e s m below meth c b cells slots H locs ls j := bsucc h14 (lv_tableIn (off := 659) (tgt := 692) hx hb dL_33 (by decide) (by decide) (by decide) (by decide) (lc_14 hi F C hl kk))
  have h16 : ∀ j, j < 16 → lawP p l e s m below meth c b cells slots H locs ls j := bsucc h15 (lv_tableIn (off := 672) (tgt := 705) hx hb dL_33 (by decide) (by decide) (by decide) (by decide) (lc_15 hi F C hl kk))
  have h17 : ∀ j, j < 17 → lawP p l e s m below meth c b cells slots H locs ls j := bsucc h16 (lv_tableIn (off := 695) (tgt := 728) hx hb dL_33 (by decide) (by decide) (by decide) (by decide) (lc_16 hi F C hl kk))
  have h18 : ∀ j, j < 18 → lawP p l e s m below meth c b cells slots H locs ls j := bsucc h17 (lv_tableIn (off := 708) (tgt := 741) hx hb dL_33 (by decide) (by decide) (by decide) (by decide) (lc_17 hi F C hl kk))
  have h19 : ∀ j, j < 19 → lawP p l e s m below meth c b cells slots H locs ls j := bsucc h18 (lv_tableIn (off := 721) (tgt := 754) hx hb dL_33 (by decide) (by decide) (by decide) (by decide) (lc_18 hi F C hl kk))
  have h20 : ∀ j, j < 20 → lawP p l e s m below meth c b cells slots H locs ls j := bsucc h19 (lv_tableIn (off := 734) (tgt := 767) hx hb dL_33 (by decide) (by decide) (by decide) (by decide) (lc_19 hi F C hl kk))
  have h21 : ∀ j, j < 21 → lawP p l e s m below meth c b cells slots H locs ls j := bsucc h20 (lv_tableIn (off := 757) (tgt := 790) hx hb dL_33 (by decide) (by decide) (by decide) (by decide) (lc_20 hi F C hl kk))
  have h22 : ∀ j, j < 22 → lawP p l e s m below meth c b cells slots H locs ls j := bsucc h21 (lv_tableIn (off := 770) (tgt := 803) hx hb dL_33 (by decide) (by decide) (by decide) (by decide) (lc_21 hi F C hl kk))
  have h23 : ∀ j, j < 23 → lawP p l e s m below meth c b cells slots H locs ls j := bsucc h22 (lv_tableIn (off := 793) (tgt := 826) hx hb dL_33 (by decide) (by decide) (by decide) (by decide) (lc_22 hi F C hl kk))
  have h24 : ∀ j, j < 24 → lawP p l e s m below meth c b cells slots H locs ls j := bsucc h23 (lv_tableIn (off := 806) (tgt := 839) hx hb dL_33 (by decide) (by decide) (by decide) (by decide) (lc_23 hi F C hl kk))
  have h25 : ∀ j, j < 25 → lawP p l e s m below meth c b cells slots H locs ls j := bsucc h24 (lv_tableIn (off := 819) (tgt := 852) hx hb dL_33 (by decide) (by decide) (by decide) (by decide) (lc_24 hi F C hl kk))
  have h26 : ∀ j, j < 26 → lawP p l e s m below meth c b cells slots H locs ls j := bsucc h25 (lv_tableIn (off := 842) (tgt := 875) hx hb dL_33 (by decide) (by decide) (by decide) (by decide) (lc_25 hi F C hl kk))
  have h27 : ∀ j, j < 27 → lawP p l e s m below meth c b cells slots H locs ls j := bsucc h26 (lv_tableIn (off := 865) (tgt := 898) hx hb dL_33 (by decide) (by decide) (by decide) (by decide) (lc_26 hi F C hl kk))
  have h28 : ∀ j, j < 28 → lawP p l e s m below meth c b cells slots H locs ls j := bsucc h27 (lv_tableIn (off := 878) (tgt := 911) hx hb dL_33 (by decide) (by decide) (by decide) (by decide) (lc_27 hi F C hl kk))
  have h29 : ∀ j, j < 29 → lawP p l e s m below meth c b cells slots H locs ls j := bsucc h28 (lv_tableIn (off := 891) (tgt := 924) hx hb dL_33 (by decide) (by decide) (by decide) (by decide) (lc_28 hi F C hl kk))
  have h30 : ∀ j, j < 30 → lawP p l e s m below meth c b cells slots H locs ls j := bsucc h29 (lv_tableIn (off := 914) (tgt := 947) hx hb dL_33 (by decide) (by decide) (by decide) (by decide) (lc_29 hi F C hl kk))
  have h31 : ∀ j, j < 31 → lawP p l e s m below meth c b cells slots H locs ls j := bsucc h30 (lv_tableIn (off := 927) (tgt := 960) hx hb dL_33 (by decide) (by decide) (by decide) (by decide) (lc_30 hi F C hl kk))
  have h32 : ∀ j, j < 32 → lawP p l e s m below meth c b cells slots H locs ls j := bsucc h31 (lv_tableIn (off := 950) (tgt := 983) hx hb dL_33 (by decide) (by decide) (by decide) (by decide) (lc_31 hi F C hl kk))
  have h33 : ∀ j, j < 33 → lawP p l e s m below meth c b cells slots H locs ls j := bsucc h32 (lv_tableIn (off := 973) (tgt := 1006) hx hb dL_33 (by decide) (by decide) (by decide) (by decide) (lc_32 hi F C hl kk))
  have h34 : ∀ j, j < 34 → lawP p l e s m below meth c b cells slots H locs ls j := bsucc h33 (lv_tableIn (off := 1006) (tgt := 1039) hx hb dL_33 (by decide) (by decide) (by decide) (by decide) (lc_33 hi F C hl kk))
  have h35 : ∀ j, j < 35 → lawP p l e s m below meth c b cells slots H locs ls j := bsucc h34 (lv_tableIn (off := 1029) (tgt := 1062) hx hb dL_33 (by decide) (by decide) (by decide) (by decide) (lc_34 hi F C hl kk))
  have h36 : ∀ j, j < 36 → lawP p l e s m below meth c b cells slots H locs ls j := bsucc h35 (lv_tableIn (off := 1042) (tgt := 1075) hx hb dL_33 (by decide) (by decide) (by decide) (by decide) (lc_35 hi F C hl kk))
  have h37 : ∀ j, j < 37 → lawP p l e s m below meth c b cells slots H locs ls j := bsucc h36 (lv_tableIn (off := 1065) (tgt := 1098) hx hb dL_33 (by decide) (by decide) (by decide) (by decide) (lc_36 hi F C hl kk))
  have h38 : ∀ j, j < 38 → lawP p l e s m below meth c b cells slots H locs ls j := bsucc h37 (lv_tableIn (off := 1088) (tgt := 1121) hx hb dL_33 (by decide) (by decide) (by decide) (by decide) (lc_37 hi F C hl kk))
  have h39 : ∀ j, j < 39 → lawP p l e s m below meth c b cells slots H locs ls j := bsucc h38 (lv_tableIn (off := 1101) (tgt := 1134) hx hb dL_33 (by decide) (by decide) (by decide) (by decide) (lc_38 hi F C hl kk))
  have h40 : ∀ j, j < 40 → lawP p l e s m below meth c b cells slots H locs ls j := bsucc h39 (lv_tableIn (off := 1114) (tgt := 1147) hx hb dL_33 (by decide) (by decide) (by decide) (by decide) (lc_39 hi F C hl kk))
  have h41 : ∀ j, j < 41 → lawP p l e s m below meth c b cells slots H locs ls j := bsucc h40 (lv_tableIn (off := 1127) (tgt := 1160) hx hb dL_33 (by decide) (by decide) (by decide) (by decide) (lc_40 hi F C hl kk))
  have h42 : ∀ j, j < 42 → lawP p l e s m below meth c b cells slots H locs ls j := bsucc h41 (lv_tableIn (off := 1140) (tgt := 1173) hx hb dL_33 (by decide) (by decide) (by decide) (by decide) (lc_41 hi F C hl kk))
  have h43 : ∀ j, j < 43 → lawP p l e s m below meth c b cells slots H locs ls j := bsucc h42 (lv_tableIn (off := 1173) (tgt := 1206) hx hb dL_33 (by decide) (by decide) (by decide) (by decide) (lc_42 hi F C hl kk))
  have h44 : ∀ j, j < 44 → lawP p l e s m below meth c b cells slots H locs ls j := bsucc h43 (lv_tableIn (off := 1186) (tgt := 1219) hx hb dL_33 (by decide) (by decide) (by decide) (by decide) (lc_43 hi F C hl kk))
  have h45 : ∀ j, j < 45 → lawP p l e s m below meth c b cells slots H locs ls j := bsucc h44 (lv_tableIn (off := 1219) (tgt := 1252) hx hb dL_33 (by decide) (by decide) (by decide) (by decide) (lc_44 hi F C hl kk))
  have h46 : ∀ j, j < 46 → lawP p l e s m below meth c b cells slots H locs ls j := bsucc h45 (lv_tableIn (off := 1252) (tgt := 1285) hx hb dL_33 (by decide) (by decide) (by decide) (by decide) (lc_45 hi F C hl kk))
  have h47 : ∀ j, j < 47 → lawP p l e s m below meth c b cells slots H locs ls j := bsucc h46 (lv_tableIn (off := 1275) (tgt := 1308) hx hb dL_33 (by decide) (by decide) (by decide) (by decide) (lc_46 hi F C hl kk))
  have h48 : ∀ j, j < 48 → lawP p l e s m below meth c b cells slots H locs ls j := bsucc h47 (lv_tableIn (off := 1288) (tgt := 1321) hx hb dL_33 (by decide) (by decide) (by decide) (by decide) (lc_47 hi F C hl kk))
  have h49 : ∀ j, j < 49 → lawP p l e s m below meth c b cells slots H locs ls j := bsucc h48 (lv_tableIn (off := 1311) (tgt := 1344) hx hb dL_33 (by decide) (by decide) (by decide) (by decide) (lc_48 hi F C hl kk))
  have h50 : ∀ j, j < 50 → lawP p l e s m below meth c b cells slots H locs ls j := bsucc h49 (lv_tableIn (off := 1324) (tgt := 1357) hx hb dL_33 (by decide) (by decide) (by decide) (by decide) (lc_49 hi F C hl kk))
  have h51 : ∀ j, j < 51 → lawP p l e s m below meth c b cells slots H locs ls j := bsucc h50 (lv_tableIn (off := 1347) (tgt := 1380) hx hb dL_33 (by decide) (by decide) (by decide) (by decide) (lc_50 hi F C hl kk))
  have h52 : ∀ j, j < 52 → lawP p l e s m below meth c b cells slots H locs ls j := bsucc h51 (lv_tableIn (off := 1370) (tgt := 1403) hx hb dL_33 (by decide) (by decide) (by decide) (by decide) (lc_51 hi F C hl kk))
  have h53 : ∀ j, j < 53 → lawP p l e s m below meth c b cells slots H locs ls j := bsucc h52 (lv_tableIn (off := 1393) (tgt := 1426) hx hb dL_33 (by decide) (by decide) (by decide) (by decide) (lc_52 hi F C hl kk))
  have h54 : ∀ j, j < 54 → lawP p l e s m below meth c b cells slots H locs ls j := bsucc h53 (lv_tableIn (off := 1416) (tgt := 1449) hx hb dL_33 (by decide) (by decide) (by decide) (by decide) (lc_53 hi F C hl kk))
  have h55 : ∀ j, j < 55 → lawP p l e s m below meth c b cells slots H locs ls j := bsucc h54 (lv_tableIn (off := 1439) (tgt := 1472) hx hb dL_33 (by decide) (by decide) (by decide) (by decide) (lc_54 hi F C hl kk))
  have h56 : ∀ j, j < 56 → lawP p l e s m below meth c b cells slots H locs ls j := bsucc h55 (lv_tableIn (off := 1462) (tgt := 1495) hx hb dL_33 (by decide) (by decide) (by decide) (by decide) (lc_55 hi F C hl kk))
  have h57 : ∀ j, j < 57 → lawP p l e s m below meth c b cells slots H locs ls j := bsucc h56 (lv_tableIn (off := 1485) (tgt := 1518) hx hb dL_33 (by decide) (by decide) (by decide) (by decide) (lc_56 hi F C hl kk))
  have h58 : ∀ j, j < 58 → lawP p l e s m below meth c b cells slots H locs ls j := bsucc h57 (lv_tableIn (off := 1508) (tgt := 1541) hx hb dL_33 (by decide) (by decide) (by decide) (by decide) (lc_57 hi F C hl kk))
  have h59 : ∀ j, j < 59 → lawP p l e s m below meth c b cells slots H locs ls j := bsucc h58 (lv_tableIn (off := 1541) (tgt := 1574) hx hb dL_33 (by decide) (by decide) (by decide) (by decide) (lc_58 hi F C hl kk))
  have h60 : ∀ j, j < 60 → lawP p l e s m below meth c b cells slots H locs ls j := bsucc h59 (lv_tableIn (off := 1574) (tgt := 1607) hx hb dL_33 (by decide) (by decide) (by decide) (by decide) (lc_59 hi F C hl kk))
  have h61 : ∀ j, j < 61 → lawP p l e s m below meth c b cells slots H locs ls j := bsucc h60 (lv_tableIn (off := 1607) (tgt := 1640) hx hb dL_33 (by decide) (by decide) (by decide) (by decide) (lc_60 hi F C hl kk))
  have h62 : ∀ j, j < 62 → lawP p l e s m below meth c b cells slots H locs ls j := bsucc h61 (lv_tableIn (off := 1640) (tgt := 1673) hx hb dL_33 (by decide) (by decide) (by decide) (by decide) (lc_61 hi F C hl kk))
  have h63 : ∀ j, j < 63 → lawP p l e s m below meth c b cells slots H locs ls j := bsucc h62 (lv_tableIn (off := 1673) (tgt := 1706) hx hb dL_33 (by decide) (by decide) (by decide) (by decide) (lc_62 hi F C hl kk))
  have h64 : ∀ j, j < 64 → lawP p l e s m below meth c b cells slots H locs ls j := bsucc h63 (lv_tableIn (off := 1696) (tgt := 1729) hx hb dL_33 (by decide) (by decide) (by decide) (by decide) (lc_63 hi F C hl kk))
  have h65 : ∀ j, j < 65 → lawP p l e s m below meth c b cells slots H locs ls j := bsucc h64 (lv_tableIn (off := 1719) (tgt := 1752) hx hb dL_33 (by decide) (by decide) (by decide) (by decide) (lc_64 hi F C hl kk))
  have h66 : ∀ j, j < 66 → lawP p l e s m below meth c b cells slots H locs ls j := bsucc h65 (lv_tableIn (off := 1742) (tgt := 1775) hx hb dL_33 (by decide) (by decide) (by decide) (by decide) (lc_65 hi F C hl kk))
  have h67 : ∀ j, j < 67 → lawP p l e s m below meth c b cells slots H locs ls j := bsucc h66 (lv_tableIn (off := 1785) (tgt := 1818) hx hb dL_33 (by decide) (by decide) (by decide) (by decide) (lc_66 hi F C hl kk))
  have h68 : ∀ j, j < 68 → lawP p l e s m below meth c b cells slots H locs ls j := bsucc h67 (lv_tableIn (off := 1858) (tgt := 1891) hx hb dL_33 (by decide) (by decide) (by decide) (by decide) (lc_67 hi F C hl kk))
  intro j hj
  rcases Nat.lt_or_ge j 68 with q | q
  · exact h68 j q
  · refine lv_tableOut (tgt := 1954) hx hb dL_33 (Or.inr ?_) (by decide) (kk _ _ _ _ _ _ _ _ _ _ _ _ _ _ C hl)
    rw [nI_toInt (by omega)]
    omega
set_option maxHeartbeats 4000000 in
set_option maxRecDepth 100000 in
theorem law_loop {p : Program} {l : Launch} {e : Env} {s : State} {m : MethodId} {below : List Frame} {meth : Method} {c : Code} {b L : Nat} {xs : Nat → Int32} {D : va_G} {K : Nat → ClassId} {ay : Nat → Nat} {tk tv : Nat → Nat} (hL : L ≤ 3072) (F : lawF p s m meth c b L xs D K tk tv) : ∀ (n : Nat) (i : Int) (ax : Nat → Nat) (mm : Option Nat) (N cells slots : Nat) (v ar : sI) (al : sL) (v' ar' : sI) (al' : sL) (H : Heap) (locs : List Loc) (ls : Array Slot), 0 ≤ i → i ≤ 4000 → (L : Int) ≤ i + 6 * (n : Int) → lawI s D K ay ax mm N cells slots v ar al v' ar' al' H locs → lv_has ls 4 [(3, .int (iI i)), (2, .ref (ay 0)), (1, .ref (ax 0)), (0, .ref b)] → W p l e room_1 s m #[Value.ref b] below meth c H locs cells slots (lw_Z below #[Value.ref b] s) (F0 m 18 ls []) := by
  obtain ⟨hx, hb, hr, hml, hown, hts, hX, hbl, hlocks, hgv⟩ := id F.1
  have hbA : ¬ lawA s b := Nat.not_le.mpr hbl
  intro n
  induction n with
  | zero =>
    intro i ax mm N cells slots v ar al v' ar' al' H locs ls hi0 hi1 hn C hl
    have hS := C.2.2.2.2.2.2.2.1
    have hcc := lawM_c C.2.2.2.2.2.2.2.2.2.2.1
    refine lv_iload_n hx hb dL_18 rfl (lv_at hl 0 rfl) ?_
    refine lv_aload_n hx hb dL_19 rfl (lv_at hl 3 rfl) ?_
    refine va_slen hx hb hX hbl hbA hS dL_20 ?_
    refine x_top (y := iI (L : Int)) (iI_nI L) ?_
    refine lv_bipush (v := iI (6)) hx hb dL_21 (by decide) ?_
    refine lv_isub hx hb dL_23 ?_
    refine x_top (y := iI ((L : Int) - 6)) (iI_sub _ _) ?_
    refine s_icmp_gt (a := i) (b := (L : Int) - 6) (tgt := 1960) hx hb (by omega) (by omega) dL_24 (by decide) (fun _ => ?_) (fun c => False.elim (by omega))
    exact lawend F.1 hS hcc
  | succ n ih =>
    intro i ax mm N cells slots v ar al v' ar' al' H locs ls hi0 hi1 hn C hl
    have hS := C.2.2.2.2.2.2.2.1
    have hcc := lawM_c C.2.2.2.2.2.2.2.2.2.2.1
    refine lv_iload_n hx hb dL_18 rfl (lv_at hl 0 rfl) ?_
    refine lv_aload_n hx hb dL_19 rfl (lv_at hl 3 rfl) ?_
    refine va_slen hx hb hX hbl hbA hS dL_20 ?_
    refine x_top (y := iI (L : Int)) (iI_nI L) ?_
    refine lv_bipush (v := iI (6)) hx hb dL_21 (by decide) ?_
    refine lv_isub hx hb dL_23 ?_
    refine x_top (y := iI ((L : Int) - 6)) (iI_sub _ _) ?_
    refine s_icmp_gt (a := i) (b := (L : Int) - 6) (tgt := 1960) hx hb (by omega) (by omega) dL_24 (by decide) (fun _ => ?_) (fun c => ?_)
    · exact lawend F.1 hS hcc
    · refine lv_aload_n hx hb dL_27 rfl (lv_at hl 3 rfl) ?_
      refine lv_iload_n hx hb dL_28 rfl (lv_at hl 0 rfl) ?_
      refine va_sld (i := iI (i)) hx hb hX hbl hbA hS (iI_in (n := L) (by omega)) dL_29 ?_
      refine lv_bipush (v := 127) hx hb dL_30 (by decide) ?_
      refine lv_iand hx hb dL_32 ?_
      obtain ⟨j, hj, ej⟩ := pk_andE (xs (iI i).toNatClampNeg) (m := 127) 7 (by decide)
      refine x_top ej ?_
      refine law_disp (i := i) ⟨hi0, by omega, hL⟩ F C hl (fun ax mm N cells slots v ar al v' ar' al' H locs ls C hl => ?_) j hj
      refine lv_iinc (v := iI (i + 6)) (lv' := [(3, .int (iI (i + 6))), (2, .ref (ay 0)), (1, .ref (ax 0)), (0, .ref b)]) hx hb dL_1954 hl (k := 0) rfl ((iI_add (i) (6)).trans (congrArg iI (by omega))) (by decide) rfl (fun ls hl => ?_)
      refine lv_goto (tgt := 18) hx hb dL_1957 (by decide) ?_
      exact ih (i + 6) ax mm N cells slots v ar al v' ar' al' H locs ls (by omega) (by omega) (by omega) C hl
set_option maxHeartbeats 8000000 in
set_option maxRecDepth 100000 in
theorem whole_start {p : Program} {e : Env} {s : State} {m : MethodId} {below : List Frame} {meth : Method} {c : Code} (l : Launch) (hflags : l.flags = flags0) {b L : Nat} {xs : Nat → Int32} (hL : L ≤ 3072) (C0 : lw_At p s m meth c b L xs) : W p l e room_1 s m #[Value.ref b] below meth c s.heap [] 0 0 (lw_Z below #[Value.ref b] s) (entryFrame m ([Value.ref b] : List Value).toArray 4) := by
  obtain ⟨hx, hb, hr, hml, hown, hts, hX, hbl, hlocks, hgv⟩ := id C0
  have hA : ∀ q : Nat, s.heap.size ≤ q → lawA s q := fun _ h => h
  have hbA : ¬ lawA s b := Nat.not_le.mpr hbl
  have htg : ∀ w ∈ tbG, w.before #[Value.ref b] s = true := fun w hw => hts w (List.mem_filter.mp hw).1
  have hE : CallFix p m c code 4 s #[Value.ref b] tbG "TaleCourtLaw" := ⟨hx, hb, hml, hown, htg⟩
  obtain ⟨c0, iS0, hKn0⟩ := u_known (C := RX0) (T := TX0) (N := 6) (n := 6) htg hin0 (htg _ mw_353)
  obtain ⟨c1, iS1, hKn1⟩ := u_known (C := RX1) (T := TX1) (N := 20) (n := 20) htg hin1 (htg _ mw_173)
  obtain ⟨c2, iS2, hKn2⟩ := u_known (C := RX2) (T := TX2) (N := 5) (n := 5) htg hin2 (htg _ mw_413)
  obtain ⟨c3, iS3, hKn3⟩ := u_known (C := RX3) (T := TX3) (N := 3) (n := 3) htg hin3 (htg _ mw_459)
  obtain ⟨c4, iS4, hKn4⟩ := u_known (C := RX4) (T := TX4) (N := 7) (n := 7) htg hin4 (htg _ mw_141)
  obtain ⟨c5, iS5, hKn5⟩ := u_known (C := RX5) (T := TX5) (N := 3) (n := 3) htg hin5 (htg _ mw_440)
  obtain ⟨c6, iS6, hKn6⟩ := u_known (C := RX6) (T := TX6) (N := 8) (n := 8) htg hin6 (htg _ mw_379)
  obtain ⟨c7, iS7, hKn7⟩ := u_known (C := RX7) (T := TX7) (N := 14) (n := 14) htg hin7 (htg _ mw_290)
  obtain ⟨c8, iS8, hKn8⟩ := u_known (C := RX8) (T := TX8) (N := 10) (n := 10) htg hin8 (htg _ mw_133)
  obtain ⟨c9, iS9, hKn9⟩ := u_known (C := RX9) (T := TX9) (N := 50) (n := 50) htg hin9 (htg _ mw_1328)
  obtain ⟨k0, ha0⟩ := arr_i (htg _ mw_288)
  obtain ⟨k1, ha1⟩ := arr_l (htg _ mw_411)
  obtain ⟨k2, ha2⟩ := arr_b (htg _ mw_171)
  obtain ⟨k3, ha3⟩ := arr_z (htg _ mw_1485)
  obtain ⟨k4, ha4⟩ := arr_o (hts _ mn_437)
  obtain ⟨k5, ha5⟩ := arr_o (hts _ mn_439)
  have hnp : nPre s := ⟨va_Nw.of rfl (hts _ mn_142), va_Nw.of rfl (hts _ mn_174), va_Nw.of rfl (hts _ mn_354), va_Nw.of rfl (hts _ mn_441), va_Nw.of rfl (hts _ mn_460), va_Nw.of rfl (hts _ mn_465), va_AO.of (hts _ mn_437), va_AO.of (hts _ mn_439)⟩
  obtain ⟨D, K, hK⟩ : ∃ (D : va_G) (K : Nat → ClassId), va_K D xcl (xty K) s := by
    refine ⟨(fun k => if k = 0 then c0 else if k = 1 then c1 else if k = 2 then c2 else if k = 3 then c3 else if k = 4 then c4 else if k = 5 then c5 else if k = 6 then c6 else if k = 7 then c7 else if k = 8 then c8 else c9, fun k => if k = 0 then iS0 else if k = 1 then iS1 else if k = 2 then iS2 else if k = 3 then iS3 else if k = 4 then iS4 else if k = 5 then iS5 else if k = 6 then iS6 else if k = 7 then iS7 else if k = 8 then iS8 else iS9), fun k => if k = 0 then k0 else if k = 1 then k1 else if k = 2 then k2 else if k = 3 then k3 else if k = 4 then k4 else k5, fun k q hq => ?_, fun k q hq => ?_⟩
    · match k, hq with
      | 0, hq => cases hq; exact hKn0
      | 1, hq => cases hq; exact hKn1
      | 2, hq => cases hq; exact hKn2
      | 3, hq => cases hq; exact hKn3
      | 4, hq => cases hq; exact hKn4
      | 5, hq => cases hq; exact hKn5
      | 6, hq => cases hq; exact hKn6
      | 7, hq => cases hq; exact hKn7
      | 8, hq => cases hq; exact hKn8
      | 9, hq => cases hq; exact hKn9
      | k + 10, hq => simp at hq
    · match k, hq with
      | 0, hq => cases hq; exact ha0
      | 1, hq => cases hq; exact ha1
      | 2, hq => cases hq; exact ha2
      | 3, hq => cases hq; exact ha3
      | 4, hq => cases hq; exact ha4
      | 5, hq => cases hq; exact ha5
      | k + 6, hq => simp [xty] at hq
  have hS : va_S (lawA s) s.heap s.heap [] := va_S.rf
  have hP : va_P D xcl [] s.heap := fun k q h => by simp at h
  have hD : va_D (lawA s) [] := ⟨fun i j p q h => by simp at h, fun k q h => by simp at h⟩
  have hl := lv_entry ([.ref b]) (n := 4) (Nat.le_of_ble_eq_true rfl)
  rw [lg_entry_eq]
  generalize (lg_sl ([.ref b]) ++ List.replicate (4 - (lg_sl ([.ref b])).length) Slot.unset).toArray = ls at hl ⊢
  have hl : lv_has ls 4 [(0, .ref b)] := hl
  refine x_newo (ws := []) (ci := 8) (fs := zX8) (k := 1) (z := 10) hE hin8 tyX8 tyX8_ok mw_132 mw_133 mw_114 hK hP hD hS hA rfl zX8_ok rfl rfl (Nat.le_of_ble_eq_true rfl) (Nat.le_of_ble_eq_true rfl) dL_0 (fun q0 H hP hD hS => ?_)
  refine lv_dup hx hb dL_3 rfl ?_
  refine x_ctor (ws := []) (nn := 0) (As := []) (rest := [.ref q0]) (k := 132) (z := 12559) hE hK hnp hP hD hS hA (k_X8_init l D K q0 _) rfl mw_134 mw_135 mw_114 mw_136 rfl (by decide +kernel) ⟨Nat.le_of_ble_eq_true rfl, Nat.le_of_ble_eq_true rfl⟩ hl.1 rfl (Nat.le_of_ble_eq_true rfl) rfl rfl (Nat.le_of_ble_eq_true rfl) (Nat.le_of_ble_eq_true rfl) dL_4 (fun ax Hax locsax hax hPax hDax hSax => ?_)
  subst hax
  refine lv_astore_n (lv' := [(1, .ref (ax 0)), (0, .ref b)]) hx hb dL_7 rfl hl (by decide) rfl (fun ls hl => ?_)
  have hP := hPax
  have hD := hDax
  have hS := hSax
  refine x_newo (ws := ([] ++ bX8 K ax)) (ci := 9) (fs := zX9) (k := 133) (z := 12609) hE hin9 tyX9 tyX9_ok mw_1327 mw_1328 mw_123 hK hP hD hS hA rfl zX9_ok rfl rfl (Nat.le_of_ble_eq_true rfl) (Nat.le_of_ble_eq_true rfl) dL_8 (fun q1 H hP hD hS => ?_)
  refine lv_dup hx hb dL_11 rfl ?_
  refine x_ctor (ws := ([] ++ bX8 K ax)) (nn := 0) (As := []) (rest := [.ref q1]) (k := 153) (z := 180094) hE hK hnp hP hD hS hA (k_X9_init l D K q1 _) rfl mw_1329 mw_1330 mw_123 mw_1331 rfl (by decide +kernel) ⟨Nat.le_of_ble_eq_true rfl, Nat.le_of_ble_eq_true rfl⟩ hl.1 rfl (Nat.le_of_ble_eq_true rfl) rfl rfl (Nat.le_of_ble_eq_true rfl) (Nat.le_of_ble_eq_true rfl) dL_12 (fun ay Hay locsay hay hPay hDay hSay => ?_)
  subst hay
  refine lv_astore_n (lv' := [(2, .ref (ay 0)), (1, .ref (ax 0)), (0, .ref b)]) hx hb dL_15 rfl hl (by decide) rfl (fun ls hl => ?_)
  refine lv_iconst (v := iI (0)) hx hb dL_16 (by decide) ?_
  refine lv_istore_n (lv' := [(3, .int (iI (0))), (2, .ref (ay 0)), (1, .ref (ax 0)), (0, .ref b)]) hx hb dL_17 rfl hl (by decide) rfl (fun ls hl => ?_)
  rw [as9] at hPay hDay
  have hPay : va_P D xcl (pw ax (gF (xG ax K none) xv0 xa0 xl0) 132 ++ pw ay (gF (yG ay K) yv0 ya0 yl0) 21) Hay := hPay
  have hDay : va_D (lawA s) (pw ax (gF (xG ax K none) xv0 xa0 xl0) 132 ++ pw ay (gF (yG ay K) yv0 ya0 yl0) 21) := hDay
  obtain ⟨hPX, hPY, hNX, hNY, hAX, hAY, hdis⟩ := two hPay hDay
  obtain ⟨tk, tv, hT, hTR⟩ := law_text C0
  exact law_loop hL ⟨C0, hE, hK, hT, hTR⟩ 512 0 ax none 132 153 180094 xv0 xa0 xl0 yv0 ya0 yl0 _ _ ls (by omega) (by omega) (by omega) ⟨hNX, hNY, hAX, hAY, hdis, hPX, hPY, hSay, XI_start, YI_start, Or.inl ⟨rfl, rfl, rfl, rfl⟩, lawR_start⟩ hl
-- ===== YOUR PART ENDS =====
set_option maxHeartbeats 4000000 in
theorem lw_walk (l : Launch) (hflags : l.flags = flags0) (b : Addr) (xs : List Int32) : MetFree l x (headSpec (Jvm.Cond.code x code maxLocals ret :: tables_1) room_1) (lw_P b xs) (fun _ _ _ _ _ => True) lw_Q := by
  refine MetFree.of_bodyS (code := code) (maxLocals := maxLocals) (ret := ret) (by decide) ?_ ?_
  · intro args s m h hn
    obtain ⟨meth, c, h1, h2, h3, h4, h5, h6, -, -⟩ := Cond.code_spec hn (atoms_spec (ws := Jvm.Cond.code x code maxLocals ret :: tables_1) h _ List.mem_cons_self)
    exact ⟨meth, c, h1, h2, h3, h4, h5, h6⟩
  · intro p e s m args below meth c s₁ B hml0 hP _
    obtain ⟨rfl, hx, hbd, hgv⟩ := hP
    obtain ⟨scr, harrAt, hlist, hof, hsmall⟩ := hx
    obtain ⟨hcb, hkn, -, -⟩ := State.arrayAt?_spec harrAt
    have hown : s.vm.findClass R_law = some m.cls := findClass_of_methodNamed B.named
    have hts0 : ∀ c ∈ (Jvm.Cond.code x code maxLocals ret :: tables_1), c.before #[Value.ref b] s = true := atoms_spec (ws := Jvm.Cond.code x code maxLocals ret :: tables_1) B.pre
    have hts : ∀ w ∈ lw_tbl, w.before #[Value.ref b] s = true := k2_hts_sels lw_privs (fun w hw => hts0 w (List.mem_cons_of_mem _ hw)) lw_privs_ok
    have hml : c.maxLocals = 4 := B.maxLocals_eq (hts0 _ List.mem_cons_self)
    have X₀ : Stand p l e room_1 s m #[Value.ref b] below meth c s₁ [] 0 0 := Stand.of_body B
    have hh0 : s₁.heap = s.heap := by rw [B.state]; rfl
    have hsz : scr.slots.size = xs.length := by rw [← Array.length_toList, hlist, List.length_map]
    have hval : ∀ j : Nat, j < xs.length → scr.slots[j]? = some (.int (xs.getD j 0)) := fun j hj => by
      rw [← Array.getElem?_toList, hlist]
      simp [hj]
    have hbl : b < s.heap.size := (Array.getElem?_eq_some_iff.mp hcb).1
    have hX : va_X b xs.length (fun j => xs.getD j 0) s s.heap := ⟨scr, hcb, hof, hkn, hsz, hval⟩
    have K : W p l e room_1 s m #[Value.ref b] below meth c s₁.heap [] 0 0 (lw_Z below #[Value.ref b] s) (entryFrame m ([Value.ref b] : List Value).toArray 4) := by
      rw [hh0]
      exact whole_start l hflags hbd ⟨B.exec, B.bytes, B.returns, hml, hown, hts, hX, hbl, B.notSynchronized, hgv⟩
    obtain ⟨t, a1, o, b1, b2, b3⟩ := K s₁ rfl X₀
    exact ⟨t, o, a1, b1, b2, b3⟩
theorem lw_pre_spec {args : Array Value} {s : State} (h : (Jvm.Cond.and given_1 narrow_1).before args s = true) (hr : rest_1_c.before args s = true) : ∃ (b : Addr) (xs : List Int32), lw_P b xs args s := by
  have hs := flat_of_before _ h
  have hq := flat_of_before _ hr
  have hc : (Cond.count 1).before args s = true := hs _ (by decide +kernel)
  have harr : (Cond.arrayOf (.arg 0) .int).before args s = true := hs _ (by decide +kernel)
  have hle : (Cond.le (.length (.arg 0)) (.int 3072)).before args s = true := hs _ (by decide +kernel)
  have hlen : (Cond.isInt (.length (.arg 0))).before args s = true := hq _ (by decide +kernel)
  have hall : (Cond.all (.arg 0) (.isInt (.elem (.arg 0) (.index 0)))).before args s = true := hq _ (by decide +kernel)
  obtain ⟨b, xs, hb, hx⟩ := State.ints_of_pre rfl harr hlen hall
  have hsm : xs.length < 2 ^ 31 := hx.choose_spec.2.2.2
  have hev : (Term.length (.arg 0)).eval args s none [] s = some (.int xs.length.toInt32) := hx.length_eval hb
  have hv := Cond.le_ints hev (show (Term.int 3072).eval args s none [] s = some (.int 3072) from rfl)
  have hd : xs.length.toInt32 ≤ 3072 := by
    simpa [Cond.before, Cond.holds, hv] using hle
  have hN : xs.length ≤ 3072 := (Int32.ofNat_le_ofNat hsm (by decide)).mp (show Int32.ofNat xs.length ≤ Int32.ofNat 3072 from hd)
  exact ⟨b, xs, Cond.one_arg hc (show args[0]? = some (.ref b) from hb), hx, hN, h⟩
theorem lw_comes (l : Launch) (hflags : l.flags = flags0) : Comes l x (Jvm.Cond.code x code maxLocals ret :: tables_1) room_1 (fun tb e args s => Calls_1 tb e args s ∧ rest_1 tb e args s ∧ Pre_1 tb e args s)
    (fun _ _ args s o t => lw_Q args s o t) := by
  intro p e ha hc hk s m args below hf hfit hheap happ hpre
  obtain ⟨b, xs, hP⟩ := lw_pre_spec hpre.2.2 hpre.2.1
  obtain ⟨k, o, h1, h2, h3, hQ⟩ := lw_walk l hflags b xs p e ha hc hk s m args below hf ((Spec.applies_iff_loose hf).mp happ).1 hP trivial
  exact ⟨k, o, h1, h2, h3, hQ⟩
theorem lw_frame {s t : State} {o : Outcome} {args : Array Value} (h : Framed s o t [] 600000 7302250) :
    Framed s o t (fieldLocs frame_1_writes args s ++ arrayLocs frame_1_arrays args s ++ staticLocs frame_1_statics s) 600000 7302250 := h
theorem lw_limb (L : Cond) (hL : ∀ (args : Array Value) (s t : State), L.after args s (.returned (some (.int 1))) t = true) :
    ArmFor flags0 classFile x code maxLocals ret World_1 tables_1 room_1 Calls_1 rest_1 Pre_1
      (fun tb e a s o t => postC L tb e a s o t ∧ Framed s o t (fieldLocs frame_1_writes a s ++ arrayLocs frame_1_arrays a s ++ staticLocs frame_1_statics s) 600000 7302250) := by
  intro l hflags _ _ p e ha hc hk s m args below hf hfit hheap happ hpre
  obtain ⟨k, o, h1, h2, h3, rfl, hF⟩ := lw_comes l hflags p e ha hc hk s m args below hf hfit hheap happ hpre
  exact ⟨k, _, h1, h2, h3, hL args s _, lw_frame hF⟩
theorem i_vc : Claimed_1_1 ∧ Claimed_1_2 := ⟨lw_limb limb_1_1 (fun args s t => by simp [limb_1_1, Cond.after, Cond.holds, Cond.value]), lw_limb limb_1_2 (fun args s t => Cond.after_iff.mpr (by
  first | (rw [show limb_1_2 = Cond.eq .result (.int 1) from rfl, Cond.eq_ints (x := 1) (y := 1) rfl rfl]; simp; done) | (simp [limb_1_2, Cond.value, Term.eval]; done)))⟩

