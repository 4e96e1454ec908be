section
-- ===== PART A: goes FIRST, ahead of the names: the tables' words, and 'selects' of the private methods out of them =====
/-- a private method of a class that the tables say can be made, by its rows of tables_1 -/
def lw_okq (q : MethodName × Nat) : Prop := (q.1.cls ≠ "java/lang/invoke/MethodHandle" ∧ q.1.cls ≠ "java/lang/invoke/VarHandle") ∧ Cond.instantiable q.1.cls q.2 ∈ tables_1 ∧ Cond.privateMethod q.1 ∈ tables_1 ∧ Cond.instanceMethod q.1 ∈ tables_1
theorem lw_p0 : lw_okq (⟨"TaleCourt$Reader", "step", "()V"⟩, 7) := ⟨⟨by decide +kernel, by decide +kernel⟩, List.mem_of_getElem? (i := 28) (by decide +kernel), List.mem_of_getElem? (i := 426) (by decide +kernel), List.mem_of_getElem? (i := 427) (by decide +kernel)⟩
theorem lw_p1 : lw_okq (⟨"TaleCourt$Reader", "byteAt", "(I)I"⟩, 7) := ⟨⟨by decide +kernel, by decide +kernel⟩, List.mem_of_getElem? (i := 28) (by decide +kernel), List.mem_of_getElem? (i := 430) (by decide +kernel), List.mem_of_getElem? (i := 431) (by decide +kernel)⟩
theorem lw_p2 : lw_okq (⟨"TaleCourt$Reader", "readLine", "(LTaleCourt$Court;)V"⟩, 7) := ⟨⟨by decide +kernel, by decide +kernel⟩, List.mem_of_getElem? (i := 28) (by decide +kernel), List.mem_of_getElem? (i := 437) (by decide +kernel), List.mem_of_getElem? (i := 438) (by decide +kernel)⟩
theorem lw_p3 : lw_okq (⟨"TaleCourt$Reader", "readHead", "(LTaleCourt$Court;)V"⟩, 7) := ⟨⟨by decide +kernel, by decide +kernel⟩, List.mem_of_getElem? (i := 28) (by decide +kernel), List.mem_of_getElem? (i := 441) (by decide +kernel), List.mem_of_getElem? (i := 442) (by decide +kernel)⟩
theorem lw_p4 : lw_okq (⟨"TaleCourt$Reader", "takeWord", "(Ljava/lang/String;)V"⟩, 7) := ⟨⟨by decide +kernel, by decide +kernel⟩, List.mem_of_getElem? (i := 28) (by decide +kernel), List.mem_of_getElem? (i := 446) (by decide +kernel), List.mem_of_getElem? (i := 447) (by decide +kernel)⟩
theorem lw_p5 : lw_okq (⟨"TaleCourt$Reader", "isWord", "(Ljava/lang/String;)Z"⟩, 7) := ⟨⟨by decide +kernel, by decide +kernel⟩, List.mem_of_getElem? (i := 28) (by decide +kernel), List.mem_of_getElem? (i := 450) (by decide +kernel), List.mem_of_getElem? (i := 451) (by decide +kernel)⟩
theorem lw_p6 : lw_okq (⟨"TaleCourt$Reader", "fail", "(I)V"⟩, 7) := ⟨⟨by decide +kernel, by decide +kernel⟩, List.mem_of_getElem? (i := 28) (by decide +kernel), List.mem_of_getElem? (i := 502) (by decide +kernel), List.mem_of_getElem? (i := 503) (by decide +kernel)⟩
theorem lw_p7 : lw_okq (⟨"TaleCourt$Reader", "takeNumber", "(III)I"⟩, 7) := ⟨⟨by decide +kernel, by decide +kernel⟩, List.mem_of_getElem? (i := 28) (by decide +kernel), List.mem_of_getElem? (i := 507) (by decide +kernel), List.mem_of_getElem? (i := 508) (by decide +kernel)⟩
theorem lw_p8 : lw_okq (⟨"TaleCourt$Reader", "numberHere", "()I"⟩, 7) := ⟨⟨by decide +kernel, by decide +kernel⟩, List.mem_of_getElem? (i := 28) (by decide +kernel), List.mem_of_getElem? (i := 511) (by decide +kernel), List.mem_of_getElem? (i := 512) (by decide +kernel)⟩
theorem lw_p9 : lw_okq (⟨"TaleCourt$Reader", "readMotif", "(LTaleCourt$Court;)V"⟩, 7) := ⟨⟨by decide +kernel, by decide +kernel⟩, List.mem_of_getElem? (i := 28) (by decide +kernel), List.mem_of_getElem? (i := 520) (by decide +kernel), List.mem_of_getElem? (i := 521) (by decide +kernel)⟩
theorem lw_p10 : lw_okq (⟨"TaleCourt$Reader", "readMark", "(LTaleCourt$Court;I)V"⟩, 7) := ⟨⟨by decide +kernel, by decide +kernel⟩, List.mem_of_getElem? (i := 28) (by decide +kernel), List.mem_of_getElem? (i := 525) (by decide +kernel), List.mem_of_getElem? (i := 526) (by decide +kernel)⟩
theorem lw_p11 : lw_okq (⟨"TaleCourt$Reader", "readJoin", "(LTaleCourt$Court;)V"⟩, 7) := ⟨⟨by decide +kernel, by decide +kernel⟩, List.mem_of_getElem? (i := 28) (by decide +kernel), List.mem_of_getElem? (i := 535) (by decide +kernel), List.mem_of_getElem? (i := 536) (by decide +kernel)⟩
theorem lw_p12 : lw_okq (⟨"TaleCourt$Reader", "readClash", "(LTaleCourt$Court;)V"⟩, 7) := ⟨⟨by decide +kernel, by decide +kernel⟩, List.mem_of_getElem? (i := 28) (by decide +kernel), List.mem_of_getElem? (i := 541) (by decide +kernel), List.mem_of_getElem? (i := 542) (by decide +kernel)⟩
theorem lw_p13 : lw_okq (⟨"TaleCourt$Reader", "readKeeps", "(LTaleCourt$Court;)V"⟩, 7) := ⟨⟨by decide +kernel, by decide +kernel⟩, List.mem_of_getElem? (i := 28) (by decide +kernel), List.mem_of_getElem? (i := 547) (by decide +kernel), List.mem_of_getElem? (i := 548) (by decide +kernel)⟩
theorem lw_p14 : lw_okq (⟨"TaleCourt$Reader", "readListener", "(LTaleCourt$Court;)V"⟩, 7) := ⟨⟨by decide +kernel, by decide +kernel⟩, List.mem_of_getElem? (i := 28) (by decide +kernel), List.mem_of_getElem? (i := 557) (by decide +kernel), List.mem_of_getElem? (i := 558) (by decide +kernel)⟩
theorem lw_p15 : lw_okq (⟨"TaleCourt$Court", "followersOfSet", "(I)I"⟩, 20) := ⟨⟨by decide +kernel, by decide +kernel⟩, List.mem_of_getElem? (i := 60) (by decide +kernel), List.mem_of_getElem? (i := 614) (by decide +kernel), List.mem_of_getElem? (i := 615) (by decide +kernel)⟩
def lw_privs_1 : List (MethodName × Nat) := [(⟨"TaleCourt$Reader", "step", "()V"⟩, 7), (⟨"TaleCourt$Reader", "byteAt", "(I)I"⟩, 7), (⟨"TaleCourt$Reader", "readLine", "(LTaleCourt$Court;)V"⟩, 7), (⟨"TaleCourt$Reader", "readHead", "(LTaleCourt$Court;)V"⟩, 7), (⟨"TaleCourt$Reader", "takeWord", "(Ljava/lang/String;)V"⟩, 7), (⟨"TaleCourt$Reader", "isWord", "(Ljava/lang/String;)Z"⟩, 7), (⟨"TaleCourt$Reader", "fail", "(I)V"⟩, 7), (⟨"TaleCourt$Reader", "takeNumber", "(III)I"⟩, 7), (⟨"TaleCourt$Reader", "numberHere", "()I"⟩, 7), (⟨"TaleCourt$Reader", "readMotif", "(LTaleCourt$Court;)V"⟩, 7), (⟨"TaleCourt$Reader", "readMark", "(LTaleCourt$Court;I)V"⟩, 7), (⟨"TaleCourt$Reader", "readJoin", "(LTaleCourt$Court;)V"⟩, 7), (⟨"TaleCourt$Reader", "readClash", "(LTaleCourt$Court;)V"⟩, 7), (⟨"TaleCourt$Reader", "readKeeps", "(LTaleCourt$Court;)V"⟩, 7), (⟨"TaleCourt$Reader", "readListener", "(LTaleCourt$Court;)V"⟩, 7), (⟨"TaleCourt$Court", "followersOfSet", "(I)I"⟩, 20)]
theorem lw_r1 : ∀ q ∈ lw_privs_1, lw_okq q := List.forall_mem_cons.mpr ⟨lw_p0, List.forall_mem_cons.mpr ⟨lw_p1, List.forall_mem_cons.mpr ⟨lw_p2, List.forall_mem_cons.mpr ⟨lw_p3, List.forall_mem_cons.mpr ⟨lw_p4, List.forall_mem_cons.mpr ⟨lw_p5, List.forall_mem_cons.mpr ⟨lw_p6, List.forall_mem_cons.mpr ⟨lw_p7, List.forall_mem_cons.mpr ⟨lw_p8, List.forall_mem_cons.mpr ⟨lw_p9, List.forall_mem_cons.mpr ⟨lw_p10, List.forall_mem_cons.mpr ⟨lw_p11, List.forall_mem_cons.mpr ⟨lw_p12, List.forall_mem_cons.mpr ⟨lw_p13, List.forall_mem_cons.mpr ⟨lw_p14, List.forall_mem_cons.mpr ⟨lw_p15, fun _ h => absurd h List.not_mem_nil⟩⟩⟩⟩⟩⟩⟩⟩⟩⟩⟩⟩⟩⟩⟩⟩
theorem lw_p16 : lw_okq (⟨"TaleCourt$Telling", "joined", "()I"⟩, 14) := ⟨⟨by decide +kernel, by decide +kernel⟩, List.mem_of_getElem? (i := 177) (by decide +kernel), List.mem_of_getElem? (i := 634) (by decide +kernel), List.mem_of_getElem? (i := 635) (by decide +kernel)⟩
theorem lw_p17 : lw_okq (⟨"TaleCourt$Telling", "pressing", "()I"⟩, 14) := ⟨⟨by decide +kernel, by decide +kernel⟩, List.mem_of_getElem? (i := 177) (by decide +kernel), List.mem_of_getElem? (i := 638) (by decide +kernel), List.mem_of_getElem? (i := 639) (by decide +kernel)⟩
theorem lw_p18 : lw_okq (⟨"TaleCourt$Telling", "hasRoom", "()Z"⟩, 14) := ⟨⟨by decide +kernel, by decide +kernel⟩, List.mem_of_getElem? (i := 177) (by decide +kernel), List.mem_of_getElem? (i := 654) (by decide +kernel), List.mem_of_getElem? (i := 655) (by decide +kernel)⟩
theorem lw_p19 : lw_okq (⟨"TaleCourt$Telling", "remember", "(I)V"⟩, 14) := ⟨⟨by decide +kernel, by decide +kernel⟩, List.mem_of_getElem? (i := 177) (by decide +kernel), List.mem_of_getElem? (i := 659) (by decide +kernel), List.mem_of_getElem? (i := 660) (by decide +kernel)⟩
theorem lw_p20 : lw_okq (⟨"TaleCourt$Telling", "owe", "(II)V"⟩, 14) := ⟨⟨by decide +kernel, by decide +kernel⟩, List.mem_of_getElem? (i := 177) (by decide +kernel), List.mem_of_getElem? (i := 667) (by decide +kernel), List.mem_of_getElem? (i := 668) (by decide +kernel)⟩
theorem lw_p21 : lw_okq (⟨"TaleCourt$Telling", "untell", "(I)V"⟩, 14) := ⟨⟨by decide +kernel, by decide +kernel⟩, List.mem_of_getElem? (i := 177) (by decide +kernel), List.mem_of_getElem? (i := 704) (by decide +kernel), List.mem_of_getElem? (i := 705) (by decide +kernel)⟩
theorem lw_p22 : lw_okq (⟨"TaleCourt$Survey", "solve", "(I)I"⟩, 8) := ⟨⟨by decide +kernel, by decide +kernel⟩, List.mem_of_getElem? (i := 266) (by decide +kernel), List.mem_of_getElem? (i := 801) (by decide +kernel), List.mem_of_getElem? (i := 802) (by decide +kernel)⟩
theorem lw_p23 : lw_okq (⟨"TaleCourt$Survey", "key", "()J"⟩, 8) := ⟨⟨by decide +kernel, by decide +kernel⟩, List.mem_of_getElem? (i := 266) (by decide +kernel), List.mem_of_getElem? (i := 805) (by decide +kernel), List.mem_of_getElem? (i := 806) (by decide +kernel)⟩
theorem lw_p24 : lw_okq (⟨"TaleCourt$Survey", "own", "(I)I"⟩, 8) := ⟨⟨by decide +kernel, by decide +kernel⟩, List.mem_of_getElem? (i := 266) (by decide +kernel), List.mem_of_getElem? (i := 815) (by decide +kernel), List.mem_of_getElem? (i := 816) (by decide +kernel)⟩
theorem lw_p25 : lw_okq (⟨"TaleCourt$Survey", "openNow", "()I"⟩, 8) := ⟨⟨by decide +kernel, by decide +kernel⟩, List.mem_of_getElem? (i := 266) (by decide +kernel), List.mem_of_getElem? (i := 820) (by decide +kernel), List.mem_of_getElem? (i := 821) (by decide +kernel)⟩
theorem lw_p26 : lw_okq (⟨"TaleCourt$Claims", "allows", "(II)Z"⟩, 6) := ⟨⟨by decide +kernel, by decide +kernel⟩, List.mem_of_getElem? (i := 240) (by decide +kernel), List.mem_of_getElem? (i := 829) (by decide +kernel), List.mem_of_getElem? (i := 830) (by decide +kernel)⟩
theorem lw_p27 : lw_okq (⟨"TaleCourt$Survey", "merge", "(II)I"⟩, 8) := ⟨⟨by decide +kernel, by decide +kernel⟩, List.mem_of_getElem? (i := 266) (by decide +kernel), List.mem_of_getElem? (i := 834) (by decide +kernel), List.mem_of_getElem? (i := 835) (by decide +kernel)⟩
theorem lw_p28 : lw_okq (⟨"TaleCourt$Survey", "firstWith", "(II)I"⟩, 8) := ⟨⟨by decide +kernel, by decide +kernel⟩, List.mem_of_getElem? (i := 266) (by decide +kernel), List.mem_of_getElem? (i := 854) (by decide +kernel), List.mem_of_getElem? (i := 855) (by decide +kernel)⟩
theorem lw_p29 : lw_okq (⟨"TaleCourt", "wholesWithout", "(I)I"⟩, 10) := ⟨⟨by decide +kernel, by decide +kernel⟩, List.mem_of_getElem? (i := 20) (by decide +kernel), List.mem_of_getElem? (i := 882) (by decide +kernel), List.mem_of_getElem? (i := 883) (by decide +kernel)⟩
theorem lw_p30 : lw_okq (⟨"TaleCourt", "gameBar", "()I"⟩, 10) := ⟨⟨by decide +kernel, by decide +kernel⟩, List.mem_of_getElem? (i := 20) (by decide +kernel), List.mem_of_getElem? (i := 915) (by decide +kernel), List.mem_of_getElem? (i := 916) (by decide +kernel)⟩
theorem lw_p31 : lw_okq (⟨"TaleCourt$Game", "solve", "(I)I"⟩, 5) := ⟨⟨by decide +kernel, by decide +kernel⟩, List.mem_of_getElem? (i := 300) (by decide +kernel), List.mem_of_getElem? (i := 929) (by decide +kernel), List.mem_of_getElem? (i := 930) (by decide +kernel)⟩
def lw_privs_2 : List (MethodName × Nat) := [(⟨"TaleCourt$Telling", "joined", "()I"⟩, 14), (⟨"TaleCourt$Telling", "pressing", "()I"⟩, 14), (⟨"TaleCourt$Telling", "hasRoom", "()Z"⟩, 14), (⟨"TaleCourt$Telling", "remember", "(I)V"⟩, 14), (⟨"TaleCourt$Telling", "owe", "(II)V"⟩, 14), (⟨"TaleCourt$Telling", "untell", "(I)V"⟩, 14), (⟨"TaleCourt$Survey", "solve", "(I)I"⟩, 8), (⟨"TaleCourt$Survey", "key", "()J"⟩, 8), (⟨"TaleCourt$Survey", "own", "(I)I"⟩, 8), (⟨"TaleCourt$Survey", "openNow", "()I"⟩, 8), (⟨"TaleCourt$Claims", "allows", "(II)Z"⟩, 6), (⟨"TaleCourt$Survey", "merge", "(II)I"⟩, 8), (⟨"TaleCourt$Survey", "firstWith", "(II)I"⟩, 8), (⟨"TaleCourt", "wholesWithout", "(I)I"⟩, 10), (⟨"TaleCourt", "gameBar", "()I"⟩, 10), (⟨"TaleCourt$Game", "solve", "(I)I"⟩, 5)]
theorem lw_r2 : ∀ q ∈ lw_privs_2, lw_okq q := List.forall_mem_cons.mpr ⟨lw_p16, List.forall_mem_cons.mpr ⟨lw_p17, List.forall_mem_cons.mpr ⟨lw_p18, List.forall_mem_cons.mpr ⟨lw_p19, List.forall_mem_cons.mpr ⟨lw_p20, List.forall_mem_cons.mpr ⟨lw_p21, List.forall_mem_cons.mpr ⟨lw_p22, List.forall_mem_cons.mpr ⟨lw_p23, List.forall_mem_cons.mpr ⟨lw_p24, List.forall_mem_cons.mpr ⟨lw_p25, List.forall_mem_cons.mpr ⟨lw_p26, List.forall_mem_cons.mpr ⟨lw_p27, List.forall_mem_cons.mpr ⟨lw_p28, List.forall_mem_cons.mpr ⟨lw_p29, List.forall_mem_cons.mpr ⟨lw_p30, List.forall_mem_cons.mpr ⟨lw_p31, fun _ h => absurd h List.not_mem_nil⟩⟩⟩⟩⟩⟩⟩⟩⟩⟩⟩⟩⟩⟩⟩⟩
theorem lw_p32 : lw_okq (⟨"TaleCourt$Game", "position", "()I"⟩, 5) := ⟨⟨by decide +kernel, by decide +kernel⟩, List.mem_of_getElem? (i := 300) (by decide +kernel), List.mem_of_getElem? (i := 933) (by decide +kernel), List.mem_of_getElem? (i := 934) (by decide +kernel)⟩
theorem lw_p33 : lw_okq (⟨"TaleCourt$Game", "movesNow", "()I"⟩, 5) := ⟨⟨by decide +kernel, by decide +kernel⟩, List.mem_of_getElem? (i := 300) (by decide +kernel), List.mem_of_getElem? (i := 938) (by decide +kernel), List.mem_of_getElem? (i := 939) (by decide +kernel)⟩
theorem lw_p34 : lw_okq (⟨"TaleCourt$Game", "play", "(I)V"⟩, 5) := ⟨⟨by decide +kernel, by decide +kernel⟩, List.mem_of_getElem? (i := 300) (by decide +kernel), List.mem_of_getElem? (i := 944) (by decide +kernel), List.mem_of_getElem? (i := 945) (by decide +kernel)⟩
theorem lw_p35 : lw_okq (⟨"TaleCourt", "tradeWins", "(II)Z"⟩, 10) := ⟨⟨by decide +kernel, by decide +kernel⟩, List.mem_of_getElem? (i := 20) (by decide +kernel), List.mem_of_getElem? (i := 987) (by decide +kernel), List.mem_of_getElem? (i := 988) (by decide +kernel)⟩
theorem lw_p36 : lw_okq (⟨"TaleCourt", "slotBar", "(I)I"⟩, 10) := ⟨⟨by decide +kernel, by decide +kernel⟩, List.mem_of_getElem? (i := 20) (by decide +kernel), List.mem_of_getElem? (i := 1018) (by decide +kernel), List.mem_of_getElem? (i := 1019) (by decide +kernel)⟩
theorem lw_p37 : lw_okq (⟨"TaleCourt", "retell", "(LTaleCourt$Row;)I"⟩, 10) := ⟨⟨by decide +kernel, by decide +kernel⟩, List.mem_of_getElem? (i := 20) (by decide +kernel), List.mem_of_getElem? (i := 1025) (by decide +kernel), List.mem_of_getElem? (i := 1026) (by decide +kernel)⟩
theorem lw_p38 : lw_okq (⟨"TaleCourt", "retellTurn", "(J)I"⟩, 10) := ⟨⟨by decide +kernel, by decide +kernel⟩, List.mem_of_getElem? (i := 20) (by decide +kernel), List.mem_of_getElem? (i := 1029) (by decide +kernel), List.mem_of_getElem? (i := 1030) (by decide +kernel)⟩
theorem lw_p39 : lw_okq (⟨"TaleCourt", "claimsBar", "(II)I"⟩, 10) := ⟨⟨by decide +kernel, by decide +kernel⟩, List.mem_of_getElem? (i := 20) (by decide +kernel), List.mem_of_getElem? (i := 1047) (by decide +kernel), List.mem_of_getElem? (i := 1048) (by decide +kernel)⟩
theorem lw_p40 : lw_okq (⟨"TaleCourt$Claims", "note", "(III)V"⟩, 6) := ⟨⟨by decide +kernel, by decide +kernel⟩, List.mem_of_getElem? (i := 240) (by decide +kernel), List.mem_of_getElem? (i := 1062) (by decide +kernel), List.mem_of_getElem? (i := 1063) (by decide +kernel)⟩
theorem lw_p41 : lw_okq (⟨"TaleCourt$Claims", "untrueBehind", "(II)I"⟩, 6) := ⟨⟨by decide +kernel, by decide +kernel⟩, List.mem_of_getElem? (i := 240) (by decide +kernel), List.mem_of_getElem? (i := 1073) (by decide +kernel), List.mem_of_getElem? (i := 1074) (by decide +kernel)⟩
theorem lw_p42 : lw_okq (⟨"TaleCourt$Claims", "reach", "(III)V"⟩, 6) := ⟨⟨by decide +kernel, by decide +kernel⟩, List.mem_of_getElem? (i := 240) (by decide +kernel), List.mem_of_getElem? (i := 1077) (by decide +kernel), List.mem_of_getElem? (i := 1078) (by decide +kernel)⟩
theorem lw_p43 : lw_okq (⟨"TaleCourt$Claims", "canBeTrueWithout", "(I)Z"⟩, 6) := ⟨⟨by decide +kernel, by decide +kernel⟩, List.mem_of_getElem? (i := 240) (by decide +kernel), List.mem_of_getElem? (i := 1110) (by decide +kernel), List.mem_of_getElem? (i := 1111) (by decide +kernel)⟩
theorem lw_p44 : lw_okq (⟨"TaleCourt", "mayDraw", "(I)Z"⟩, 10) := ⟨⟨by decide +kernel, by decide +kernel⟩, List.mem_of_getElem? (i := 20) (by decide +kernel), List.mem_of_getElem? (i := 1146) (by decide +kernel), List.mem_of_getElem? (i := 1147) (by decide +kernel)⟩
theorem lw_p45 : lw_okq (⟨"TaleCourt", "drawFrom", "(I)V"⟩, 10) := ⟨⟨by decide +kernel, by decide +kernel⟩, List.mem_of_getElem? (i := 20) (by decide +kernel), List.mem_of_getElem? (i := 1151) (by decide +kernel), List.mem_of_getElem? (i := 1152) (by decide +kernel)⟩
theorem lw_p46 : lw_okq (⟨"TaleCourt", "slotsInUse", "()I"⟩, 10) := ⟨⟨by decide +kernel, by decide +kernel⟩, List.mem_of_getElem? (i := 20) (by decide +kernel), List.mem_of_getElem? (i := 1175) (by decide +kernel), List.mem_of_getElem? (i := 1176) (by decide +kernel)⟩
theorem lw_p47 : lw_okq (⟨"TaleCourtModel", "four", "(I)V"⟩, 50) := ⟨⟨by decide +kernel, by decide +kernel⟩, List.mem_of_getElem? (i := 1215) (by decide +kernel), List.mem_of_getElem? (i := 1400) (by decide +kernel), List.mem_of_getElem? (i := 1401) (by decide +kernel)⟩
def lw_privs_3 : List (MethodName × Nat) := [(⟨"TaleCourt$Game", "position", "()I"⟩, 5), (⟨"TaleCourt$Game", "movesNow", "()I"⟩, 5), (⟨"TaleCourt$Game", "play", "(I)V"⟩, 5), (⟨"TaleCourt", "tradeWins", "(II)Z"⟩, 10), (⟨"TaleCourt", "slotBar", "(I)I"⟩, 10), (⟨"TaleCourt", "retell", "(LTaleCourt$Row;)I"⟩, 10), (⟨"TaleCourt", "retellTurn", "(J)I"⟩, 10), (⟨"TaleCourt", "claimsBar", "(II)I"⟩, 10), (⟨"TaleCourt$Claims", "note", "(III)V"⟩, 6), (⟨"TaleCourt$Claims", "untrueBehind", "(II)I"⟩, 6), (⟨"TaleCourt$Claims", "reach", "(III)V"⟩, 6), (⟨"TaleCourt$Claims", "canBeTrueWithout", "(I)Z"⟩, 6), (⟨"TaleCourt", "mayDraw", "(I)Z"⟩, 10), (⟨"TaleCourt", "drawFrom", "(I)V"⟩, 10), (⟨"TaleCourt", "slotsInUse", "()I"⟩, 10), (⟨"TaleCourtModel", "four", "(I)V"⟩, 50)]
theorem lw_r3 : ∀ q ∈ lw_privs_3, lw_okq q := List.forall_mem_cons.mpr ⟨lw_p32, List.forall_mem_cons.mpr ⟨lw_p33, List.forall_mem_cons.mpr ⟨lw_p34, List.forall_mem_cons.mpr ⟨lw_p35, List.forall_mem_cons.mpr ⟨lw_p36, List.forall_mem_cons.mpr ⟨lw_p37, List.forall_mem_cons.mpr ⟨lw_p38, List.forall_mem_cons.mpr ⟨lw_p39, List.forall_mem_cons.mpr ⟨lw_p40, List.forall_mem_cons.mpr ⟨lw_p41, List.forall_mem_cons.mpr ⟨lw_p42, List.forall_mem_cons.mpr ⟨lw_p43, List.forall_mem_cons.mpr ⟨lw_p44, List.forall_mem_cons.mpr ⟨lw_p45, List.forall_mem_cons.mpr ⟨lw_p46, List.forall_mem_cons.mpr ⟨lw_p47, fun _ h => absurd h List.not_mem_nil⟩⟩⟩⟩⟩⟩⟩⟩⟩⟩⟩⟩⟩⟩⟩⟩
theorem lw_p48 : lw_okq (⟨"TaleCourtModel", "clears", "()V"⟩, 50) := ⟨⟨by decide +kernel, by decide +kernel⟩, List.mem_of_getElem? (i := 1215) (by decide +kernel), List.mem_of_getElem? (i := 1416) (by decide +kernel), List.mem_of_getElem? (i := 1417) (by decide +kernel)⟩
theorem lw_p49 : lw_okq (⟨"TaleCourtModel", "begins", "()V"⟩, 50) := ⟨⟨by decide +kernel, by decide +kernel⟩, List.mem_of_getElem? (i := 1215) (by decide +kernel), List.mem_of_getElem? (i := 1420) (by decide +kernel), List.mem_of_getElem? (i := 1421) (by decide +kernel)⟩
theorem lw_p50 : lw_okq (⟨"TaleCourtModel", "next", "()V"⟩, 50) := ⟨⟨by decide +kernel, by decide +kernel⟩, List.mem_of_getElem? (i := 1215) (by decide +kernel), List.mem_of_getElem? (i := 1424) (by decide +kernel), List.mem_of_getElem? (i := 1425) (by decide +kernel)⟩
theorem lw_p51 : lw_okq (⟨"TaleCourtModel", "isByte", "(III)Z"⟩, 50) := ⟨⟨by decide +kernel, by decide +kernel⟩, List.mem_of_getElem? (i := 1215) (by decide +kernel), List.mem_of_getElem? (i := 1428) (by decide +kernel), List.mem_of_getElem? (i := 1429) (by decide +kernel)⟩
theorem lw_p52 : lw_okq (⟨"TaleCourtModel", "isGood", "()Z"⟩, 50) := ⟨⟨by decide +kernel, by decide +kernel⟩, List.mem_of_getElem? (i := 1215) (by decide +kernel), List.mem_of_getElem? (i := 1437) (by decide +kernel), List.mem_of_getElem? (i := 1438) (by decide +kernel)⟩
theorem lw_p53 : lw_okq (⟨"TaleCourtModel", "asks", "(J)V"⟩, 50) := ⟨⟨by decide +kernel, by decide +kernel⟩, List.mem_of_getElem? (i := 1215) (by decide +kernel), List.mem_of_getElem? (i := 1442) (by decide +kernel), List.mem_of_getElem? (i := 1443) (by decide +kernel)⟩
theorem lw_p54 : lw_okq (⟨"TaleCourtModel", "takes", "(J)Z"⟩, 50) := ⟨⟨by decide +kernel, by decide +kernel⟩, List.mem_of_getElem? (i := 1215) (by decide +kernel), List.mem_of_getElem? (i := 1446) (by decide +kernel), List.mem_of_getElem? (i := 1447) (by decide +kernel)⟩
theorem lw_p55 : lw_okq (⟨"TaleCourtModel", "is", "(J)Z"⟩, 50) := ⟨⟨by decide +kernel, by decide +kernel⟩, List.mem_of_getElem? (i := 1215) (by decide +kernel), List.mem_of_getElem? (i := 1450) (by decide +kernel), List.mem_of_getElem? (i := 1451) (by decide +kernel)⟩
theorem lw_p56 : lw_okq (⟨"TaleCourtModel", "fails", "(I)V"⟩, 50) := ⟨⟨by decide +kernel, by decide +kernel⟩, List.mem_of_getElem? (i := 1215) (by decide +kernel), List.mem_of_getElem? (i := 1454) (by decide +kernel), List.mem_of_getElem? (i := 1455) (by decide +kernel)⟩
theorem lw_p57 : lw_okq (⟨"TaleCourtModel", "number", "(JII)I"⟩, 50) := ⟨⟨by decide +kernel, by decide +kernel⟩, List.mem_of_getElem? (i := 1215) (by decide +kernel), List.mem_of_getElem? (i := 1459) (by decide +kernel), List.mem_of_getElem? (i := 1460) (by decide +kernel)⟩
theorem lw_p58 : lw_okq (⟨"TaleCourtModel", "number", "(II)I"⟩, 50) := ⟨⟨by decide +kernel, by decide +kernel⟩, List.mem_of_getElem? (i := 1215) (by decide +kernel), List.mem_of_getElem? (i := 1463) (by decide +kernel), List.mem_of_getElem? (i := 1464) (by decide +kernel)⟩
theorem lw_p59 : lw_okq (⟨"TaleCourtModel", "line", "()V"⟩, 50) := ⟨⟨by decide +kernel, by decide +kernel⟩, List.mem_of_getElem? (i := 1215) (by decide +kernel), List.mem_of_getElem? (i := 1468) (by decide +kernel), List.mem_of_getElem? (i := 1469) (by decide +kernel)⟩
theorem lw_p60 : lw_okq (⟨"TaleCourtModel", "hasRead", "(I)I"⟩, 50) := ⟨⟨by decide +kernel, by decide +kernel⟩, List.mem_of_getElem? (i := 1215) (by decide +kernel), List.mem_of_getElem? (i := 1474) (by decide +kernel), List.mem_of_getElem? (i := 1475) (by decide +kernel)⟩
theorem lw_p61 : lw_okq (⟨"TaleCourtModel", "motifLine", "()V"⟩, 50) := ⟨⟨by decide +kernel, by decide +kernel⟩, List.mem_of_getElem? (i := 1215) (by decide +kernel), List.mem_of_getElem? (i := 1478) (by decide +kernel), List.mem_of_getElem? (i := 1479) (by decide +kernel)⟩
theorem lw_p62 : lw_okq (⟨"TaleCourtModel", "placeRead", "(I)I"⟩, 50) := ⟨⟨by decide +kernel, by decide +kernel⟩, List.mem_of_getElem? (i := 1215) (by decide +kernel), List.mem_of_getElem? (i := 1482) (by decide +kernel), List.mem_of_getElem? (i := 1483) (by decide +kernel)⟩
theorem lw_p63 : lw_okq (⟨"TaleCourtModel", "listenerLine", "()V"⟩, 50) := ⟨⟨by decide +kernel, by decide +kernel⟩, List.mem_of_getElem? (i := 1215) (by decide +kernel), List.mem_of_getElem? (i := 1492) (by decide +kernel), List.mem_of_getElem? (i := 1493) (by decide +kernel)⟩
def lw_privs_4 : List (MethodName × Nat) := [(⟨"TaleCourtModel", "clears", "()V"⟩, 50), (⟨"TaleCourtModel", "begins", "()V"⟩, 50), (⟨"TaleCourtModel", "next", "()V"⟩, 50), (⟨"TaleCourtModel", "isByte", "(III)Z"⟩, 50), (⟨"TaleCourtModel", "isGood", "()Z"⟩, 50), (⟨"TaleCourtModel", "asks", "(J)V"⟩, 50), (⟨"TaleCourtModel", "takes", "(J)Z"⟩, 50), (⟨"TaleCourtModel", "is", "(J)Z"⟩, 50), (⟨"TaleCourtModel", "fails", "(I)V"⟩, 50), (⟨"TaleCourtModel", "number", "(JII)I"⟩, 50), (⟨"TaleCourtModel", "number", "(II)I"⟩, 50), (⟨"TaleCourtModel", "line", "()V"⟩, 50), (⟨"TaleCourtModel", "hasRead", "(I)I"⟩, 50), (⟨"TaleCourtModel", "motifLine", "()V"⟩, 50), (⟨"TaleCourtModel", "placeRead", "(I)I"⟩, 50), (⟨"TaleCourtModel", "listenerLine", "()V"⟩, 50)]
theorem lw_r4 : ∀ q ∈ lw_privs_4, lw_okq q := List.forall_mem_cons.mpr ⟨lw_p48, List.forall_mem_cons.mpr ⟨lw_p49, List.forall_mem_cons.mpr ⟨lw_p50, List.forall_mem_cons.mpr ⟨lw_p51, List.forall_mem_cons.mpr ⟨lw_p52, List.forall_mem_cons.mpr ⟨lw_p53, List.forall_mem_cons.mpr ⟨lw_p54, List.forall_mem_cons.mpr ⟨lw_p55, List.forall_mem_cons.mpr ⟨lw_p56, List.forall_mem_cons.mpr ⟨lw_p57, List.forall_mem_cons.mpr ⟨lw_p58, List.forall_mem_cons.mpr ⟨lw_p59, List.forall_mem_cons.mpr ⟨lw_p60, List.forall_mem_cons.mpr ⟨lw_p61, List.forall_mem_cons.mpr ⟨lw_p62, List.forall_mem_cons.mpr ⟨lw_p63, fun _ h => absurd h List.not_mem_nil⟩⟩⟩⟩⟩⟩⟩⟩⟩⟩⟩⟩⟩⟩⟩⟩
theorem lw_p64 : lw_okq (⟨"TaleCourtModel", "motifHere", "()I"⟩, 50) := ⟨⟨by decide +kernel, by decide +kernel⟩, List.mem_of_getElem? (i := 1215) (by decide +kernel), List.mem_of_getElem? (i := 1497) (by decide +kernel), List.mem_of_getElem? (i := 1498) (by decide +kernel)⟩
theorem lw_p65 : lw_okq (⟨"TaleCourtModel", "pairLine", "(Z)V"⟩, 50) := ⟨⟨by decide +kernel, by decide +kernel⟩, List.mem_of_getElem? (i := 1215) (by decide +kernel), List.mem_of_getElem? (i := 1502) (by decide +kernel), List.mem_of_getElem? (i := 1503) (by decide +kernel)⟩
theorem lw_p66 : lw_okq (⟨"TaleCourtModel", "ends", "()V"⟩, 50) := ⟨⟨by decide +kernel, by decide +kernel⟩, List.mem_of_getElem? (i := 1215) (by decide +kernel), List.mem_of_getElem? (i := 1511) (by decide +kernel), List.mem_of_getElem? (i := 1512) (by decide +kernel)⟩
theorem lw_p67 : lw_okq (⟨"TaleCourtModel", "isOver", "()V"⟩, 50) := ⟨⟨by decide +kernel, by decide +kernel⟩, List.mem_of_getElem? (i := 1215) (by decide +kernel), List.mem_of_getElem? (i := 1515) (by decide +kernel), List.mem_of_getElem? (i := 1516) (by decide +kernel)⟩
theorem lw_p68 : lw_okq (⟨"TaleCourtModel", "copyCourt", "(II)V"⟩, 50) := ⟨⟨by decide +kernel, by decide +kernel⟩, List.mem_of_getElem? (i := 1215) (by decide +kernel), List.mem_of_getElem? (i := 1519) (by decide +kernel), List.mem_of_getElem? (i := 1520) (by decide +kernel)⟩
theorem lw_p69 : lw_okq (⟨"TaleCourtModel", "lays", "()V"⟩, 50) := ⟨⟨by decide +kernel, by decide +kernel⟩, List.mem_of_getElem? (i := 1215) (by decide +kernel), List.mem_of_getElem? (i := 1526) (by decide +kernel), List.mem_of_getElem? (i := 1527) (by decide +kernel)⟩
theorem lw_p70 : lw_okq (⟨"TaleCourtModel", "empties", "()V"⟩, 50) := ⟨⟨by decide +kernel, by decide +kernel⟩, List.mem_of_getElem? (i := 1215) (by decide +kernel), List.mem_of_getElem? (i := 1530) (by decide +kernel), List.mem_of_getElem? (i := 1531) (by decide +kernel)⟩
theorem lw_p71 : lw_okq (⟨"TaleCourtModel", "puts", "(I)V"⟩, 50) := ⟨⟨by decide +kernel, by decide +kernel⟩, List.mem_of_getElem? (i := 1215) (by decide +kernel), List.mem_of_getElem? (i := 1534) (by decide +kernel), List.mem_of_getElem? (i := 1535) (by decide +kernel)⟩
theorem lw_p72 : lw_okq (⟨"TaleCourtModel", "pointsOf", "(I)I"⟩, 50) := ⟨⟨by decide +kernel, by decide +kernel⟩, List.mem_of_getElem? (i := 1215) (by decide +kernel), List.mem_of_getElem? (i := 1538) (by decide +kernel), List.mem_of_getElem? (i := 1539) (by decide +kernel)⟩
theorem lw_p73 : lw_okq (⟨"TaleCourtModel", "of", "(II)I"⟩, 50) := ⟨⟨by decide +kernel, by decide +kernel⟩, List.mem_of_getElem? (i := 1215) (by decide +kernel), List.mem_of_getElem? (i := 1542) (by decide +kernel), List.mem_of_getElem? (i := 1543) (by decide +kernel)⟩
theorem lw_p74 : lw_okq (⟨"TaleCourtModel", "isMotif", "(J)Z"⟩, 50) := ⟨⟨by decide +kernel, by decide +kernel⟩, List.mem_of_getElem? (i := 1215) (by decide +kernel), List.mem_of_getElem? (i := 1550) (by decide +kernel), List.mem_of_getElem? (i := 1551) (by decide +kernel)⟩
theorem lw_p75 : lw_okq (⟨"TaleCourtModel", "whyNot", "(I)I"⟩, 50) := ⟨⟨by decide +kernel, by decide +kernel⟩, List.mem_of_getElem? (i := 1215) (by decide +kernel), List.mem_of_getElem? (i := 1586) (by decide +kernel), List.mem_of_getElem? (i := 1587) (by decide +kernel)⟩
theorem lw_p76 : lw_okq (⟨"TaleCourtModel", "joinsOn", "(I)Z"⟩, 50) := ⟨⟨by decide +kernel, by decide +kernel⟩, List.mem_of_getElem? (i := 1215) (by decide +kernel), List.mem_of_getElem? (i := 1590) (by decide +kernel), List.mem_of_getElem? (i := 1591) (by decide +kernel)⟩
theorem lw_p77 : lw_okq (⟨"TaleCourtModel", "isLate", "(I)Z"⟩, 50) := ⟨⟨by decide +kernel, by decide +kernel⟩, List.mem_of_getElem? (i := 1215) (by decide +kernel), List.mem_of_getElem? (i := 1594) (by decide +kernel), List.mem_of_getElem? (i := 1595) (by decide +kernel)⟩
theorem lw_p78 : lw_okq (⟨"TaleCourtModel", "keepsTale", "()V"⟩, 50) := ⟨⟨by decide +kernel, by decide +kernel⟩, List.mem_of_getElem? (i := 1215) (by decide +kernel), List.mem_of_getElem? (i := 1598) (by decide +kernel), List.mem_of_getElem? (i := 1599) (by decide +kernel)⟩
theorem lw_p79 : lw_okq (⟨"TaleCourtModel", "isCourt", "()Z"⟩, 50) := ⟨⟨by decide +kernel, by decide +kernel⟩, List.mem_of_getElem? (i := 1215) (by decide +kernel), List.mem_of_getElem? (i := 1606) (by decide +kernel), List.mem_of_getElem? (i := 1607) (by decide +kernel)⟩
def lw_privs_5 : List (MethodName × Nat) := [(⟨"TaleCourtModel", "motifHere", "()I"⟩, 50), (⟨"TaleCourtModel", "pairLine", "(Z)V"⟩, 50), (⟨"TaleCourtModel", "ends", "()V"⟩, 50), (⟨"TaleCourtModel", "isOver", "()V"⟩, 50), (⟨"TaleCourtModel", "copyCourt", "(II)V"⟩, 50), (⟨"TaleCourtModel", "lays", "()V"⟩, 50), (⟨"TaleCourtModel", "empties", "()V"⟩, 50), (⟨"TaleCourtModel", "puts", "(I)V"⟩, 50), (⟨"TaleCourtModel", "pointsOf", "(I)I"⟩, 50), (⟨"TaleCourtModel", "of", "(II)I"⟩, 50), (⟨"TaleCourtModel", "isMotif", "(J)Z"⟩, 50), (⟨"TaleCourtModel", "whyNot", "(I)I"⟩, 50), (⟨"TaleCourtModel", "joinsOn", "(I)Z"⟩, 50), (⟨"TaleCourtModel", "isLate", "(I)Z"⟩, 50), (⟨"TaleCourtModel", "keepsTale", "()V"⟩, 50), (⟨"TaleCourtModel", "isCourt", "()Z"⟩, 50)]
theorem lw_r5 : ∀ q ∈ lw_privs_5, lw_okq q := List.forall_mem_cons.mpr ⟨lw_p64, List.forall_mem_cons.mpr ⟨lw_p65, List.forall_mem_cons.mpr ⟨lw_p66, List.forall_mem_cons.mpr ⟨lw_p67, List.forall_mem_cons.mpr ⟨lw_p68, List.forall_mem_cons.mpr ⟨lw_p69, List.forall_mem_cons.mpr ⟨lw_p70, List.forall_mem_cons.mpr ⟨lw_p71, List.forall_mem_cons.mpr ⟨lw_p72, List.forall_mem_cons.mpr ⟨lw_p73, List.forall_mem_cons.mpr ⟨lw_p74, List.forall_mem_cons.mpr ⟨lw_p75, List.forall_mem_cons.mpr ⟨lw_p76, List.forall_mem_cons.mpr ⟨lw_p77, List.forall_mem_cons.mpr ⟨lw_p78, List.forall_mem_cons.mpr ⟨lw_p79, fun _ h => absurd h List.not_mem_nil⟩⟩⟩⟩⟩⟩⟩⟩⟩⟩⟩⟩⟩⟩⟩⟩
theorem lw_p80 : lw_okq (⟨"TaleCourtModel", "maySilence", "()Z"⟩, 50) := ⟨⟨by decide +kernel, by decide +kernel⟩, List.mem_of_getElem? (i := 1215) (by decide +kernel), List.mem_of_getElem? (i := 1610) (by decide +kernel), List.mem_of_getElem? (i := 1611) (by decide +kernel)⟩
theorem lw_p81 : lw_okq (⟨"TaleCourtModel", "mayNow", "()I"⟩, 50) := ⟨⟨by decide +kernel, by decide +kernel⟩, List.mem_of_getElem? (i := 1215) (by decide +kernel), List.mem_of_getElem? (i := 1638) (by decide +kernel), List.mem_of_getElem? (i := 1639) (by decide +kernel)⟩
theorem lw_p82 : lw_okq (⟨"TaleCourtModel", "owedNow", "()I"⟩, 50) := ⟨⟨by decide +kernel, by decide +kernel⟩, List.mem_of_getElem? (i := 1215) (by decide +kernel), List.mem_of_getElem? (i := 1650) (by decide +kernel), List.mem_of_getElem? (i := 1651) (by decide +kernel)⟩
theorem lw_p83 : lw_okq (⟨"TaleCourtModel", "isWhole", "()Z"⟩, 50) := ⟨⟨by decide +kernel, by decide +kernel⟩, List.mem_of_getElem? (i := 1215) (by decide +kernel), List.mem_of_getElem? (i := 1662) (by decide +kernel), List.mem_of_getElem? (i := 1663) (by decide +kernel)⟩
theorem lw_p84 : lw_okq (⟨"TaleCourtModel", "isTeller", "(I)Z"⟩, 50) := ⟨⟨by decide +kernel, by decide +kernel⟩, List.mem_of_getElem? (i := 1215) (by decide +kernel), List.mem_of_getElem? (i := 1674) (by decide +kernel), List.mem_of_getElem? (i := 1675) (by decide +kernel)⟩
theorem lw_p85 : lw_okq (⟨"TaleCourtModel", "goesAll", "(III)V"⟩, 50) := ⟨⟨by decide +kernel, by decide +kernel⟩, List.mem_of_getElem? (i := 1215) (by decide +kernel), List.mem_of_getElem? (i := 1686) (by decide +kernel), List.mem_of_getElem? (i := 1687) (by decide +kernel)⟩
theorem lw_p86 : lw_okq (⟨"TaleCourtModel", "goes", "()V"⟩, 50) := ⟨⟨by decide +kernel, by decide +kernel⟩, List.mem_of_getElem? (i := 1215) (by decide +kernel), List.mem_of_getElem? (i := 1690) (by decide +kernel), List.mem_of_getElem? (i := 1691) (by decide +kernel)⟩
theorem lw_p87 : lw_okq (⟨"TaleCourtModel", "meets", "()V"⟩, 50) := ⟨⟨by decide +kernel, by decide +kernel⟩, List.mem_of_getElem? (i := 1215) (by decide +kernel), List.mem_of_getElem? (i := 1694) (by decide +kernel), List.mem_of_getElem? (i := 1695) (by decide +kernel)⟩
theorem lw_p88 : lw_okq (⟨"TaleCourtModel", "isFit", "()Z"⟩, 50) := ⟨⟨by decide +kernel, by decide +kernel⟩, List.mem_of_getElem? (i := 1215) (by decide +kernel), List.mem_of_getElem? (i := 1698) (by decide +kernel), List.mem_of_getElem? (i := 1699) (by decide +kernel)⟩
theorem lw_p89 : lw_okq (⟨"TaleCourtModel", "cellOf", "(II)I"⟩, 50) := ⟨⟨by decide +kernel, by decide +kernel⟩, List.mem_of_getElem? (i := 1215) (by decide +kernel), List.mem_of_getElem? (i := 1702) (by decide +kernel), List.mem_of_getElem? (i := 1703) (by decide +kernel)⟩
theorem lw_p90 : lw_okq (⟨"TaleCourtModel", "isAhead", "(I)Z"⟩, 50) := ⟨⟨by decide +kernel, by decide +kernel⟩, List.mem_of_getElem? (i := 1215) (by decide +kernel), List.mem_of_getElem? (i := 1706) (by decide +kernel), List.mem_of_getElem? (i := 1707) (by decide +kernel)⟩
theorem lw_p91 : lw_okq (⟨"TaleCourtModel", "takesOff", "()V"⟩, 50) := ⟨⟨by decide +kernel, by decide +kernel⟩, List.mem_of_getElem? (i := 1215) (by decide +kernel), List.mem_of_getElem? (i := 1710) (by decide +kernel), List.mem_of_getElem? (i := 1711) (by decide +kernel)⟩
theorem lw_p92 : lw_okq (⟨"TaleCourtModel", "bestAt", "(I)I"⟩, 50) := ⟨⟨by decide +kernel, by decide +kernel⟩, List.mem_of_getElem? (i := 1215) (by decide +kernel), List.mem_of_getElem? (i := 1722) (by decide +kernel), List.mem_of_getElem? (i := 1723) (by decide +kernel)⟩
theorem lw_p93 : lw_okq (⟨"TaleCourtModel", "wholesNow", "()I"⟩, 50) := ⟨⟨by decide +kernel, by decide +kernel⟩, List.mem_of_getElem? (i := 1215) (by decide +kernel), List.mem_of_getElem? (i := 1751) (by decide +kernel), List.mem_of_getElem? (i := 1752) (by decide +kernel)⟩
theorem lw_p94 : lw_okq (⟨"TaleCourtModel", "whyNoGame", "()I"⟩, 50) := ⟨⟨by decide +kernel, by decide +kernel⟩, List.mem_of_getElem? (i := 1215) (by decide +kernel), List.mem_of_getElem? (i := 1767) (by decide +kernel), List.mem_of_getElem? (i := 1768) (by decide +kernel)⟩
theorem lw_p95 : lw_okq (⟨"TaleCourtModel", "outcomeNow", "()I"⟩, 50) := ⟨⟨by decide +kernel, by decide +kernel⟩, List.mem_of_getElem? (i := 1215) (by decide +kernel), List.mem_of_getElem? (i := 1771) (by decide +kernel), List.mem_of_getElem? (i := 1772) (by decide +kernel)⟩
def lw_privs_6 : List (MethodName × Nat) := [(⟨"TaleCourtModel", "maySilence", "()Z"⟩, 50), (⟨"TaleCourtModel", "mayNow", "()I"⟩, 50), (⟨"TaleCourtModel", "owedNow", "()I"⟩, 50), (⟨"TaleCourtModel", "isWhole", "()Z"⟩, 50), (⟨"TaleCourtModel", "isTeller", "(I)Z"⟩, 50), (⟨"TaleCourtModel", "goesAll", "(III)V"⟩, 50), (⟨"TaleCourtModel", "goes", "()V"⟩, 50), (⟨"TaleCourtModel", "meets", "()V"⟩, 50), (⟨"TaleCourtModel", "isFit", "()Z"⟩, 50), (⟨"TaleCourtModel", "cellOf", "(II)I"⟩, 50), (⟨"TaleCourtModel", "isAhead", "(I)Z"⟩, 50), (⟨"TaleCourtModel", "takesOff", "()V"⟩, 50), (⟨"TaleCourtModel", "bestAt", "(I)I"⟩, 50), (⟨"TaleCourtModel", "wholesNow", "()I"⟩, 50), (⟨"TaleCourtModel", "whyNoGame", "()I"⟩, 50), (⟨"TaleCourtModel", "outcomeNow", "()I"⟩, 50)]
theorem lw_r6 : ∀ q ∈ lw_privs_6, lw_okq q := List.forall_mem_cons.mpr ⟨lw_p80, List.forall_mem_cons.mpr ⟨lw_p81, List.forall_mem_cons.mpr ⟨lw_p82, List.forall_mem_cons.mpr ⟨lw_p83, List.forall_mem_cons.mpr ⟨lw_p84, List.forall_mem_cons.mpr ⟨lw_p85, List.forall_mem_cons.mpr ⟨lw_p86, List.forall_mem_cons.mpr ⟨lw_p87, List.forall_mem_cons.mpr ⟨lw_p88, List.forall_mem_cons.mpr ⟨lw_p89, List.forall_mem_cons.mpr ⟨lw_p90, List.forall_mem_cons.mpr ⟨lw_p91, List.forall_mem_cons.mpr ⟨lw_p92, List.forall_mem_cons.mpr ⟨lw_p93, List.forall_mem_cons.mpr ⟨lw_p94, List.forall_mem_cons.mpr ⟨lw_p95, fun _ h => absurd h List.not_mem_nil⟩⟩⟩⟩⟩⟩⟩⟩⟩⟩⟩⟩⟩⟩⟩⟩
theorem lw_p96 : lw_okq (⟨"TaleCourtModel", "startsGame", "()V"⟩, 50) := ⟨⟨by decide +kernel, by decide +kernel⟩, List.mem_of_getElem? (i := 1215) (by decide +kernel), List.mem_of_getElem? (i := 1775) (by decide +kernel), List.mem_of_getElem? (i := 1776) (by decide +kernel)⟩
theorem lw_p97 : lw_okq (⟨"TaleCourtModel", "plays", "(IIIII)I"⟩, 50) := ⟨⟨by decide +kernel, by decide +kernel⟩, List.mem_of_getElem? (i := 1215) (by decide +kernel), List.mem_of_getElem? (i := 1779) (by decide +kernel), List.mem_of_getElem? (i := 1780) (by decide +kernel)⟩
theorem lw_p98 : lw_okq (⟨"TaleCourtModel", "stateOf", "(IIIII)I"⟩, 50) := ⟨⟨by decide +kernel, by decide +kernel⟩, List.mem_of_getElem? (i := 1215) (by decide +kernel), List.mem_of_getElem? (i := 1783) (by decide +kernel), List.mem_of_getElem? (i := 1784) (by decide +kernel)⟩
theorem lw_p99 : lw_okq (⟨"TaleCourtModel", "act", "(IIIIII)I"⟩, 50) := ⟨⟨by decide +kernel, by decide +kernel⟩, List.mem_of_getElem? (i := 1215) (by decide +kernel), List.mem_of_getElem? (i := 1787) (by decide +kernel), List.mem_of_getElem? (i := 1788) (by decide +kernel)⟩
theorem lw_p100 : lw_okq (⟨"TaleCourtModel", "mayPlay", "(IIII)Z"⟩, 50) := ⟨⟨by decide +kernel, by decide +kernel⟩, List.mem_of_getElem? (i := 1215) (by decide +kernel), List.mem_of_getElem? (i := 1791) (by decide +kernel), List.mem_of_getElem? (i := 1792) (by decide +kernel)⟩
theorem lw_p101 : lw_okq (⟨"TaleCourtModel", "winsBy", "(I)Z"⟩, 50) := ⟨⟨by decide +kernel, by decide +kernel⟩, List.mem_of_getElem? (i := 1215) (by decide +kernel), List.mem_of_getElem? (i := 1802) (by decide +kernel), List.mem_of_getElem? (i := 1803) (by decide +kernel)⟩
theorem lw_p102 : lw_okq (⟨"TaleCourtModel", "changes", "(II)V"⟩, 50) := ⟨⟨by decide +kernel, by decide +kernel⟩, List.mem_of_getElem? (i := 1215) (by decide +kernel), List.mem_of_getElem? (i := 1822) (by decide +kernel), List.mem_of_getElem? (i := 1823) (by decide +kernel)⟩
theorem lw_p103 : lw_okq (⟨"TaleCourtModel", "wholesWithout", "(I)I"⟩, 50) := ⟨⟨by decide +kernel, by decide +kernel⟩, List.mem_of_getElem? (i := 1215) (by decide +kernel), List.mem_of_getElem? (i := 1846) (by decide +kernel), List.mem_of_getElem? (i := 1847) (by decide +kernel)⟩
theorem lw_p104 : lw_okq (⟨"TaleCourtModel", "whyNoRow", "(I)I"⟩, 50) := ⟨⟨by decide +kernel, by decide +kernel⟩, List.mem_of_getElem? (i := 1215) (by decide +kernel), List.mem_of_getElem? (i := 1862) (by decide +kernel), List.mem_of_getElem? (i := 1863) (by decide +kernel)⟩
theorem lw_p105 : lw_okq (⟨"TaleCourtModel", "judges", "(I)I"⟩, 50) := ⟨⟨by decide +kernel, by decide +kernel⟩, List.mem_of_getElem? (i := 1215) (by decide +kernel), List.mem_of_getElem? (i := 1866) (by decide +kernel), List.mem_of_getElem? (i := 1867) (by decide +kernel)⟩
theorem lw_p106 : lw_okq (⟨"TaleCourtModel", "whyNotTold", "(II)I"⟩, 50) := ⟨⟨by decide +kernel, by decide +kernel⟩, List.mem_of_getElem? (i := 1215) (by decide +kernel), List.mem_of_getElem? (i := 1878) (by decide +kernel), List.mem_of_getElem? (i := 1879) (by decide +kernel)⟩
theorem lw_p107 : lw_okq (⟨"TaleCourtModel", "laysUntrue", "(III)V"⟩, 50) := ⟨⟨by decide +kernel, by decide +kernel⟩, List.mem_of_getElem? (i := 1215) (by decide +kernel), List.mem_of_getElem? (i := 1882) (by decide +kernel), List.mem_of_getElem? (i := 1883) (by decide +kernel)⟩
theorem lw_p108 : lw_okq (⟨"TaleCourtModel", "liarsOf", "(I)I"⟩, 50) := ⟨⟨by decide +kernel, by decide +kernel⟩, List.mem_of_getElem? (i := 1215) (by decide +kernel), List.mem_of_getElem? (i := 1898) (by decide +kernel), List.mem_of_getElem? (i := 1899) (by decide +kernel)⟩
theorem lw_p109 : lw_okq (⟨"TaleCourtModel", "areMotifs", "(I)Z"⟩, 50) := ⟨⟨by decide +kernel, by decide +kernel⟩, List.mem_of_getElem? (i := 1215) (by decide +kernel), List.mem_of_getElem? (i := 1913) (by decide +kernel), List.mem_of_getElem? (i := 1914) (by decide +kernel)⟩
theorem lw_p110 : lw_okq (⟨"TaleCourtModel", "tasteOf", "(II)I"⟩, 50) := ⟨⟨by decide +kernel, by decide +kernel⟩, List.mem_of_getElem? (i := 1215) (by decide +kernel), List.mem_of_getElem? (i := 1917) (by decide +kernel), List.mem_of_getElem? (i := 1918) (by decide +kernel)⟩
theorem lw_p111 : lw_okq (⟨"TaleCourtModel", "isSeed", "(I)Z"⟩, 50) := ⟨⟨by decide +kernel, by decide +kernel⟩, List.mem_of_getElem? (i := 1215) (by decide +kernel), List.mem_of_getElem? (i := 1929) (by decide +kernel), List.mem_of_getElem? (i := 1930) (by decide +kernel)⟩
def lw_privs_7 : List (MethodName × Nat) := [(⟨"TaleCourtModel", "startsGame", "()V"⟩, 50), (⟨"TaleCourtModel", "plays", "(IIIII)I"⟩, 50), (⟨"TaleCourtModel", "stateOf", "(IIIII)I"⟩, 50), (⟨"TaleCourtModel", "act", "(IIIIII)I"⟩, 50), (⟨"TaleCourtModel", "mayPlay", "(IIII)Z"⟩, 50), (⟨"TaleCourtModel", "winsBy", "(I)Z"⟩, 50), (⟨"TaleCourtModel", "changes", "(II)V"⟩, 50), (⟨"TaleCourtModel", "wholesWithout", "(I)I"⟩, 50), (⟨"TaleCourtModel", "whyNoRow", "(I)I"⟩, 50), (⟨"TaleCourtModel", "judges", "(I)I"⟩, 50), (⟨"TaleCourtModel", "whyNotTold", "(II)I"⟩, 50), (⟨"TaleCourtModel", "laysUntrue", "(III)V"⟩, 50), (⟨"TaleCourtModel", "liarsOf", "(I)I"⟩, 50), (⟨"TaleCourtModel", "areMotifs", "(I)Z"⟩, 50), (⟨"TaleCourtModel", "tasteOf", "(II)I"⟩, 50), (⟨"TaleCourtModel", "isSeed", "(I)Z"⟩, 50)]
theorem lw_r7 : ∀ q ∈ lw_privs_7, lw_okq q := List.forall_mem_cons.mpr ⟨lw_p96, List.forall_mem_cons.mpr ⟨lw_p97, List.forall_mem_cons.mpr ⟨lw_p98, List.forall_mem_cons.mpr ⟨lw_p99, List.forall_mem_cons.mpr ⟨lw_p100, List.forall_mem_cons.mpr ⟨lw_p101, List.forall_mem_cons.mpr ⟨lw_p102, List.forall_mem_cons.mpr ⟨lw_p103, List.forall_mem_cons.mpr ⟨lw_p104, List.forall_mem_cons.mpr ⟨lw_p105, List.forall_mem_cons.mpr ⟨lw_p106, List.forall_mem_cons.mpr ⟨lw_p107, List.forall_mem_cons.mpr ⟨lw_p108, List.forall_mem_cons.mpr ⟨lw_p109, List.forall_mem_cons.mpr ⟨lw_p110, List.forall_mem_cons.mpr ⟨lw_p111, fun _ h => absurd h List.not_mem_nil⟩⟩⟩⟩⟩⟩⟩⟩⟩⟩⟩⟩⟩⟩⟩⟩
theorem lw_p112 : lw_okq (⟨"TaleCourtModel", "draws", "(J)V"⟩, 50) := ⟨⟨by decide +kernel, by decide +kernel⟩, List.mem_of_getElem? (i := 1215) (by decide +kernel), List.mem_of_getElem? (i := 1935) (by decide +kernel), List.mem_of_getElem? (i := 1936) (by decide +kernel)⟩
def lw_privs_8 : List (MethodName × Nat) := [(⟨"TaleCourtModel", "draws", "(J)V"⟩, 50)]
theorem lw_r8 : ∀ q ∈ lw_privs_8, lw_okq q := List.forall_mem_cons.mpr ⟨lw_p112, fun _ h => absurd h List.not_mem_nil⟩
def lw_privs : List (MethodName × Nat) := lw_privs_1 ++ (lw_privs_2 ++ (lw_privs_3 ++ (lw_privs_4 ++ (lw_privs_5 ++ (lw_privs_6 ++ (lw_privs_7 ++ (lw_privs_8)))))))
def lw_tbl : List Cond := k2_sels lw_privs ++ tables_1
theorem lw_privs_ok : ∀ q ∈ lw_privs, lw_okq q := by
  show ∀ q ∈ lw_privs_1 ++ (lw_privs_2 ++ (lw_privs_3 ++ (lw_privs_4 ++ (lw_privs_5 ++ (lw_privs_6 ++ (lw_privs_7 ++ (lw_privs_8))))))), lw_okq q
  exact List.forall_mem_append.mpr ⟨lw_r1, List.forall_mem_append.mpr ⟨lw_r2, List.forall_mem_append.mpr ⟨lw_r3, List.forall_mem_append.mpr ⟨lw_r4, List.forall_mem_append.mpr ⟨lw_r5, List.forall_mem_append.mpr ⟨lw_r6, List.forall_mem_append.mpr ⟨lw_r7, lw_r8⟩⟩⟩⟩⟩⟩⟩
end
section
def RX0 : String := "TaleCourt$Claims"
def TX0 : u_T := fun k => match k with
  | 0 => ("TaleCourt$Claims", "named", "I", false)
  | 1 => ("TaleCourt$Claims", "said", "[I", true)
  | 2 => ("TaleCourt$Claims", "leaders", "[I", true)
  | 3 => ("TaleCourt$Claims", "leadersBy", "[I", true)
  | 4 => ("TaleCourt$Claims", "least", "[I", true)
  | _ => ("TaleCourt$Claims", "ways", "[I", true)
def tyX0 : Nat → FieldType := fun k => match k with
  | 0 => .int
  | 1 => .array .int
  | 2 => .array .int
  | 3 => .array .int
  | 4 => .array .int
  | _ => .array .int
abbrev wsX00 : List Cond := u_ws RX0 TX0 6
theorem nmX0 : ∀ a, a < 6 → ∀ b, b < 6 → a ≠ b → (TX0 a).2.1 ≠ (TX0 b).2.1 := by decide +kernel
theorem tyX0_ok : ∀ k, k < 6 → parseFieldDescriptor (TX0 k).2.2.1 = some (tyX0 k) := by decide +kernel
abbrev cX0_init : ByteArray := prog_2_method_1_code
def yX0_init : MethodName := ⟨RX0, "<init>", "()V"⟩
abbrev cX0_take : ByteArray := prog_2_method_2_code
def yX0_take : MethodName := ⟨RX0, "take", "(LTaleCourt$Row;ILTaleCourt$Court;)Z"⟩
abbrev cX0_note : ByteArray := prog_2_method_3_code
def yX0_note : MethodName := ⟨RX0, "note", "(III)V"⟩
abbrev cX0_allows : ByteArray := prog_2_method_4_code
def yX0_allows : MethodName := ⟨RX0, "allows", "(II)Z"⟩
abbrev cX0_allowedOf : ByteArray := prog_2_method_5_code
def yX0_allowedOf : MethodName := ⟨RX0, "allowedOf", "(II)I"⟩
abbrev cX0_allowTale : ByteArray := prog_2_method_6_code
def yX0_allowTale : MethodName := ⟨RX0, "allowTale", "(LTaleCourt$Telling;)Z"⟩
abbrev cX0_order : ByteArray := prog_2_method_7_code
def yX0_order : MethodName := ⟨RX0, "order", "(I)V"⟩
abbrev cX0_reach : ByteArray := prog_2_method_8_code
def yX0_reach : MethodName := ⟨RX0, "reach", "(III)V"⟩
abbrev cX0_untrueBehind : ByteArray := prog_2_method_9_code
def yX0_untrueBehind : MethodName := ⟨RX0, "untrueBehind", "(II)I"⟩
abbrev cX0_setsOf : ByteArray := prog_2_method_10_code
def yX0_setsOf : MethodName := ⟨RX0, "setsOf", "(I)I"⟩
abbrev cX0_fewestUntrue : ByteArray := prog_2_method_11_code
def yX0_fewestUntrue : MethodName := ⟨RX0, "fewestUntrue", "(I)I"⟩
abbrev cX0_ordersSoFew : ByteArray := prog_2_method_12_code
def yX0_ordersSoFew : MethodName := ⟨RX0, "ordersSoFew", "(I)I"⟩
abbrev cX0_fewestLiars : ByteArray := prog_2_method_13_code
def yX0_fewestLiars : MethodName := ⟨RX0, "fewestLiars", "(I)I"⟩
abbrev cX0_canBeTrueWithout : ByteArray := prog_2_method_14_code
def yX0_canBeTrueWithout : MethodName := ⟨RX0, "canBeTrueWithout", "(I)Z"⟩
def RX1 : String := "TaleCourt$Court"
def TX1 : u_T := fun k => match k with
  | 0 => ("TaleCourt$Court", "tellers", "I", false)
  | 1 => ("TaleCourt$Court", "silences", "I", false)
  | 2 => ("TaleCourt$Court", "motifs", "I", false)
  | 3 => ("TaleCourt$Court", "listeners", "I", false)
  | 4 => ("TaleCourt$Court", "lines", "I", false)
  | 5 => ("TaleCourt$Court", "joinings", "I", false)
  | 6 => ("TaleCourt$Court", "clashings", "I", false)
  | 7 => ("TaleCourt$Court", "opening", "I", false)
  | 8 => ("TaleCourt$Court", "strange", "I", false)
  | 9 => ("TaleCourt$Court", "sung", "I", false)
  | 10 => ("TaleCourt$Court", "forbidden", "I", false)
  | 11 => ("TaleCourt$Court", "worth", "[I", true)
  | 12 => ("TaleCourt$Court", "owes", "[I", true)
  | 13 => ("TaleCourt$Court", "within", "[I", true)
  | 14 => ("TaleCourt$Court", "keeper", "[I", true)
  | 15 => ("TaleCourt$Court", "followers", "[I", true)
  | 16 => ("TaleCourt$Court", "rivals", "[I", true)
  | 17 => ("TaleCourt$Court", "barred", "[I", true)
  | 18 => ("TaleCourt$Court", "love", "[I", true)
  | _ => ("TaleCourt$Court", "loved", "[I", true)
def tyX1 : Nat → FieldType := fun k => match k with
  | 0 => .int
  | 1 => .int
  | 2 => .int
  | 3 => .int
  | 4 => .int
  | 5 => .int
  | 6 => .int
  | 7 => .int
  | 8 => .int
  | 9 => .int
  | 10 => .int
  | 11 => .array .int
  | 12 => .array .int
  | 13 => .array .int
  | 14 => .array .int
  | 15 => .array .int
  | 16 => .array .int
  | 17 => .array .int
  | 18 => .array .int
  | _ => .array .int
abbrev wsX10 : List Cond := u_ws RX1 TX1 20
theorem nmX1 : ∀ a, a < 20 → ∀ b, b < 20 → a ≠ b → (TX1 a).2.1 ≠ (TX1 b).2.1 := by decide +kernel
theorem tyX1_ok : ∀ k, k < 20 → parseFieldDescriptor (TX1 k).2.2.1 = some (tyX1 k) := by decide +kernel
abbrev cX1_init : ByteArray := prog_3_method_1_code
def yX1_init : MethodName := ⟨RX1, "<init>", "()V"⟩
abbrev cX1_clear : ByteArray := prog_3_method_2_code
def yX1_clear : MethodName := ⟨RX1, "clear", "()V"⟩
abbrev cX1_copyFrom : ByteArray := prog_3_method_3_code
def yX1_copyFrom : MethodName := ⟨RX1, "copyFrom", "(LTaleCourt$Court;)V"⟩
abbrev cX1_stands : ByteArray := prog_3_method_4_code
def yX1_stands : MethodName := ⟨RX1, "stands", "()Z"⟩
abbrev cX1_hasMotif : ByteArray := prog_3_method_5_code
def yX1_hasMotif : MethodName := ⟨RX1, "hasMotif", "(I)Z"⟩
abbrev cX1_hasNumber : ByteArray := prog_3_method_6_code
def yX1_hasNumber : MethodName := ⟨RX1, "hasNumber", "(J)Z"⟩
abbrev cX1_hasTeller : ByteArray := prog_3_method_7_code
def yX1_hasTeller : MethodName := ⟨RX1, "hasTeller", "(I)Z"⟩
abbrev cX1_mayKeep : ByteArray := prog_3_method_8_code
def yX1_mayKeep : MethodName := ⟨RX1, "mayKeep", "(I)Z"⟩
abbrev cX1_hasListener : ByteArray := prog_3_method_9_code
def yX1_hasListener : MethodName := ⟨RX1, "hasListener", "(I)Z"⟩
abbrev cX1_keeperOf : ByteArray := prog_3_method_10_code
def yX1_keeperOf : MethodName := ⟨RX1, "keeperOf", "(I)I"⟩
abbrev cX1_setKeeper : ByteArray := prog_3_method_11_code
def yX1_setKeeper : MethodName := ⟨RX1, "setKeeper", "(II)V"⟩
abbrev cX1_value : ByteArray := prog_3_method_12_code
def yX1_value : MethodName := ⟨RX1, "value", "(I)I"⟩
abbrev cX1_leaders : ByteArray := prog_3_method_13_code
def yX1_leaders : MethodName := ⟨RX1, "leaders", "(I)I"⟩
abbrev cX1_followersOfSet : ByteArray := prog_3_method_14_code
def yX1_followersOfSet : MethodName := ⟨RX1, "followersOfSet", "(I)I"⟩
abbrev cX1_reached : ByteArray := prog_3_method_15_code
def yX1_reached : MethodName := ⟨RX1, "reached", "(I)I"⟩
abbrev cX1_shortestChain : ByteArray := prog_3_method_16_code
def yX1_shortestChain : MethodName := ⟨RX1, "shortestChain", "(II)I"⟩
def RX2 : String := "TaleCourt$Game"
def TX2 : u_T := fun k => match k with
  | 0 => ("TaleCourt$Game", "court", "LTaleCourt$Court;", true)
  | 1 => ("TaleCourt$Game", "tale", "LTaleCourt$Telling;", true)
  | 2 => ("TaleCourt$Game", "memo", "[I", false)
  | 3 => ("TaleCourt$Game", "stamp", "I", false)
  | _ => ("TaleCourt$Game", "isQuick", "Z", false)
def tyX2 : Nat → FieldType := fun k => match k with
  | 0 => .object "TaleCourt$Court"
  | 1 => .object "TaleCourt$Telling"
  | 2 => .array .int
  | 3 => .int
  | _ => .boolean
abbrev wsX20 : List Cond := u_ws RX2 TX2 5
theorem nmX2 : ∀ a, a < 5 → ∀ b, b < 5 → a ≠ b → (TX2 a).2.1 ≠ (TX2 b).2.1 := by decide +kernel
theorem tyX2_ok : ∀ k, k < 5 → parseFieldDescriptor (TX2 k).2.2.1 = some (tyX2 k) := by decide +kernel
abbrev cX2_init : ByteArray := prog_4_method_1_code
def yX2_init : MethodName := ⟨RX2, "<init>", "(LTaleCourt$Court;)V"⟩
abbrev cX2_begin : ByteArray := prog_4_method_2_code
def yX2_begin : MethodName := ⟨RX2, "begin", "(LTaleCourt$Telling;Z)V"⟩
abbrev cX2_isWon : ByteArray := prog_4_method_3_code
def yX2_isWon : MethodName := ⟨RX2, "isWon", "()Z"⟩
abbrev cX2_turnsToEnd : ByteArray := prog_4_method_4_code
def yX2_turnsToEnd : MethodName := ⟨RX2, "turnsToEnd", "()I"⟩
abbrev cX2_winningMoves : ByteArray := prog_4_method_5_code
def yX2_winningMoves : MethodName := ⟨RX2, "winningMoves", "()I"⟩
abbrev cX2_firstBlunder : ByteArray := prog_4_method_6_code
def yX2_firstBlunder : MethodName := ⟨RX2, "firstBlunder", "(LTaleCourt$Telling;)I"⟩
abbrev cX2_movesNow : ByteArray := prog_4_method_7_code
def yX2_movesNow : MethodName := ⟨RX2, "movesNow", "()I"⟩
abbrev cX2_play : ByteArray := prog_4_method_8_code
def yX2_play : MethodName := ⟨RX2, "play", "(I)V"⟩
abbrev cX2_position : ByteArray := prog_4_method_9_code
def yX2_position : MethodName := ⟨RX2, "position", "()I"⟩
abbrev cX2_solve : ByteArray := prog_4_method_10_code
def yX2_solve : MethodName := ⟨RX2, "solve", "(I)I"⟩
def RX3 : String := "TaleCourt$Image"
def TX3 : u_T := fun k => match k with
  | 0 => ("TaleCourt$Image", "court", "LTaleCourt$Court;", true)
  | 1 => ("TaleCourt$Image", "tale", "LTaleCourt$Telling;", true)
  | _ => ("TaleCourt$Image", "isKept", "Z", false)
def tyX3 : Nat → FieldType := fun k => match k with
  | 0 => .object "TaleCourt$Court"
  | 1 => .object "TaleCourt$Telling"
  | _ => .boolean
abbrev wsX30 : List Cond := u_ws RX3 TX3 3
theorem nmX3 : ∀ a, a < 3 → ∀ b, b < 3 → a ≠ b → (TX3 a).2.1 ≠ (TX3 b).2.1 := by decide +kernel
theorem tyX3_ok : ∀ k, k < 3 → parseFieldDescriptor (TX3 k).2.2.1 = some (tyX3 k) := by decide +kernel
abbrev cX3_init : ByteArray := prog_5_method_1_code
def yX3_init : MethodName := ⟨RX3, "<init>", "()V"⟩
def RX4 : String := "TaleCourt$Reader"
def TX4 : u_T := fun k => match k with
  | 0 => ("TaleCourt$Reader", "size", "I", false)
  | 1 => ("TaleCourt$Reader", "fault", "I", false)
  | 2 => ("TaleCourt$Reader", "place", "I", false)
  | 3 => ("TaleCourt$Reader", "bytes", "[B", true)
  | 4 => ("TaleCourt$Reader", "start", "I", false)
  | 5 => ("TaleCourt$Reader", "stop", "I", false)
  | _ => ("TaleCourt$Reader", "kind", "I", false)
def tyX4 : Nat → FieldType := fun k => match k with
  | 0 => .int
  | 1 => .int
  | 2 => .int
  | 3 => .array .byte
  | 4 => .int
  | 5 => .int
  | _ => .int
abbrev wsX40 : List Cond := u_ws RX4 TX4 7
theorem nmX4 : ∀ a, a < 7 → ∀ b, b < 7 → a ≠ b → (TX4 a).2.1 ≠ (TX4 b).2.1 := by decide +kernel
theorem tyX4_ok : ∀ k, k < 7 → parseFieldDescriptor (TX4 k).2.2.1 = some (tyX4 k) := by decide +kernel
abbrev cX4_init : ByteArray := prog_6_method_1_code
def yX4_init : MethodName := ⟨RX4, "<init>", "()V"⟩
abbrev cX4_append : ByteArray := prog_6_method_2_code
def yX4_append : MethodName := ⟨RX4, "append", "(I)V"⟩
abbrev cX4_read : ByteArray := prog_6_method_3_code
def yX4_read : MethodName := ⟨RX4, "read", "(LTaleCourt$Court;)Z"⟩
abbrev cX4_readLine : ByteArray := prog_6_method_4_code
def yX4_readLine : MethodName := ⟨RX4, "readLine", "(LTaleCourt$Court;)V"⟩
abbrev cX4_readHead : ByteArray := prog_6_method_5_code
def yX4_readHead : MethodName := ⟨RX4, "readHead", "(LTaleCourt$Court;)V"⟩
abbrev cX4_readMotif : ByteArray := prog_6_method_6_code
def yX4_readMotif : MethodName := ⟨RX4, "readMotif", "(LTaleCourt$Court;)V"⟩
abbrev cX4_readMark : ByteArray := prog_6_method_7_code
def yX4_readMark : MethodName := ⟨RX4, "readMark", "(LTaleCourt$Court;I)V"⟩
abbrev cX4_readJoin : ByteArray := prog_6_method_8_code
def yX4_readJoin : MethodName := ⟨RX4, "readJoin", "(LTaleCourt$Court;)V"⟩
abbrev cX4_readClash : ByteArray := prog_6_method_9_code
def yX4_readClash : MethodName := ⟨RX4, "readClash", "(LTaleCourt$Court;)V"⟩
abbrev cX4_readKeeps : ByteArray := prog_6_method_10_code
def yX4_readKeeps : MethodName := ⟨RX4, "readKeeps", "(LTaleCourt$Court;)V"⟩
abbrev cX4_readListener : ByteArray := prog_6_method_11_code
def yX4_readListener : MethodName := ⟨RX4, "readListener", "(LTaleCourt$Court;)V"⟩
abbrev cX4_fail : ByteArray := prog_6_method_12_code
def yX4_fail : MethodName := ⟨RX4, "fail", "(I)V"⟩
abbrev cX4_takeWord : ByteArray := prog_6_method_13_code
def yX4_takeWord : MethodName := ⟨RX4, "takeWord", "(Ljava/lang/String;)V"⟩
abbrev cX4_takeNumber : ByteArray := prog_6_method_14_code
def yX4_takeNumber : MethodName := ⟨RX4, "takeNumber", "(III)I"⟩
abbrev cX4_isWord : ByteArray := prog_6_method_15_code
def yX4_isWord : MethodName := ⟨RX4, "isWord", "(Ljava/lang/String;)Z"⟩
abbrev cX4_byteAt : ByteArray := prog_6_method_16_code
def yX4_byteAt : MethodName := ⟨RX4, "byteAt", "(I)I"⟩
abbrev cX4_kindOf : ByteArray := prog_6_method_17_code
def yX4_kindOf : MethodName := ⟨RX4, "kindOf", "(I)I"⟩
abbrev cX4_step : ByteArray := prog_6_method_18_code
def yX4_step : MethodName := ⟨RX4, "step", "()V"⟩
abbrev cX4_numberHere : ByteArray := prog_6_method_19_code
def yX4_numberHere : MethodName := ⟨RX4, "numberHere", "()I"⟩
def RX5 : String := "TaleCourt$Row"
def TX5 : u_T := fun k => match k with
  | 0 => ("TaleCourt$Row", "numbers", "[J", true)
  | 1 => ("TaleCourt$Row", "width", "I", false)
  | _ => ("TaleCourt$Row", "size", "I", false)
def tyX5 : Nat → FieldType := fun k => match k with
  | 0 => .array .long
  | 1 => .int
  | _ => .int
abbrev wsX50 : List Cond := u_ws RX5 TX5 3
theorem nmX5 : ∀ a, a < 3 → ∀ b, b < 3 → a ≠ b → (TX5 a).2.1 ≠ (TX5 b).2.1 := by decide +kernel
theorem tyX5_ok : ∀ k, k < 3 → parseFieldDescriptor (TX5 k).2.2.1 = some (tyX5 k) := by decide +kernel
abbrev cX5_init : ByteArray := prog_7_method_1_code
def yX5_init : MethodName := ⟨RX5, "<init>", "()V"⟩
abbrev cX5_begin : ByteArray := prog_7_method_2_code
def yX5_begin : MethodName := ⟨RX5, "begin", "(II)V"⟩
abbrev cX5_put : ByteArray := prog_7_method_3_code
def yX5_put : MethodName := ⟨RX5, "put", "(IJ)V"⟩
abbrev cX5_numberAt : ByteArray := prog_7_method_4_code
def yX5_numberAt : MethodName := ⟨RX5, "numberAt", "(I)J"⟩
abbrev cX5_holds : ByteArray := prog_7_method_5_code
def yX5_holds : MethodName := ⟨RX5, "holds", "(II)Z"⟩
abbrev cX5_isOfMotifs : ByteArray := prog_7_method_6_code
def yX5_isOfMotifs : MethodName := ⟨RX5, "isOfMotifs", "(LTaleCourt$Court;)Z"⟩
abbrev cX5_tasteFor : ByteArray := prog_7_method_7_code
def yX5_tasteFor : MethodName := ⟨RX5, "tasteFor", "(LTaleCourt$Court;I)I"⟩
def RX6 : String := "TaleCourt$Survey"
def TX6 : u_T := fun k => match k with
  | 0 => ("TaleCourt$Survey", "tale", "LTaleCourt$Telling;", true)
  | 1 => ("TaleCourt$Survey", "claims", "LTaleCourt$Claims;", true)
  | 2 => ("TaleCourt$Survey", "knownKeys", "[J", true)
  | 3 => ("TaleCourt$Survey", "known", "[I", true)
  | 4 => ("TaleCourt$Survey", "stamp", "I", false)
  | 5 => ("TaleCourt$Survey", "goal", "I", false)
  | 6 => ("TaleCourt$Survey", "number", "I", false)
  | _ => ("TaleCourt$Survey", "without", "I", false)
def tyX6 : Nat → FieldType := fun k => match k with
  | 0 => .object "TaleCourt$Telling"
  | 1 => .object "TaleCourt$Claims"
  | 2 => .array .long
  | 3 => .array .int
  | 4 => .int
  | 5 => .int
  | 6 => .int
  | _ => .int
abbrev wsX60 : List Cond := u_ws RX6 TX6 8
theorem nmX6 : ∀ a, a < 8 → ∀ b, b < 8 → a ≠ b → (TX6 a).2.1 ≠ (TX6 b).2.1 := by decide +kernel
theorem tyX6_ok : ∀ k, k < 8 → parseFieldDescriptor (TX6 k).2.2.1 = some (tyX6 k) := by decide +kernel
abbrev cX6_init : ByteArray := prog_8_method_1_code
def yX6_init : MethodName := ⟨RX6, "<init>", "(LTaleCourt$Court;LTaleCourt$Claims;)V"⟩
abbrev cX6_ask : ByteArray := prog_8_method_2_code
def yX6_ask : MethodName := ⟨RX6, "ask", "(LTaleCourt$Telling;III)I"⟩
abbrev cX6_askRow : ByteArray := prog_8_method_3_code
def yX6_askRow : MethodName := ⟨RX6, "askRow", "(LTaleCourt$Telling;III)I"⟩
abbrev cX6_firstWith : ByteArray := prog_8_method_4_code
def yX6_firstWith : MethodName := ⟨RX6, "firstWith", "(II)I"⟩
abbrev cX6_solve : ByteArray := prog_8_method_5_code
def yX6_solve : MethodName := ⟨RX6, "solve", "(I)I"⟩
abbrev cX6_key : ByteArray := prog_8_method_6_code
def yX6_key : MethodName := ⟨RX6, "key", "()J"⟩
abbrev cX6_openNow : ByteArray := prog_8_method_7_code
def yX6_openNow : MethodName := ⟨RX6, "openNow", "()I"⟩
abbrev cX6_own : ByteArray := prog_8_method_8_code
def yX6_own : MethodName := ⟨RX6, "own", "(I)I"⟩
abbrev cX6_merge : ByteArray := prog_8_method_9_code
def yX6_merge : MethodName := ⟨RX6, "merge", "(II)I"⟩
def RX7 : String := "TaleCourt$Telling"
def TX7 : u_T := fun k => match k with
  | 0 => ("TaleCourt$Telling", "turns", "[I", true)
  | 1 => ("TaleCourt$Telling", "dueTurn", "[I", true)
  | 2 => ("TaleCourt$Telling", "count", "I", false)
  | 3 => ("TaleCourt$Telling", "toldSet", "I", false)
  | 4 => ("TaleCourt$Telling", "last", "I", false)
  | 5 => ("TaleCourt$Telling", "total", "I", false)
  | 6 => ("TaleCourt$Telling", "court", "LTaleCourt$Court;", true)
  | 7 => ("TaleCourt$Telling", "silent", "[I", true)
  | 8 => ("TaleCourt$Telling", "blocked", "I", false)
  | 9 => ("TaleCourt$Telling", "owedSet", "I", false)
  | 10 => ("TaleCourt$Telling", "lastAhead", "[I", true)
  | 11 => ("TaleCourt$Telling", "blockedAhead", "[I", true)
  | 12 => ("TaleCourt$Telling", "owedAhead", "[I", true)
  | _ => ("TaleCourt$Telling", "dueAhead", "[I", true)
def tyX7 : Nat → FieldType := fun k => match k with
  | 0 => .array .int
  | 1 => .array .int
  | 2 => .int
  | 3 => .int
  | 4 => .int
  | 5 => .int
  | 6 => .object "TaleCourt$Court"
  | 7 => .array .int
  | 8 => .int
  | 9 => .int
  | 10 => .array .int
  | 11 => .array .int
  | 12 => .array .int
  | _ => .array .int
abbrev wsX70 : List Cond := u_ws RX7 TX7 14
theorem nmX7 : ∀ a, a < 14 → ∀ b, b < 14 → a ≠ b → (TX7 a).2.1 ≠ (TX7 b).2.1 := by decide +kernel
theorem tyX7_ok : ∀ k, k < 14 → parseFieldDescriptor (TX7 k).2.2.1 = some (tyX7 k) := by decide +kernel
abbrev cX7_init : ByteArray := prog_9_method_1_code
def yX7_init : MethodName := ⟨RX7, "<init>", "(LTaleCourt$Court;)V"⟩
abbrev cX7_clear : ByteArray := prog_9_method_2_code
def yX7_clear : MethodName := ⟨RX7, "clear", "()V"⟩
abbrev cX7_copyFrom : ByteArray := prog_9_method_3_code
def yX7_copyFrom : MethodName := ⟨RX7, "copyFrom", "(LTaleCourt$Telling;)V"⟩
abbrev cX7_teller : ByteArray := prog_9_method_4_code
def yX7_teller : MethodName := ⟨RX7, "teller", "()I"⟩
abbrev cX7_silencesLeft : ByteArray := prog_9_method_5_code
def yX7_silencesLeft : MethodName := ⟨RX7, "silencesLeft", "(I)I"⟩
abbrev cX7_shareOf : ByteArray := prog_9_method_6_code
def yX7_shareOf : MethodName := ⟨RX7, "shareOf", "(I)I"⟩
abbrev cX7_unpaid : ByteArray := prog_9_method_7_code
def yX7_unpaid : MethodName := ⟨RX7, "unpaid", "()I"⟩
abbrev cX7_isWhole : ByteArray := prog_9_method_8_code
def yX7_isWhole : MethodName := ⟨RX7, "isWhole", "()Z"⟩
abbrev cX7_pressing : ByteArray := prog_9_method_9_code
def yX7_pressing : MethodName := ⟨RX7, "pressing", "()I"⟩
abbrev cX7_debts : ByteArray := prog_9_method_10_code
def yX7_debts : MethodName := ⟨RX7, "debts", "()J"⟩
abbrev cX7_joined : ByteArray := prog_9_method_11_code
def yX7_joined : MethodName := ⟨RX7, "joined", "()I"⟩
abbrev cX7_playable : ByteArray := prog_9_method_12_code
def yX7_playable : MethodName := ⟨RX7, "playable", "()I"⟩
abbrev cX7_tellable : ByteArray := prog_9_method_13_code
def yX7_tellable : MethodName := ⟨RX7, "tellable", "()I"⟩
abbrev cX7_reason : ByteArray := prog_9_method_14_code
def yX7_reason : MethodName := ⟨RX7, "reason", "(I)I"⟩
abbrev cX7_hasSilence : ByteArray := prog_9_method_15_code
def yX7_hasSilence : MethodName := ⟨RX7, "hasSilence", "()Z"⟩
abbrev cX7_mayBeSilent : ByteArray := prog_9_method_16_code
def yX7_mayBeSilent : MethodName := ⟨RX7, "mayBeSilent", "()Z"⟩
abbrev cX7_hasRoom : ByteArray := prog_9_method_17_code
def yX7_hasRoom : MethodName := ⟨RX7, "hasRoom", "()Z"⟩
abbrev cX7_remember : ByteArray := prog_9_method_18_code
def yX7_remember : MethodName := ⟨RX7, "remember", "(I)V"⟩
abbrev cX7_tell : ByteArray := prog_9_method_19_code
def yX7_tell : MethodName := ⟨RX7, "tell", "(I)V"⟩
abbrev cX7_owe : ByteArray := prog_9_method_20_code
def yX7_owe : MethodName := ⟨RX7, "owe", "(II)V"⟩
abbrev cX7_pass : ByteArray := prog_9_method_21_code
def yX7_pass : MethodName := ⟨RX7, "pass", "()V"⟩
abbrev cX7_takeBack : ByteArray := prog_9_method_22_code
def yX7_takeBack : MethodName := ⟨RX7, "takeBack", "()V"⟩
abbrev cX7_untell : ByteArray := prog_9_method_23_code
def yX7_untell : MethodName := ⟨RX7, "untell", "(I)V"⟩
def RX8 : String := "TaleCourt"
def TX8 : u_T := fun k => match k with
  | 0 => ("TaleCourt", "reader", "LTaleCourt$Reader;", true)
  | 1 => ("TaleCourt", "court", "LTaleCourt$Court;", true)
  | 2 => ("TaleCourt", "draft", "LTaleCourt$Court;", true)
  | 3 => ("TaleCourt", "now", "LTaleCourt$Telling;", true)
  | 4 => ("TaleCourt", "trial", "LTaleCourt$Telling;", true)
  | 5 => ("TaleCourt", "claims", "LTaleCourt$Claims;", true)
  | 6 => ("TaleCourt", "survey", "LTaleCourt$Survey;", true)
  | 7 => ("TaleCourt", "game", "LTaleCourt$Game;", true)
  | 8 => ("TaleCourt", "slots", "[LTaleCourt$Row;", true)
  | _ => ("TaleCourt", "images", "[LTaleCourt$Image;", true)
def tyX8 : Nat → FieldType := fun k => match k with
  | 0 => .object "TaleCourt$Reader"
  | 1 => .object "TaleCourt$Court"
  | 2 => .object "TaleCourt$Court"
  | 3 => .object "TaleCourt$Telling"
  | 4 => .object "TaleCourt$Telling"
  | 5 => .object "TaleCourt$Claims"
  | 6 => .object "TaleCourt$Survey"
  | 7 => .object "TaleCourt$Game"
  | 8 => .array (.object "TaleCourt$Row")
  | _ => .array (.object "TaleCourt$Image")
abbrev wsX80 : List Cond := u_ws RX8 TX8 10
theorem nmX8 : ∀ a, a < 10 → ∀ b, b < 10 → a ≠ b → (TX8 a).2.1 ≠ (TX8 b).2.1 := by decide +kernel
theorem tyX8_ok : ∀ k, k < 10 → parseFieldDescriptor (TX8 k).2.2.1 = some (tyX8 k) := by decide +kernel
abbrev cX8_init : ByteArray := prog_1_method_1_code
def yX8_init : MethodName := ⟨RX8, "<init>", "()V"⟩
abbrev cX8_feed : ByteArray := prog_1_method_2_code
def yX8_feed : MethodName := ⟨RX8, "feed", "(IIIII)I"⟩
abbrev cX8_end : ByteArray := prog_1_method_3_code
def yX8_end : MethodName := ⟨RX8, "end", "(I)I"⟩
abbrev cX8_court : ByteArray := prog_1_method_4_code
def yX8_court : MethodName := ⟨RX8, "court", "()I"⟩
abbrev cX8_fault : ByteArray := prog_1_method_5_code
def yX8_fault : MethodName := ⟨RX8, "fault", "(I)I"⟩
abbrev cX8_motif : ByteArray := prog_1_method_6_code
def yX8_motif : MethodName := ⟨RX8, "motif", "(II)I"⟩
abbrev cX8_joins : ByteArray := prog_1_method_7_code
def yX8_joins : MethodName := ⟨RX8, "joins", "(II)I"⟩
abbrev cX8_clash : ByteArray := prog_1_method_8_code
def yX8_clash : MethodName := ⟨RX8, "clash", "(II)I"⟩
abbrev cX8_behind : ByteArray := prog_1_method_9_code
def yX8_behind : MethodName := ⟨RX8, "behind", "(I)I"⟩
abbrev cX8_ahead : ByteArray := prog_1_method_10_code
def yX8_ahead : MethodName := ⟨RX8, "ahead", "(I)I"⟩
abbrev cX8_comes : ByteArray := prog_1_method_11_code
def yX8_comes : MethodName := ⟨RX8, "comes", "(I)I"⟩
abbrev cX8_chain : ByteArray := prog_1_method_12_code
def yX8_chain : MethodName := ⟨RX8, "chain", "(II)I"⟩
abbrev cX8_say : ByteArray := prog_1_method_13_code
def yX8_say : MethodName := ⟨RX8, "say", "(I)I"⟩
abbrev cX8_hush : ByteArray := prog_1_method_14_code
def yX8_hush : MethodName := ⟨RX8, "hush", "()I"⟩
abbrev cX8_unsay : ByteArray := prog_1_method_15_code
def yX8_unsay : MethodName := ⟨RX8, "unsay", "()I"⟩
abbrev cX8_anew : ByteArray := prog_1_method_16_code
def yX8_anew : MethodName := ⟨RX8, "anew", "()I"⟩
abbrev cX8_told : ByteArray := prog_1_method_17_code
def yX8_told : MethodName := ⟨RX8, "told", "(I)I"⟩
abbrev cX8_length : ByteArray := prog_1_method_18_code
def yX8_length : MethodName := ⟨RX8, "length", "()I"⟩
abbrev cX8_whose : ByteArray := prog_1_method_19_code
def yX8_whose : MethodName := ⟨RX8, "whose", "()I"⟩
abbrev cX8_may : ByteArray := prog_1_method_20_code
def yX8_may : MethodName := ⟨RX8, "may", "()I"⟩
abbrev cX8_why : ByteArray := prog_1_method_21_code
def yX8_why : MethodName := ⟨RX8, "why", "(I)I"⟩
abbrev cX8_owed : ByteArray := prog_1_method_22_code
def yX8_owed : MethodName := ⟨RX8, "owed", "()I"⟩
abbrev cX8_due : ByteArray := prog_1_method_23_code
def yX8_due : MethodName := ⟨RX8, "due", "(I)I"⟩
abbrev cX8_whole : ByteArray := prog_1_method_24_code
def yX8_whole : MethodName := ⟨RX8, "whole", "()I"⟩
abbrev cX8_points : ByteArray := prog_1_method_25_code
def yX8_points : MethodName := ⟨RX8, "points", "()I"⟩
abbrev cX8_share : ByteArray := prog_1_method_26_code
def yX8_share : MethodName := ⟨RX8, "share", "(I)I"⟩
abbrev cX8_left : ByteArray := prog_1_method_27_code
def yX8_left : MethodName := ⟨RX8, "left", "(I)I"⟩
abbrev cX8_longest : ByteArray := prog_1_method_28_code
def yX8_longest : MethodName := ⟨RX8, "longest", "()I"⟩
abbrev cX8_full : ByteArray := prog_1_method_29_code
def yX8_full : MethodName := ⟨RX8, "full", "()I"⟩
abbrev cX8_line : ByteArray := prog_1_method_30_code
def yX8_line : MethodName := ⟨RX8, "line", "(I)I"⟩
abbrev cX8_best : ByteArray := prog_1_method_31_code
def yX8_best : MethodName := ⟨RX8, "best", "()I"⟩
abbrev cX8_tale : ByteArray := prog_1_method_32_code
def yX8_tale : MethodName := ⟨RX8, "tale", "(I)I"⟩
abbrev cX8_roof : ByteArray := prog_1_method_33_code
def yX8_roof : MethodName := ⟨RX8, "roof", "(I)I"⟩
abbrev cX8_beam : ByteArray := prog_1_method_34_code
def yX8_beam : MethodName := ⟨RX8, "beam", "(II)I"⟩
abbrev cX8_rows : ByteArray := prog_1_method_35_code
def yX8_rows : MethodName := ⟨RX8, "rows", "(I)I"⟩
abbrev cX8_wholes : ByteArray := prog_1_method_36_code
def yX8_wholes : MethodName := ⟨RX8, "wholes", "()I"⟩
abbrev cX8_wholesWithout : ByteArray := prog_1_method_37_code
def yX8_wholesWithout : MethodName := ⟨RX8, "wholesWithout", "(I)I"⟩
abbrev cX8_ends : ByteArray := prog_1_method_38_code
def yX8_ends : MethodName := ⟨RX8, "ends", "(I)I"⟩
abbrev cX8_always : ByteArray := prog_1_method_39_code
def yX8_always : MethodName := ⟨RX8, "always", "(I)I"⟩
abbrev cX8_around : ByteArray := prog_1_method_40_code
def yX8_around : MethodName := ⟨RX8, "around", "(I)I"⟩
abbrev cX8_lack : ByteArray := prog_1_method_41_code
def yX8_lack : MethodName := ⟨RX8, "lack", "(I)I"⟩
abbrev cX8_crux : ByteArray := prog_1_method_42_code
def yX8_crux : MethodName := ⟨RX8, "crux", "()I"⟩
abbrev cX8_cost : ByteArray := prog_1_method_43_code
def yX8_cost : MethodName := ⟨RX8, "cost", "(I)I"⟩
abbrev cX8_gameBar : ByteArray := prog_1_method_44_code
def yX8_gameBar : MethodName := ⟨RX8, "gameBar", "()I"⟩
abbrev cX8_wins : ByteArray := prog_1_method_45_code
def yX8_wins : MethodName := ⟨RX8, "wins", "()I"⟩
abbrev cX8_move : ByteArray := prog_1_method_46_code
def yX8_move : MethodName := ⟨RX8, "move", "()I"⟩
abbrev cX8_lasts : ByteArray := prog_1_method_47_code
def yX8_lasts : MethodName := ⟨RX8, "lasts", "()I"⟩
abbrev cX8_good : ByteArray := prog_1_method_48_code
def yX8_good : MethodName := ⟨RX8, "good", "()I"⟩
abbrev cX8_kept : ByteArray := prog_1_method_49_code
def yX8_kept : MethodName := ⟨RX8, "kept", "(II)I"⟩
abbrev cX8_trade : ByteArray := prog_1_method_50_code
def yX8_trade : MethodName := ⟨RX8, "trade", "()I"⟩
abbrev cX8_tradeWins : ByteArray := prog_1_method_51_code
def yX8_tradeWins : MethodName := ⟨RX8, "tradeWins", "(II)Z"⟩
abbrev cX8_blunder : ByteArray := prog_1_method_52_code
def yX8_blunder : MethodName := ⟨RX8, "blunder", "()I"⟩
abbrev cX8_keeps : ByteArray := prog_1_method_53_code
def yX8_keeps : MethodName := ⟨RX8, "keeps", "(II)I"⟩
abbrev cX8_forbid : ByteArray := prog_1_method_54_code
def yX8_forbid : MethodName := ⟨RX8, "forbid", "(II)I"⟩
abbrev cX8_isSlot : ByteArray := prog_1_method_55_code
def yX8_isSlot : MethodName := ⟨RX8, "isSlot", "(I)Z"⟩
abbrev cX8_slotBar : ByteArray := prog_1_method_56_code
def yX8_slotBar : MethodName := ⟨RX8, "slotBar", "(I)I"⟩
abbrev cX8_judge : ByteArray := prog_1_method_57_code
def yX8_judge : MethodName := ⟨RX8, "judge", "(I)I"⟩
abbrev cX8_verdict : ByteArray := prog_1_method_58_code
def yX8_verdict : MethodName := ⟨RX8, "verdict", "(I)I"⟩
abbrev cX8_retell : ByteArray := prog_1_method_59_code
def yX8_retell : MethodName := ⟨RX8, "retell", "(LTaleCourt$Row;)I"⟩
abbrev cX8_retellTurn : ByteArray := prog_1_method_60_code
def yX8_retellTurn : MethodName := ⟨RX8, "retellTurn", "(J)I"⟩
abbrev cX8_claimsBar : ByteArray := prog_1_method_61_code
def yX8_claimsBar : MethodName := ⟨RX8, "claimsBar", "(II)I"⟩
abbrev cX8_lies : ByteArray := prog_1_method_62_code
def yX8_lies : MethodName := ⟨RX8, "lies", "(I)I"⟩
abbrev cX8_orders : ByteArray := prog_1_method_63_code
def yX8_orders : MethodName := ⟨RX8, "orders", "(I)I"⟩
abbrev cX8_fits : ByteArray := prog_1_method_64_code
def yX8_fits : MethodName := ⟨RX8, "fits", "(I)I"⟩
abbrev cX8_liars : ByteArray := prog_1_method_65_code
def yX8_liars : MethodName := ⟨RX8, "liars", "(I)I"⟩
abbrev cX8_who : ByteArray := prog_1_method_66_code
def yX8_who : MethodName := ⟨RX8, "who", "(I)I"⟩
abbrev cX8_votes : ByteArray := prog_1_method_67_code
def yX8_votes : MethodName := ⟨RX8, "votes", "(II)I"⟩
abbrev cX8_taste : ByteArray := prog_1_method_68_code
def yX8_taste : MethodName := ⟨RX8, "taste", "(II)I"⟩
abbrev cX8_mayDraw : ByteArray := prog_1_method_69_code
def yX8_mayDraw : MethodName := ⟨RX8, "mayDraw", "(I)Z"⟩
abbrev cX8_drawFrom : ByteArray := prog_1_method_70_code
def yX8_drawFrom : MethodName := ⟨RX8, "drawFrom", "(I)V"⟩
abbrev cX8_bitAt : ByteArray := prog_1_method_71_code
def yX8_bitAt : MethodName := ⟨RX8, "bitAt", "(II)I"⟩
abbrev cX8_drawn : ByteArray := prog_1_method_72_code
def yX8_drawn : MethodName := ⟨RX8, "drawn", "(II)I"⟩
abbrev cX8_lot : ByteArray := prog_1_method_73_code
def yX8_lot : MethodName := ⟨RX8, "lot", "(II)I"⟩
abbrev cX8_nights : ByteArray := prog_1_method_74_code
def yX8_nights : MethodName := ⟨RX8, "nights", "(II)I"⟩
abbrev cX8_count : ByteArray := prog_1_method_75_code
def yX8_count : MethodName := ⟨RX8, "count", "(I)I"⟩
abbrev cX8_slotsInUse : ByteArray := prog_1_method_76_code
def yX8_slotsInUse : MethodName := ⟨RX8, "slotsInUse", "()I"⟩
abbrev cX8_keep : ByteArray := prog_1_method_77_code
def yX8_keep : MethodName := ⟨RX8, "keep", "(I)I"⟩
abbrev cX8_back : ByteArray := prog_1_method_78_code
def yX8_back : MethodName := ⟨RX8, "back", "(I)I"⟩
abbrev cX8_row : ByteArray := prog_1_method_79_code
def yX8_row : MethodName := ⟨RX8, "row", "(III)I"⟩
abbrev cX8_write : ByteArray := prog_1_method_80_code
def yX8_write : MethodName := ⟨RX8, "write", "(IIJ)I"⟩
abbrev cX8_paste : ByteArray := prog_1_method_81_code
def yX8_paste : MethodName := ⟨RX8, "paste", "(IIIII)I"⟩
def RX9 : String := "TaleCourtModel"
def TX9 : u_T := fun k => match k with
  | 0 => ("TaleCourtModel", "thrown", "I", false)
  | 1 => ("TaleCourtModel", "width", "[I", true)
  | 2 => ("TaleCourtModel", "many", "[I", true)
  | 3 => ("TaleCourtModel", "cells", "[J", true)
  | 4 => ("TaleCourtModel", "moved", "[J", true)
  | 5 => ("TaleCourtModel", "tape", "[B", true)
  | 6 => ("TaleCourtModel", "taped", "I", false)
  | 7 => ("TaleCourtModel", "at", "I", false)
  | 8 => ("TaleCourtModel", "token", "I", false)
  | 9 => ("TaleCourtModel", "place", "I", false)
  | 10 => ("TaleCourtModel", "value", "I", false)
  | 11 => ("TaleCourtModel", "word", "J", false)
  | 12 => ("TaleCourtModel", "bad", "I", false)
  | 13 => ("TaleCourtModel", "badPlace", "I", false)
  | 14 => ("TaleCourtModel", "fault", "I", false)
  | 15 => ("TaleCourtModel", "faultPlace", "I", false)
  | 16 => ("TaleCourtModel", "lines", "[I", true)
  | 17 => ("TaleCourtModel", "has", "[I", true)
  | 18 => ("TaleCourtModel", "motif", "[I", true)
  | 19 => ("TaleCourtModel", "listener", "[I", true)
  | 20 => ("TaleCourtModel", "turn", "[I", true)
  | 21 => ("TaleCourtModel", "isKept", "[Z", true)
  | 22 => ("TaleCourtModel", "now", "[I", true)
  | 23 => ("TaleCourtModel", "when", "[I", true)
  | 24 => ("TaleCourtModel", "turns", "I", false)
  | 25 => ("TaleCourtModel", "told", "I", false)
  | 26 => ("TaleCourtModel", "latest", "I", false)
  | 27 => ("TaleCourtModel", "sum", "I", false)
  | 28 => ("TaleCourtModel", "silences", "[I", true)
  | 29 => ("TaleCourtModel", "asked", "I", false)
  | 30 => ("TaleCourtModel", "floor", "I", false)
  | 31 => ("TaleCourtModel", "from", "I", false)
  | 32 => ("TaleCourtModel", "most", "I", false)
  | 33 => ("TaleCourtModel", "bestMany", "I", false)
  | 34 => ("TaleCourtModel", "best", "[I", true)
  | 35 => ("TaleCourtModel", "rowsOf", "[I", true)
  | 36 => ("TaleCourtModel", "endsOf", "[I", true)
  | 37 => ("TaleCourtModel", "wholeMany", "I", false)
  | 38 => ("TaleCourtModel", "inAll", "I", false)
  | 39 => ("TaleCourtModel", "inSome", "I", false)
  | 40 => ("TaleCourtModel", "fitMany", "I", false)
  | 41 => ("TaleCourtModel", "fitSlot", "I", false)
  | 42 => ("TaleCourtModel", "barred", "I", false)
  | 43 => ("TaleCourtModel", "outcome", "[I", true)
  | 44 => ("TaleCourtModel", "leftFirst", "I", false)
  | 45 => ("TaleCourtModel", "leftSecond", "I", false)
  | 46 => ("TaleCourtModel", "verdictOf", "I", false)
  | 47 => ("TaleCourtModel", "untrue", "[I", true)
  | 48 => ("TaleCourtModel", "ordersOf", "[I", true)
  | _ => ("TaleCourtModel", "drawnFrom", "I", false)
def tyX9 : Nat → FieldType := fun k => match k with
  | 0 => .int
  | 1 => .array .int
  | 2 => .array .int
  | 3 => .array .long
  | 4 => .array .long
  | 5 => .array .byte
  | 6 => .int
  | 7 => .int
  | 8 => .int
  | 9 => .int
  | 10 => .int
  | 11 => .long
  | 12 => .int
  | 13 => .int
  | 14 => .int
  | 15 => .int
  | 16 => .array .int
  | 17 => .array .int
  | 18 => .array .int
  | 19 => .array .int
  | 20 => .array .int
  | 21 => .array .boolean
  | 22 => .array .int
  | 23 => .array .int
  | 24 => .int
  | 25 => .int
  | 26 => .int
  | 27 => .int
  | 28 => .array .int
  | 29 => .int
  | 30 => .int
  | 31 => .int
  | 32 => .int
  | 33 => .int
  | 34 => .array .int
  | 35 => .array .int
  | 36 => .array .int
  | 37 => .int
  | 38 => .int
  | 39 => .int
  | 40 => .int
  | 41 => .int
  | 42 => .int
  | 43 => .array .int
  | 44 => .int
  | 45 => .int
  | 46 => .int
  | 47 => .array .int
  | 48 => .array .int
  | _ => .int
abbrev wsX90 : List Cond := u_ws RX9 TX9 50
theorem nmX9 : ∀ a, a < 50 → ∀ b, b < 50 → a ≠ b → (TX9 a).2.1 ≠ (TX9 b).2.1 := by decide +kernel
theorem tyX9_ok : ∀ k, k < 50 → parseFieldDescriptor (TX9 k).2.2.1 = some (tyX9 k) := by decide +kernel
abbrev cX9_init : ByteArray := prog_11_method_1_code
def yX9_init : MethodName := ⟨RX9, "<init>", "()V"⟩
abbrev cX9_in : ByteArray := prog_11_method_3_code
def yX9_in : MethodName := ⟨RX9, "in", "(JJJ)Z"⟩
abbrev cX9_isSlot : ByteArray := prog_11_method_4_code
def yX9_isSlot : MethodName := ⟨RX9, "isSlot", "(I)Z"⟩
abbrev cX9_row : ByteArray := prog_11_method_5_code
def yX9_row : MethodName := ⟨RX9, "row", "(III)I"⟩
abbrev cX9_cut : ByteArray := prog_11_method_6_code
def yX9_cut : MethodName := ⟨RX9, "cut", "(JI)J"⟩
abbrev cX9_write : ByteArray := prog_11_method_7_code
def yX9_write : MethodName := ⟨RX9, "write", "(IIJ)I"⟩
abbrev cX9_paste : ByteArray := prog_11_method_8_code
def yX9_paste : MethodName := ⟨RX9, "paste", "(IIIII)I"⟩
abbrev cX9_feed : ByteArray := prog_11_method_9_code
def yX9_feed : MethodName := ⟨RX9, "feed", "(IIIII)I"⟩
abbrev cX9_four : ByteArray := prog_11_method_10_code
def yX9_four : MethodName := ⟨RX9, "four", "(I)V"⟩
abbrev cX9_end : ByteArray := prog_11_method_11_code
def yX9_end : MethodName := ⟨RX9, "end", "(I)I"⟩
abbrev cX9_isByte : ByteArray := prog_11_method_12_code
def yX9_isByte : MethodName := ⟨RX9, "isByte", "(III)Z"⟩
abbrev cX9_next : ByteArray := prog_11_method_13_code
def yX9_next : MethodName := ⟨RX9, "next", "()V"⟩
abbrev cX9_isGood : ByteArray := prog_11_method_14_code
def yX9_isGood : MethodName := ⟨RX9, "isGood", "()Z"⟩
abbrev cX9_fails : ByteArray := prog_11_method_15_code
def yX9_fails : MethodName := ⟨RX9, "fails", "(I)V"⟩
abbrev cX9_is : ByteArray := prog_11_method_16_code
def yX9_is : MethodName := ⟨RX9, "is", "(J)Z"⟩
abbrev cX9_takes : ByteArray := prog_11_method_17_code
def yX9_takes : MethodName := ⟨RX9, "takes", "(J)Z"⟩
abbrev cX9_asks : ByteArray := prog_11_method_18_code
def yX9_asks : MethodName := ⟨RX9, "asks", "(J)V"⟩
abbrev cX9_number : ByteArray := prog_11_method_19_code
def yX9_number : MethodName := ⟨RX9, "number", "(II)I"⟩
abbrev cX9_number_ : ByteArray := prog_11_method_20_code
def yX9_number_ : MethodName := ⟨RX9, "number", "(JII)I"⟩
abbrev cX9_ends : ByteArray := prog_11_method_21_code
def yX9_ends : MethodName := ⟨RX9, "ends", "()V"⟩
abbrev cX9_begins : ByteArray := prog_11_method_22_code
def yX9_begins : MethodName := ⟨RX9, "begins", "()V"⟩
abbrev cX9_isOver : ByteArray := prog_11_method_23_code
def yX9_isOver : MethodName := ⟨RX9, "isOver", "()V"⟩
abbrev cX9_fault : ByteArray := prog_11_method_24_code
def yX9_fault : MethodName := ⟨RX9, "fault", "(I)I"⟩
abbrev cX9_hasRead : ByteArray := prog_11_method_25_code
def yX9_hasRead : MethodName := ⟨RX9, "hasRead", "(I)I"⟩
abbrev cX9_placeRead : ByteArray := prog_11_method_26_code
def yX9_placeRead : MethodName := ⟨RX9, "placeRead", "(I)I"⟩
abbrev cX9_motifLine : ByteArray := prog_11_method_27_code
def yX9_motifLine : MethodName := ⟨RX9, "motifLine", "()V"⟩
abbrev cX9_motifHere : ByteArray := prog_11_method_28_code
def yX9_motifHere : MethodName := ⟨RX9, "motifHere", "()I"⟩
abbrev cX9_pairLine : ByteArray := prog_11_method_29_code
def yX9_pairLine : MethodName := ⟨RX9, "pairLine", "(Z)V"⟩
abbrev cX9_listenerLine : ByteArray := prog_11_method_30_code
def yX9_listenerLine : MethodName := ⟨RX9, "listenerLine", "()V"⟩
abbrev cX9_line : ByteArray := prog_11_method_31_code
def yX9_line : MethodName := ⟨RX9, "line", "()V"⟩
abbrev cX9_clears : ByteArray := prog_11_method_32_code
def yX9_clears : MethodName := ⟨RX9, "clears", "()V"⟩
abbrev cX9_court : ByteArray := prog_11_method_33_code
def yX9_court : MethodName := ⟨RX9, "court", "()I"⟩
abbrev cX9_copyRow : ByteArray := prog_11_method_34_code
def yX9_copyRow : MethodName := ⟨RX9, "copyRow", "([IIII)V"⟩
abbrev cX9_copyCourt : ByteArray := prog_11_method_35_code
def yX9_copyCourt : MethodName := ⟨RX9, "copyCourt", "(II)V"⟩
abbrev cX9_isCourt : ByteArray := prog_11_method_36_code
def yX9_isCourt : MethodName := ⟨RX9, "isCourt", "()Z"⟩
abbrev cX9_isMotif : ByteArray := prog_11_method_37_code
def yX9_isMotif : MethodName := ⟨RX9, "isMotif", "(J)Z"⟩
abbrev cX9_isTeller : ByteArray := prog_11_method_38_code
def yX9_isTeller : MethodName := ⟨RX9, "isTeller", "(I)Z"⟩
abbrev cX9_isBit : ByteArray := prog_11_method_39_code
def yX9_isBit : MethodName := ⟨RX9, "isBit", "(II)Z"⟩
abbrev cX9_sizeOf : ByteArray := prog_11_method_40_code
def yX9_sizeOf : MethodName := ⟨RX9, "sizeOf", "(I)I"⟩
abbrev cX9_of : ByteArray := prog_11_method_41_code
def yX9_of : MethodName := ⟨RX9, "of", "(II)I"⟩
abbrev cX9_motif : ByteArray := prog_11_method_42_code
def yX9_motif : MethodName := ⟨RX9, "motif", "(II)I"⟩
abbrev cX9_joins : ByteArray := prog_11_method_43_code
def yX9_joins : MethodName := ⟨RX9, "joins", "(II)I"⟩
abbrev cX9_clash : ByteArray := prog_11_method_44_code
def yX9_clash : MethodName := ⟨RX9, "clash", "(II)I"⟩
abbrev cX9_behind : ByteArray := prog_11_method_45_code
def yX9_behind : MethodName := ⟨RX9, "behind", "(I)I"⟩
abbrev cX9_ahead : ByteArray := prog_11_method_46_code
def yX9_ahead : MethodName := ⟨RX9, "ahead", "(I)I"⟩
abbrev cX9_comes : ByteArray := prog_11_method_47_code
def yX9_comes : MethodName := ⟨RX9, "comes", "(I)I"⟩
abbrev cX9_chain : ByteArray := prog_11_method_48_code
def yX9_chain : MethodName := ⟨RX9, "chain", "(II)I"⟩
abbrev cX9_pointsOf : ByteArray := prog_11_method_49_code
def yX9_pointsOf : MethodName := ⟨RX9, "pointsOf", "(I)I"⟩
abbrev cX9_puts : ByteArray := prog_11_method_50_code
def yX9_puts : MethodName := ⟨RX9, "puts", "(I)V"⟩
abbrev cX9_takesOff : ByteArray := prog_11_method_51_code
def yX9_takesOff : MethodName := ⟨RX9, "takesOff", "()V"⟩
abbrev cX9_empties : ByteArray := prog_11_method_52_code
def yX9_empties : MethodName := ⟨RX9, "empties", "()V"⟩
abbrev cX9_lays : ByteArray := prog_11_method_53_code
def yX9_lays : MethodName := ⟨RX9, "lays", "()V"⟩
abbrev cX9_keepsTale : ByteArray := prog_11_method_54_code
def yX9_keepsTale : MethodName := ⟨RX9, "keepsTale", "()V"⟩
abbrev cX9_isLate : ByteArray := prog_11_method_55_code
def yX9_isLate : MethodName := ⟨RX9, "isLate", "(I)Z"⟩
abbrev cX9_joinsOn : ByteArray := prog_11_method_56_code
def yX9_joinsOn : MethodName := ⟨RX9, "joinsOn", "(I)Z"⟩
abbrev cX9_whyNot : ByteArray := prog_11_method_57_code
def yX9_whyNot : MethodName := ⟨RX9, "whyNot", "(I)I"⟩
abbrev cX9_maySilence : ByteArray := prog_11_method_58_code
def yX9_maySilence : MethodName := ⟨RX9, "maySilence", "()Z"⟩
abbrev cX9_owedNow : ByteArray := prog_11_method_59_code
def yX9_owedNow : MethodName := ⟨RX9, "owedNow", "()I"⟩
abbrev cX9_isWhole : ByteArray := prog_11_method_60_code
def yX9_isWhole : MethodName := ⟨RX9, "isWhole", "()Z"⟩
abbrev cX9_say : ByteArray := prog_11_method_61_code
def yX9_say : MethodName := ⟨RX9, "say", "(I)I"⟩
abbrev cX9_hush : ByteArray := prog_11_method_62_code
def yX9_hush : MethodName := ⟨RX9, "hush", "()I"⟩
abbrev cX9_unsay : ByteArray := prog_11_method_63_code
def yX9_unsay : MethodName := ⟨RX9, "unsay", "()I"⟩
abbrev cX9_anew : ByteArray := prog_11_method_64_code
def yX9_anew : MethodName := ⟨RX9, "anew", "()I"⟩
abbrev cX9_told : ByteArray := prog_11_method_65_code
def yX9_told : MethodName := ⟨RX9, "told", "(I)I"⟩
abbrev cX9_length : ByteArray := prog_11_method_66_code
def yX9_length : MethodName := ⟨RX9, "length", "()I"⟩
abbrev cX9_whose : ByteArray := prog_11_method_67_code
def yX9_whose : MethodName := ⟨RX9, "whose", "()I"⟩
abbrev cX9_mayNow : ByteArray := prog_11_method_68_code
def yX9_mayNow : MethodName := ⟨RX9, "mayNow", "()I"⟩
abbrev cX9_may : ByteArray := prog_11_method_69_code
def yX9_may : MethodName := ⟨RX9, "may", "()I"⟩
abbrev cX9_why : ByteArray := prog_11_method_70_code
def yX9_why : MethodName := ⟨RX9, "why", "(I)I"⟩
abbrev cX9_owed : ByteArray := prog_11_method_71_code
def yX9_owed : MethodName := ⟨RX9, "owed", "()I"⟩
abbrev cX9_due : ByteArray := prog_11_method_72_code
def yX9_due : MethodName := ⟨RX9, "due", "(I)I"⟩
abbrev cX9_whole : ByteArray := prog_11_method_73_code
def yX9_whole : MethodName := ⟨RX9, "whole", "()I"⟩
abbrev cX9_points : ByteArray := prog_11_method_74_code
def yX9_points : MethodName := ⟨RX9, "points", "()I"⟩
abbrev cX9_share : ByteArray := prog_11_method_75_code
def yX9_share : MethodName := ⟨RX9, "share", "(I)I"⟩
abbrev cX9_left : ByteArray := prog_11_method_76_code
def yX9_left : MethodName := ⟨RX9, "left", "(I)I"⟩
abbrev cX9_meets : ByteArray := prog_11_method_77_code
def yX9_meets : MethodName := ⟨RX9, "meets", "()V"⟩
abbrev cX9_isAhead : ByteArray := prog_11_method_78_code
def yX9_isAhead : MethodName := ⟨RX9, "isAhead", "(I)Z"⟩
abbrev cX9_goes : ByteArray := prog_11_method_79_code
def yX9_goes : MethodName := ⟨RX9, "goes", "()V"⟩
abbrev cX9_goesAll : ByteArray := prog_11_method_80_code
def yX9_goesAll : MethodName := ⟨RX9, "goesAll", "(III)V"⟩
abbrev cX9_bestAt : ByteArray := prog_11_method_81_code
def yX9_bestAt : MethodName := ⟨RX9, "bestAt", "(I)I"⟩
abbrev cX9_longest : ByteArray := prog_11_method_82_code
def yX9_longest : MethodName := ⟨RX9, "longest", "()I"⟩
abbrev cX9_full : ByteArray := prog_11_method_83_code
def yX9_full : MethodName := ⟨RX9, "full", "()I"⟩
abbrev cX9_line_ : ByteArray := prog_11_method_84_code
def yX9_line_ : MethodName := ⟨RX9, "line", "(I)I"⟩
abbrev cX9_best : ByteArray := prog_11_method_85_code
def yX9_best : MethodName := ⟨RX9, "best", "()I"⟩
abbrev cX9_tale : ByteArray := prog_11_method_86_code
def yX9_tale : MethodName := ⟨RX9, "tale", "(I)I"⟩
abbrev cX9_roof : ByteArray := prog_11_method_87_code
def yX9_roof : MethodName := ⟨RX9, "roof", "(I)I"⟩
abbrev cX9_beam : ByteArray := prog_11_method_88_code
def yX9_beam : MethodName := ⟨RX9, "beam", "(II)I"⟩
abbrev cX9_rows : ByteArray := prog_11_method_89_code
def yX9_rows : MethodName := ⟨RX9, "rows", "(I)I"⟩
abbrev cX9_wholesNow : ByteArray := prog_11_method_90_code
def yX9_wholesNow : MethodName := ⟨RX9, "wholesNow", "()I"⟩
abbrev cX9_wholes : ByteArray := prog_11_method_91_code
def yX9_wholes : MethodName := ⟨RX9, "wholes", "()I"⟩
abbrev cX9_ends_ : ByteArray := prog_11_method_92_code
def yX9_ends_ : MethodName := ⟨RX9, "ends", "(I)I"⟩
abbrev cX9_always : ByteArray := prog_11_method_93_code
def yX9_always : MethodName := ⟨RX9, "always", "(I)I"⟩
abbrev cX9_startsGame : ByteArray := prog_11_method_94_code
def yX9_startsGame : MethodName := ⟨RX9, "startsGame", "()V"⟩
abbrev cX9_mayPlay : ByteArray := prog_11_method_95_code
def yX9_mayPlay : MethodName := ⟨RX9, "mayPlay", "(IIII)Z"⟩
abbrev cX9_stateOf : ByteArray := prog_11_method_96_code
def yX9_stateOf : MethodName := ⟨RX9, "stateOf", "(IIIII)I"⟩
abbrev cX9_plays : ByteArray := prog_11_method_97_code
def yX9_plays : MethodName := ⟨RX9, "plays", "(IIIII)I"⟩
abbrev cX9_isBetter : ByteArray := prog_11_method_98_code
def yX9_isBetter : MethodName := ⟨RX9, "isBetter", "(II)Z"⟩
abbrev cX9_act : ByteArray := prog_11_method_99_code
def yX9_act : MethodName := ⟨RX9, "act", "(IIIIII)I"⟩
abbrev cX9_outcomeNow : ByteArray := prog_11_method_100_code
def yX9_outcomeNow : MethodName := ⟨RX9, "outcomeNow", "()I"⟩
abbrev cX9_winsBy : ByteArray := prog_11_method_101_code
def yX9_winsBy : MethodName := ⟨RX9, "winsBy", "(I)Z"⟩
abbrev cX9_whyNoGame : ByteArray := prog_11_method_102_code
def yX9_whyNoGame : MethodName := ⟨RX9, "whyNoGame", "()I"⟩
abbrev cX9_wins : ByteArray := prog_11_method_103_code
def yX9_wins : MethodName := ⟨RX9, "wins", "()I"⟩
abbrev cX9_move : ByteArray := prog_11_method_104_code
def yX9_move : MethodName := ⟨RX9, "move", "()I"⟩
abbrev cX9_lasts : ByteArray := prog_11_method_105_code
def yX9_lasts : MethodName := ⟨RX9, "lasts", "()I"⟩
abbrev cX9_good : ByteArray := prog_11_method_106_code
def yX9_good : MethodName := ⟨RX9, "good", "()I"⟩
abbrev cX9_kept : ByteArray := prog_11_method_107_code
def yX9_kept : MethodName := ⟨RX9, "kept", "(II)I"⟩
abbrev cX9_changes : ByteArray := prog_11_method_108_code
def yX9_changes : MethodName := ⟨RX9, "changes", "(II)V"⟩
abbrev cX9_trade : ByteArray := prog_11_method_109_code
def yX9_trade : MethodName := ⟨RX9, "trade", "()I"⟩
abbrev cX9_keeps : ByteArray := prog_11_method_110_code
def yX9_keeps : MethodName := ⟨RX9, "keeps", "(II)I"⟩
abbrev cX9_forbid : ByteArray := prog_11_method_111_code
def yX9_forbid : MethodName := ⟨RX9, "forbid", "(II)I"⟩
abbrev cX9_around : ByteArray := prog_11_method_112_code
def yX9_around : MethodName := ⟨RX9, "around", "(I)I"⟩
abbrev cX9_blunder : ByteArray := prog_11_method_113_code
def yX9_blunder : MethodName := ⟨RX9, "blunder", "()I"⟩
abbrev cX9_wholesWithout : ByteArray := prog_11_method_114_code
def yX9_wholesWithout : MethodName := ⟨RX9, "wholesWithout", "(I)I"⟩
abbrev cX9_lack : ByteArray := prog_11_method_115_code
def yX9_lack : MethodName := ⟨RX9, "lack", "(I)I"⟩
abbrev cX9_crux : ByteArray := prog_11_method_116_code
def yX9_crux : MethodName := ⟨RX9, "crux", "()I"⟩
abbrev cX9_cost : ByteArray := prog_11_method_117_code
def yX9_cost : MethodName := ⟨RX9, "cost", "(I)I"⟩
abbrev cX9_judges : ByteArray := prog_11_method_118_code
def yX9_judges : MethodName := ⟨RX9, "judges", "(I)I"⟩
abbrev cX9_whyNoRow : ByteArray := prog_11_method_119_code
def yX9_whyNoRow : MethodName := ⟨RX9, "whyNoRow", "(I)I"⟩
abbrev cX9_judge : ByteArray := prog_11_method_120_code
def yX9_judge : MethodName := ⟨RX9, "judge", "(I)I"⟩
abbrev cX9_verdict : ByteArray := prog_11_method_121_code
def yX9_verdict : MethodName := ⟨RX9, "verdict", "(I)I"⟩
abbrev cX9_cellOf : ByteArray := prog_11_method_122_code
def yX9_cellOf : MethodName := ⟨RX9, "cellOf", "(II)I"⟩
abbrev cX9_whyNotTold : ByteArray := prog_11_method_123_code
def yX9_whyNotTold : MethodName := ⟨RX9, "whyNotTold", "(II)I"⟩
abbrev cX9_laysUntrue : ByteArray := prog_11_method_124_code
def yX9_laysUntrue : MethodName := ⟨RX9, "laysUntrue", "(III)V"⟩
abbrev cX9_lies : ByteArray := prog_11_method_125_code
def yX9_lies : MethodName := ⟨RX9, "lies", "(I)I"⟩
abbrev cX9_orders : ByteArray := prog_11_method_126_code
def yX9_orders : MethodName := ⟨RX9, "orders", "(I)I"⟩
abbrev cX9_isFit : ByteArray := prog_11_method_127_code
def yX9_isFit : MethodName := ⟨RX9, "isFit", "()Z"⟩
abbrev cX9_fits : ByteArray := prog_11_method_128_code
def yX9_fits : MethodName := ⟨RX9, "fits", "(I)I"⟩
abbrev cX9_liarsOf : ByteArray := prog_11_method_129_code
def yX9_liarsOf : MethodName := ⟨RX9, "liarsOf", "(I)I"⟩
abbrev cX9_liars : ByteArray := prog_11_method_130_code
def yX9_liars : MethodName := ⟨RX9, "liars", "(I)I"⟩
abbrev cX9_who : ByteArray := prog_11_method_131_code
def yX9_who : MethodName := ⟨RX9, "who", "(I)I"⟩
abbrev cX9_tasteOf : ByteArray := prog_11_method_132_code
def yX9_tasteOf : MethodName := ⟨RX9, "tasteOf", "(II)I"⟩
abbrev cX9_areMotifs : ByteArray := prog_11_method_133_code
def yX9_areMotifs : MethodName := ⟨RX9, "areMotifs", "(I)Z"⟩
abbrev cX9_votes : ByteArray := prog_11_method_134_code
def yX9_votes : MethodName := ⟨RX9, "votes", "(II)I"⟩
abbrev cX9_taste : ByteArray := prog_11_method_135_code
def yX9_taste : MethodName := ⟨RX9, "taste", "(II)I"⟩
abbrev cX9_draws : ByteArray := prog_11_method_136_code
def yX9_draws : MethodName := ⟨RX9, "draws", "(J)V"⟩
abbrev cX9_isSeed : ByteArray := prog_11_method_137_code
def yX9_isSeed : MethodName := ⟨RX9, "isSeed", "(I)Z"⟩
abbrev cX9_drawn : ByteArray := prog_11_method_138_code
def yX9_drawn : MethodName := ⟨RX9, "drawn", "(II)I"⟩
abbrev cX9_lot : ByteArray := prog_11_method_139_code
def yX9_lot : MethodName := ⟨RX9, "lot", "(II)I"⟩
abbrev cX9_nights : ByteArray := prog_11_method_140_code
def yX9_nights : MethodName := ⟨RX9, "nights", "(II)I"⟩
abbrev cX9_count : ByteArray := prog_11_method_141_code
def yX9_count : MethodName := ⟨RX9, "count", "(I)I"⟩
abbrev cX9_keep : ByteArray := prog_11_method_142_code
def yX9_keep : MethodName := ⟨RX9, "keep", "(I)I"⟩
abbrev cX9_back : ByteArray := prog_11_method_143_code
def yX9_back : MethodName := ⟨RX9, "back", "(I)I"⟩
def RJx145de : String := "java/io/Serializable"
def TJx145de : u_T := fun k => match k with
  | _ => ("", "", "", false)
def tyJx145de : Nat → FieldType := fun k => match k with
  | _ => .int
abbrev wsJx145de0 : List Cond := u_ws RJx145de TJx145de 0
theorem nmJx145de : ∀ a, a < 0 → ∀ b, b < 0 → a ≠ b → (TJx145de a).2.1 ≠ (TJx145de b).2.1 := by decide +kernel
theorem tyJx145de_ok : ∀ k, k < 0 → parseFieldDescriptor (TJx145de k).2.2.1 = some (tyJx145de k) := by decide +kernel
def RJx9f9b0 : String := "java/lang/CharSequence"
def TJx9f9b0 : u_T := fun k => match k with
  | _ => ("", "", "", false)
def tyJx9f9b0 : Nat → FieldType := fun k => match k with
  | _ => .int
abbrev wsJx9f9b00 : List Cond := u_ws RJx9f9b0 TJx9f9b0 0
theorem nmJx9f9b0 : ∀ a, a < 0 → ∀ b, b < 0 → a ≠ b → (TJx9f9b0 a).2.1 ≠ (TJx9f9b0 b).2.1 := by decide +kernel
theorem tyJx9f9b0_ok : ∀ k, k < 0 → parseFieldDescriptor (TJx9f9b0 k).2.2.1 = some (tyJx9f9b0 k) := by decide +kernel
def RJxb160c : String := "java/lang/Comparable"
def TJxb160c : u_T := fun k => match k with
  | _ => ("", "", "", false)
def tyJxb160c : Nat → FieldType := fun k => match k with
  | _ => .int
abbrev wsJxb160c0 : List Cond := u_ws RJxb160c TJxb160c 0
theorem nmJxb160c : ∀ a, a < 0 → ∀ b, b < 0 → a ≠ b → (TJxb160c a).2.1 ≠ (TJxb160c b).2.1 := by decide +kernel
theorem tyJxb160c_ok : ∀ k, k < 0 → parseFieldDescriptor (TJxb160c k).2.2.1 = some (tyJxb160c k) := by decide +kernel
def RJ6 : String := "java/lang/Integer"
def TJ6 : u_T := fun k => match k with
  | _ => ("", "", "", false)
def tyJ6 : Nat → FieldType := fun k => match k with
  | _ => .int
abbrev wsJ60 : List Cond := u_ws RJ6 TJ6 0
theorem nmJ6 : ∀ a, a < 0 → ∀ b, b < 0 → a ≠ b → (TJ6 a).2.1 ≠ (TJ6 b).2.1 := by decide +kernel
theorem tyJ6_ok : ∀ k, k < 0 → parseFieldDescriptor (TJ6 k).2.2.1 = some (tyJ6 k) := by decide +kernel
abbrev cJ6_bitCount_0f7a4 : ByteArray := prog_12_method_49_code
def yJ6_bitCount_0f7a4 : MethodName := ⟨RJ6, "bitCount", "(I)I"⟩
def RJ9 : String := "java/lang/Math"
def TJ9 : u_T := fun k => match k with
  | _ => ("", "", "", false)
def tyJ9 : Nat → FieldType := fun k => match k with
  | _ => .int
abbrev wsJ90 : List Cond := u_ws RJ9 TJ9 0
theorem nmJ9 : ∀ a, a < 0 → ∀ b, b < 0 → a ≠ b → (TJ9 a).2.1 ≠ (TJ9 b).2.1 := by decide +kernel
theorem tyJ9_ok : ∀ k, k < 0 → parseFieldDescriptor (TJ9 k).2.2.1 = some (tyJ9 k) := by decide +kernel
abbrev cJ9_max_7cf53 : ByteArray := prog_13_method_65_code
def yJ9_max_7cf53 : MethodName := ⟨RJ9, "max", "(II)I"⟩
abbrev cJ9_min_7cf53 : ByteArray := prog_13_method_69_code
def yJ9_min_7cf53 : MethodName := ⟨RJ9, "min", "(II)I"⟩
def RJ0 : String := "java/lang/String"
def TJ0 : u_T := fun k => match k with
  | _ => ("", "", "", false)
def tyJ0 : Nat → FieldType := fun k => match k with
  | _ => .int
abbrev wsJ00 : List Cond := u_ws RJ0 TJ0 0
theorem nmJ0 : ∀ a, a < 0 → ∀ b, b < 0 → a ≠ b → (TJ0 a).2.1 ≠ (TJ0 b).2.1 := by decide +kernel
theorem tyJ0_ok : ∀ k, k < 0 → parseFieldDescriptor (TJ0 k).2.2.1 = some (tyJ0 k) := by decide +kernel
abbrev cJ0_length_8abf5 : ByteArray := prog_14_method_54_code
def yJ0_length_8abf5 : MethodName := ⟨RJ0, "length", "()I"⟩
abbrev cJ0_charAt_5068e : ByteArray := prog_14_method_56_code
def yJ0_charAt_5068e : MethodName := ⟨RJ0, "charAt", "(I)C"⟩
abbrev cJ0_coder_7d493 : ByteArray := prog_14_method_152_code
def yJ0_coder_7d493 : MethodName := ⟨RJ0, "coder", "()B"⟩
abbrev cJ0_isLatin1_aae02 : ByteArray := prog_14_method_154_code
def yJ0_isLatin1_aae02 : MethodName := ⟨RJ0, "isLatin1", "()Z"⟩
abbrev cJ0_checkIndex_df160 : ByteArray := prog_14_method_155_code
def yJ0_checkIndex_df160 : MethodName := ⟨RJ0, "checkIndex", "(II)V"⟩
def RJ1 : String := "java/lang/StringLatin1"
def TJ1 : u_T := fun k => match k with
  | _ => ("", "", "", false)
def tyJ1 : Nat → FieldType := fun k => match k with
  | _ => .int
abbrev wsJ10 : List Cond := u_ws RJ1 TJ1 0
theorem nmJ1 : ∀ a, a < 0 → ∀ b, b < 0 → a ≠ b → (TJ1 a).2.1 ≠ (TJ1 b).2.1 := by decide +kernel
theorem tyJ1_ok : ∀ k, k < 0 → parseFieldDescriptor (TJ1 k).2.2.1 = some (tyJ1 k) := by decide +kernel
abbrev cJ1_charAt_3b067 : ByteArray := prog_15_method_2_code
def yJ1_charAt_3b067 : MethodName := ⟨RJ1, "charAt", "([BI)C"⟩
def RJ2 : String := "java/lang/StringUTF16"
def TJ2 : u_T := fun k => match k with
  | _ => ("", "", "", false)
def tyJ2 : Nat → FieldType := fun k => match k with
  | _ => .int
abbrev wsJ20 : List Cond := u_ws RJ2 TJ2 0
theorem nmJ2 : ∀ a, a < 0 → ∀ b, b < 0 → a ≠ b → (TJ2 a).2.1 ≠ (TJ2 b).2.1 := by decide +kernel
theorem tyJ2_ok : ∀ k, k < 0 → parseFieldDescriptor (TJ2 k).2.2.1 = some (tyJ2 k) := by decide +kernel
abbrev cJ2_getChar_3b067 : ByteArray := prog_16_method_5_code
def yJ2_getChar_3b067 : MethodName := ⟨RJ2, "getChar", "([BI)C"⟩
abbrev cJ2_length_9d52b : ByteArray := prog_16_method_6_code
def yJ2_length_9d52b : MethodName := ⟨RJ2, "length", "([B)I"⟩
abbrev cJ2_charAt_3b067 : ByteArray := prog_16_method_83_code
def yJ2_charAt_3b067 : MethodName := ⟨RJ2, "charAt", "([BI)C"⟩
abbrev cJ2_checkIndex_2214a : ByteArray := prog_16_method_91_code
def yJ2_checkIndex_2214a : MethodName := ⟨RJ2, "checkIndex", "(I[B)V"⟩
def RJ10 : String := "java/lang/System"
def TJ10 : u_T := fun k => match k with
  | _ => ("", "", "", false)
def tyJ10 : Nat → FieldType := fun k => match k with
  | _ => .int
abbrev wsJ100 : List Cond := u_ws RJ10 TJ10 0
theorem nmJ10 : ∀ a, a < 0 → ∀ b, b < 0 → a ≠ b → (TJ10 a).2.1 ≠ (TJ10 b).2.1 := by decide +kernel
theorem tyJ10_ok : ∀ k, k < 0 → parseFieldDescriptor (TJ10 k).2.2.1 = some (tyJ10 k) := by decide +kernel
def RJxfd54e : String := "java/lang/constant/Constable"
def TJxfd54e : u_T := fun k => match k with
  | _ => ("", "", "", false)
def tyJxfd54e : Nat → FieldType := fun k => match k with
  | _ => .int
abbrev wsJxfd54e0 : List Cond := u_ws RJxfd54e TJxfd54e 0
theorem nmJxfd54e : ∀ a, a < 0 → ∀ b, b < 0 → a ≠ b → (TJxfd54e a).2.1 ≠ (TJxfd54e b).2.1 := by decide +kernel
theorem tyJxfd54e_ok : ∀ k, k < 0 → parseFieldDescriptor (TJxfd54e k).2.2.1 = some (tyJxfd54e k) := by decide +kernel
def RJx3cf43 : String := "java/lang/constant/ConstantDesc"
def TJx3cf43 : u_T := fun k => match k with
  | _ => ("", "", "", false)
def tyJx3cf43 : Nat → FieldType := fun k => match k with
  | _ => .int
abbrev wsJx3cf430 : List Cond := u_ws RJx3cf43 TJx3cf43 0
theorem nmJx3cf43 : ∀ a, a < 0 → ∀ b, b < 0 → a ≠ b → (TJx3cf43 a).2.1 ≠ (TJx3cf43 b).2.1 := by decide +kernel
theorem tyJx3cf43_ok : ∀ k, k < 0 → parseFieldDescriptor (TJx3cf43 k).2.2.1 = some (tyJx3cf43 k) := by decide +kernel
def RJ7 : String := "java/util/Arrays"
def TJ7 : u_T := fun k => match k with
  | _ => ("", "", "", false)
def tyJ7 : Nat → FieldType := fun k => match k with
  | _ => .int
abbrev wsJ70 : List Cond := u_ws RJ7 TJ7 0
theorem nmJ7 : ∀ a, a < 0 → ∀ b, b < 0 → a ≠ b → (TJ7 a).2.1 ≠ (TJ7 b).2.1 := by decide +kernel
theorem tyJ7_ok : ∀ k, k < 0 → parseFieldDescriptor (TJ7 k).2.2.1 = some (tyJ7 k) := by decide +kernel
abbrev cJ7_fill_d0a16 : ByteArray := prog_18_method_101_code
def yJ7_fill_d0a16 : MethodName := ⟨RJ7, "fill", "([JJ)V"⟩
abbrev cJ7_fill_53178 : ByteArray := prog_18_method_103_code
def yJ7_fill_53178 : MethodName := ⟨RJ7, "fill", "([II)V"⟩
def RJ3 : String := "jdk/internal/util/Preconditions"
def TJ3 : u_T := fun k => match k with
  | _ => ("", "", "", false)
def tyJ3 : Nat → FieldType := fun k => match k with
  | _ => .int
abbrev wsJ30 : List Cond := u_ws RJ3 TJ3 0
theorem nmJ3 : ∀ a, a < 0 → ∀ b, b < 0 → a ≠ b → (TJ3 a).2.1 ≠ (TJ3 b).2.1 := by decide +kernel
theorem tyJ3_ok : ∀ k, k < 0 → parseFieldDescriptor (TJ3 k).2.2.1 = some (tyJ3 k) := by decide +kernel
abbrev cJ3_checkIndex_8e157 : ByteArray := prog_19_method_11_code
def yJ3_checkIndex_8e157 : MethodName := ⟨RJ3, "checkIndex", "(IILjava/util/function/BiFunction;)I"⟩
def RL : String := "TaleCourtLaw"
abbrev cL_law : ByteArray := code
def yL_law : MethodName := ⟨RL, "law", "([I)Z"⟩
end
section
def tbG : List Cond := lw_tbl.filter goodWord
theorem mt_1 {w : Cond} (h : w ∈ tables_1_1) (hg : goodWord w = true) : w ∈ tbG := List.mem_filter.mpr ⟨List.mem_append_right _ (show w ∈ tables_1 from List.mem_append_left _ h), hg⟩
theorem mt_2 {w : Cond} (h : w ∈ tables_1_2) (hg : goodWord w = true) : w ∈ tbG := List.mem_filter.mpr ⟨List.mem_append_right _ (show w ∈ tables_1 from List.mem_append_right _ (List.mem_append_left _ h)), hg⟩
theorem mt_3 {w : Cond} (h : w ∈ tables_1_3) (hg : goodWord w = true) : w ∈ tbG := List.mem_filter.mpr ⟨List.mem_append_right _ (show w ∈ tables_1 from List.mem_append_right _ (List.mem_append_right _ (List.mem_append_left _ h))), hg⟩
theorem mt_4 {w : Cond} (h : w ∈ tables_1_4) (hg : goodWord w = true) : w ∈ tbG := List.mem_filter.mpr ⟨List.mem_append_right _ (show w ∈ tables_1 from List.mem_append_right _ (List.mem_append_right _ (List.mem_append_right _ (List.mem_append_left _ h)))), hg⟩
theorem mt_5 {w : Cond} (h : w ∈ tables_1_5) (hg : goodWord w = true) : w ∈ tbG := List.mem_filter.mpr ⟨List.mem_append_right _ (show w ∈ tables_1 from List.mem_append_right _ (List.mem_append_right _ (List.mem_append_right _ (List.mem_append_right _ (List.mem_append_left _ h))))), hg⟩
theorem mt_6 {w : Cond} (h : w ∈ tables_1_6) (hg : goodWord w = true) : w ∈ tbG := List.mem_filter.mpr ⟨List.mem_append_right _ (show w ∈ tables_1 from List.mem_append_right _ (List.mem_append_right _ (List.mem_append_right _ (List.mem_append_right _ (List.mem_append_right _ (List.mem_append_left _ h)))))), hg⟩
theorem mt_7 {w : Cond} (h : w ∈ tables_1_7) (hg : goodWord w = true) : w ∈ tbG := List.mem_filter.mpr ⟨List.mem_append_right _ (show w ∈ tables_1 from List.mem_append_right _ (List.mem_append_right _ (List.mem_append_right _ (List.mem_append_right _ (List.mem_append_right _ (List.mem_append_right _ (List.mem_append_left _ h))))))), hg⟩
theorem mt_8 {w : Cond} (h : w ∈ tables_1_8) (hg : goodWord w = true) : w ∈ tbG := List.mem_filter.mpr ⟨List.mem_append_right _ (show w ∈ tables_1 from List.mem_append_right _ (List.mem_append_right _ (List.mem_append_right _ (List.mem_append_right _ (List.mem_append_right _ (List.mem_append_right _ (List.mem_append_right _ (List.mem_append_left _ h)))))))), hg⟩
theorem mt_9 {w : Cond} (h : w ∈ tables_1_9) (hg : goodWord w = true) : w ∈ tbG := List.mem_filter.mpr ⟨List.mem_append_right _ (show w ∈ tables_1 from List.mem_append_right _ (List.mem_append_right _ (List.mem_append_right _ (List.mem_append_right _ (List.mem_append_right _ (List.mem_append_right _ (List.mem_append_right _ (List.mem_append_right _ (h))))))))), hg⟩
theorem mw_0 : (Cond.selects "TaleCourt$Reader" (⟨"TaleCourt$Reader", "step", "()V"⟩ : MethodName) (⟨"TaleCourt$Reader", "step", "()V"⟩ : MethodName)) ∈ tbG := List.mem_filter.mpr ⟨List.mem_of_getElem? (i := 0) (by decide +kernel), rfl⟩
theorem mw_1 : (Cond.selects "TaleCourt$Reader" (⟨"TaleCourt$Reader", "byteAt", "(I)I"⟩ : MethodName) (⟨"TaleCourt$Reader", "byteAt", "(I)I"⟩ : MethodName)) ∈ tbG := List.mem_filter.mpr ⟨List.mem_of_getElem? (i := 1) (by decide +kernel), rfl⟩
theorem mw_2 : (Cond.selects "TaleCourt$Reader" (⟨"TaleCourt$Reader", "readLine", "(LTaleCourt$Court;)V"⟩ : MethodName) (⟨"TaleCourt$Reader", "readLine", "(LTaleCourt$Court;)V"⟩ : MethodName)) ∈ tbG := List.mem_filter.mpr ⟨List.mem_of_getElem? (i := 2) (by decide +kernel), rfl⟩
theorem mw_3 : (Cond.selects "TaleCourt$Reader" (⟨"TaleCourt$Reader", "readHead", "(LTaleCourt$Court;)V"⟩ : MethodName) (⟨"TaleCourt$Reader", "readHead", "(LTaleCourt$Court;)V"⟩ : MethodName)) ∈ tbG := List.mem_filter.mpr ⟨List.mem_of_getElem? (i := 3) (by decide +kernel), rfl⟩
theorem mw_4 : (Cond.selects "TaleCourt$Reader" (⟨"TaleCourt$Reader", "takeWord", "(Ljava/lang/String;)V"⟩ : MethodName) (⟨"TaleCourt$Reader", "takeWord", "(Ljava/lang/String;)V"⟩ : MethodName)) ∈ tbG := List.mem_filter.mpr ⟨List.mem_of_getElem? (i := 4) (by decide +kernel), rfl⟩
theorem mw_5 : (Cond.selects "TaleCourt$Reader" (⟨"TaleCourt$Reader", "isWord", "(Ljava/lang/String;)Z"⟩ : MethodName) (⟨"TaleCourt$Reader", "isWord", "(Ljava/lang/String;)Z"⟩ : MethodName)) ∈ tbG := List.mem_filter.mpr ⟨List.mem_of_getElem? (i := 5) (by decide +kernel), rfl⟩
theorem mw_6 : (Cond.selects "TaleCourt$Reader" (⟨"TaleCourt$Reader", "fail", "(I)V"⟩ : MethodName) (⟨"TaleCourt$Reader", "fail", "(I)V"⟩ : MethodName)) ∈ tbG := List.mem_filter.mpr ⟨List.mem_of_getElem? (i := 6) (by decide +kernel), rfl⟩
theorem mw_7 : (Cond.selects "TaleCourt$Reader" (⟨"TaleCourt$Reader", "takeNumber", "(III)I"⟩ : MethodName) (⟨"TaleCourt$Reader", "takeNumber", "(III)I"⟩ : MethodName)) ∈ tbG := List.mem_filter.mpr ⟨List.mem_of_getElem? (i := 7) (by decide +kernel), rfl⟩
theorem mw_8 : (Cond.selects "TaleCourt$Reader" (⟨"TaleCourt$Reader", "numberHere", "()I"⟩ : MethodName) (⟨"TaleCourt$Reader", "numberHere", "()I"⟩ : MethodName)) ∈ tbG := List.mem_filter.mpr ⟨List.mem_of_getElem? (i := 8) (by decide +kernel), rfl⟩
theorem mw_9 : (Cond.selects "TaleCourt$Reader" (⟨"TaleCourt$Reader", "readMotif", "(LTaleCourt$Court;)V"⟩ : MethodName) (⟨"TaleCourt$Reader", "readMotif", "(LTaleCourt$Court;)V"⟩ : MethodName)) ∈ tbG := List.mem_filter.mpr ⟨List.mem_of_getElem? (i := 9) (by decide +kernel), rfl⟩
theorem mw_10 : (Cond.selects "TaleCourt$Reader" (⟨"TaleCourt$Reader", "readMark", "(LTaleCourt$Court;I)V"⟩ : MethodName) (⟨"TaleCourt$Reader", "readMark", "(LTaleCourt$Court;I)V"⟩ : MethodName)) ∈ tbG := List.mem_filter.mpr ⟨List.mem_of_getElem? (i := 10) (by decide +kernel), rfl⟩
theorem mw_11 : (Cond.selects "TaleCourt$Reader" (⟨"TaleCourt$Reader", "readJoin", "(LTaleCourt$Court;)V"⟩ : MethodName) (⟨"TaleCourt$Reader", "readJoin", "(LTaleCourt$Court;)V"⟩ : MethodName)) ∈ tbG := List.mem_filter.mpr ⟨List.mem_of_getElem? (i := 11) (by decide +kernel), rfl⟩
theorem mw_12 : (Cond.selects "TaleCourt$Reader" (⟨"TaleCourt$Reader", "readClash", "(LTaleCourt$Court;)V"⟩ : MethodName) (⟨"TaleCourt$Reader", "readClash", "(LTaleCourt$Court;)V"⟩ : MethodName)) ∈ tbG := List.mem_filter.mpr ⟨List.mem_of_getElem? (i := 12) (by decide +kernel), rfl⟩
theorem mw_13 : (Cond.selects "TaleCourt$Reader" (⟨"TaleCourt$Reader", "readKeeps", "(LTaleCourt$Court;)V"⟩ : MethodName) (⟨"TaleCourt$Reader", "readKeeps", "(LTaleCourt$Court;)V"⟩ : MethodName)) ∈ tbG := List.mem_filter.mpr ⟨List.mem_of_getElem? (i := 13) (by decide +kernel), rfl⟩
theorem mw_14 : (Cond.selects "TaleCourt$Reader" (⟨"TaleCourt$Reader", "readListener", "(LTaleCourt$Court;)V"⟩ : MethodName) (⟨"TaleCourt$Reader", "readListener", "(LTaleCourt$Court;)V"⟩ : MethodName)) ∈ tbG := List.mem_filter.mpr ⟨List.mem_of_getElem? (i := 14) (by decide +kernel), rfl⟩
theorem mw_15 : (Cond.selects "TaleCourt$Court" (⟨"TaleCourt$Court", "followersOfSet", "(I)I"⟩ : MethodName) (⟨"TaleCourt$Court", "followersOfSet", "(I)I"⟩ : MethodName)) ∈ tbG := List.mem_filter.mpr ⟨List.mem_of_getElem? (i := 15) (by decide +kernel), rfl⟩
theorem mw_16 : (Cond.selects "TaleCourt$Telling" (⟨"TaleCourt$Telling", "joined", "()I"⟩ : MethodName) (⟨"TaleCourt$Telling", "joined", "()I"⟩ : MethodName)) ∈ tbG := List.mem_filter.mpr ⟨List.mem_of_getElem? (i := 16) (by decide +kernel), rfl⟩
theorem mw_17 : (Cond.selects "TaleCourt$Telling" (⟨"TaleCourt$Telling", "pressing", "()I"⟩ : MethodName) (⟨"TaleCourt$Telling", "pressing", "()I"⟩ : MethodName)) ∈ tbG := List.mem_filter.mpr ⟨List.mem_of_getElem? (i := 17) (by decide +kernel), rfl⟩
theorem mw_18 : (Cond.selects "TaleCourt$Telling" (⟨"TaleCourt$Telling", "hasRoom", "()Z"⟩ : MethodName) (⟨"TaleCourt$Telling", "hasRoom", "()Z"⟩ : MethodName)) ∈ tbG := List.mem_filter.mpr ⟨List.mem_of_getElem? (i := 18) (by decide +kernel), rfl⟩
theorem mw_19 : (Cond.selects "TaleCourt$Telling" (⟨"TaleCourt$Telling", "remember", "(I)V"⟩ : MethodName) (⟨"TaleCourt$Telling", "remember", "(I)V"⟩ : MethodName)) ∈ tbG := List.mem_filter.mpr ⟨List.mem_of_getElem? (i := 19) (by decide +kernel), rfl⟩
theorem mw_20 : (Cond.selects "TaleCourt$Telling" (⟨"TaleCourt$Telling", "owe", "(II)V"⟩ : MethodName) (⟨"TaleCourt$Telling", "owe", "(II)V"⟩ : MethodName)) ∈ tbG := List.mem_filter.mpr ⟨List.mem_of_getElem? (i := 20) (by decide +kernel), rfl⟩
theorem mw_21 : (Cond.selects "TaleCourt$Telling" (⟨"TaleCourt$Telling", "untell", "(I)V"⟩ : MethodName) (⟨"TaleCourt$Telling", "untell", "(I)V"⟩ : MethodName)) ∈ tbG := List.mem_filter.mpr ⟨List.mem_of_getElem? (i := 21) (by decide +kernel), rfl⟩
theorem mw_22 : (Cond.selects "TaleCourt$Survey" (⟨"TaleCourt$Survey", "solve", "(I)I"⟩ : MethodName) (⟨"TaleCourt$Survey", "solve", "(I)I"⟩ : MethodName)) ∈ tbG := List.mem_filter.mpr ⟨List.mem_of_getElem? (i := 22) (by decide +kernel), rfl⟩
theorem mw_23 : (Cond.selects "TaleCourt$Survey" (⟨"TaleCourt$Survey", "key", "()J"⟩ : MethodName) (⟨"TaleCourt$Survey", "key", "()J"⟩ : MethodName)) ∈ tbG := List.mem_filter.mpr ⟨List.mem_of_getElem? (i := 23) (by decide +kernel), rfl⟩
theorem mw_24 : (Cond.selects "TaleCourt$Survey" (⟨"TaleCourt$Survey", "own", "(I)I"⟩ : MethodName) (⟨"TaleCourt$Survey", "own", "(I)I"⟩ : MethodName)) ∈ tbG := List.mem_filter.mpr ⟨List.mem_of_getElem? (i := 24) (by decide +kernel), rfl⟩
theorem mw_25 : (Cond.selects "TaleCourt$Survey" (⟨"TaleCourt$Survey", "openNow", "()I"⟩ : MethodName) (⟨"TaleCourt$Survey", "openNow", "()I"⟩ : MethodName)) ∈ tbG := List.mem_filter.mpr ⟨List.mem_of_getElem? (i := 25) (by decide +kernel), rfl⟩
theorem mw_26 : (Cond.selects "TaleCourt$Claims" (⟨"TaleCourt$Claims", "allows", "(II)Z"⟩ : MethodName) (⟨"TaleCourt$Claims", "allows", "(II)Z"⟩ : MethodName)) ∈ tbG := List.mem_filter.mpr ⟨List.mem_of_getElem? (i := 26) (by decide +kernel), rfl⟩
theorem mw_27 : (Cond.selects "TaleCourt$Survey" (⟨"TaleCourt$Survey", "merge", "(II)I"⟩ : MethodName) (⟨"TaleCourt$Survey", "merge", "(II)I"⟩ : MethodName)) ∈ tbG := List.mem_filter.mpr ⟨List.mem_of_getElem? (i := 27) (by decide +kernel), rfl⟩
theorem mw_28 : (Cond.selects "TaleCourt$Survey" (⟨"TaleCourt$Survey", "firstWith", "(II)I"⟩ : MethodName) (⟨"TaleCourt$Survey", "firstWith", "(II)I"⟩ : MethodName)) ∈ tbG := List.mem_filter.mpr ⟨List.mem_of_getElem? (i := 28) (by decide +kernel), rfl⟩
theorem mw_29 : (Cond.selects "TaleCourt" (⟨"TaleCourt", "wholesWithout", "(I)I"⟩ : MethodName) (⟨"TaleCourt", "wholesWithout", "(I)I"⟩ : MethodName)) ∈ tbG := List.mem_filter.mpr ⟨List.mem_of_getElem? (i := 29) (by decide +kernel), rfl⟩
theorem mw_30 : (Cond.selects "TaleCourt" (⟨"TaleCourt", "gameBar", "()I"⟩ : MethodName) (⟨"TaleCourt", "gameBar", "()I"⟩ : MethodName)) ∈ tbG := List.mem_filter.mpr ⟨List.mem_of_getElem? (i := 30) (by decide +kernel), rfl⟩
theorem mw_31 : (Cond.selects "TaleCourt$Game" (⟨"TaleCourt$Game", "solve", "(I)I"⟩ : MethodName) (⟨"TaleCourt$Game", "solve", "(I)I"⟩ : MethodName)) ∈ tbG := List.mem_filter.mpr ⟨List.mem_of_getElem? (i := 31) (by decide +kernel), rfl⟩
theorem mw_32 : (Cond.selects "TaleCourt$Game" (⟨"TaleCourt$Game", "position", "()I"⟩ : MethodName) (⟨"TaleCourt$Game", "position", "()I"⟩ : MethodName)) ∈ tbG := List.mem_filter.mpr ⟨List.mem_of_getElem? (i := 32) (by decide +kernel), rfl⟩
theorem mw_33 : (Cond.selects "TaleCourt$Game" (⟨"TaleCourt$Game", "movesNow", "()I"⟩ : MethodName) (⟨"TaleCourt$Game", "movesNow", "()I"⟩ : MethodName)) ∈ tbG := List.mem_filter.mpr ⟨List.mem_of_getElem? (i := 33) (by decide +kernel), rfl⟩
theorem mw_34 : (Cond.selects "TaleCourt$Game" (⟨"TaleCourt$Game", "play", "(I)V"⟩ : MethodName) (⟨"TaleCourt$Game", "play", "(I)V"⟩ : MethodName)) ∈ tbG := List.mem_filter.mpr ⟨List.mem_of_getElem? (i := 34) (by decide +kernel), rfl⟩
theorem mw_35 : (Cond.selects "TaleCourt" (⟨"TaleCourt", "tradeWins", "(II)Z"⟩ : MethodName) (⟨"TaleCourt", "tradeWins", "(II)Z"⟩ : MethodName)) ∈ tbG := List.mem_filter.mpr ⟨List.mem_of_getElem? (i := 35) (by decide +kernel), rfl⟩
theorem mw_36 : (Cond.selects "TaleCourt" (⟨"TaleCourt", "slotBar", "(I)I"⟩ : MethodName) (⟨"TaleCourt", "slotBar", "(I)I"⟩ : MethodName)) ∈ tbG := List.mem_filter.mpr ⟨List.mem_of_getElem? (i := 36) (by decide +kernel), rfl⟩
theorem mw_37 : (Cond.selects "TaleCourt" (⟨"TaleCourt", "retell", "(LTaleCourt$Row;)I"⟩ : MethodName) (⟨"TaleCourt", "retell", "(LTaleCourt$Row;)I"⟩ : MethodName)) ∈ tbG := List.mem_filter.mpr ⟨List.mem_of_getElem? (i := 37) (by decide +kernel), rfl⟩
theorem mw_38 : (Cond.selects "TaleCourt" (⟨"TaleCourt", "retellTurn", "(J)I"⟩ : MethodName) (⟨"TaleCourt", "retellTurn", "(J)I"⟩ : MethodName)) ∈ tbG := List.mem_filter.mpr ⟨List.mem_of_getElem? (i := 38) (by decide +kernel), rfl⟩
theorem mw_39 : (Cond.selects "TaleCourt" (⟨"TaleCourt", "claimsBar", "(II)I"⟩ : MethodName) (⟨"TaleCourt", "claimsBar", "(II)I"⟩ : MethodName)) ∈ tbG := List.mem_filter.mpr ⟨List.mem_of_getElem? (i := 39) (by decide +kernel), rfl⟩
theorem mw_40 : (Cond.selects "TaleCourt$Claims" (⟨"TaleCourt$Claims", "note", "(III)V"⟩ : MethodName) (⟨"TaleCourt$Claims", "note", "(III)V"⟩ : MethodName)) ∈ tbG := List.mem_filter.mpr ⟨List.mem_of_getElem? (i := 40) (by decide +kernel), rfl⟩
theorem mw_41 : (Cond.selects "TaleCourt$Claims" (⟨"TaleCourt$Claims", "untrueBehind", "(II)I"⟩ : MethodName) (⟨"TaleCourt$Claims", "untrueBehind", "(II)I"⟩ : MethodName)) ∈ tbG := List.mem_filter.mpr ⟨List.mem_of_getElem? (i := 41) (by decide +kernel), rfl⟩
theorem mw_42 : (Cond.selects "TaleCourt$Claims" (⟨"TaleCourt$Claims", "reach", "(III)V"⟩ : MethodName) (⟨"TaleCourt$Claims", "reach", "(III)V"⟩ : MethodName)) ∈ tbG := List.mem_filter.mpr ⟨List.mem_of_getElem? (i := 42) (by decide +kernel), rfl⟩
theorem mw_43 : (Cond.selects "TaleCourt$Claims" (⟨"TaleCourt$Claims", "canBeTrueWithout", "(I)Z"⟩ : MethodName) (⟨"TaleCourt$Claims", "canBeTrueWithout", "(I)Z"⟩ : MethodName)) ∈ tbG := List.mem_filter.mpr ⟨List.mem_of_getElem? (i := 43) (by decide +kernel), rfl⟩
theorem mw_44 : (Cond.selects "TaleCourt" (⟨"TaleCourt", "mayDraw", "(I)Z"⟩ : MethodName) (⟨"TaleCourt", "mayDraw", "(I)Z"⟩ : MethodName)) ∈ tbG := List.mem_filter.mpr ⟨List.mem_of_getElem? (i := 44) (by decide +kernel), rfl⟩
theorem mw_45 : (Cond.selects "TaleCourt" (⟨"TaleCourt", "drawFrom", "(I)V"⟩ : MethodName) (⟨"TaleCourt", "drawFrom", "(I)V"⟩ : MethodName)) ∈ tbG := List.mem_filter.mpr ⟨List.mem_of_getElem? (i := 45) (by decide +kernel), rfl⟩
theorem mw_46 : (Cond.selects "TaleCourt" (⟨"TaleCourt", "slotsInUse", "()I"⟩ : MethodName) (⟨"TaleCourt", "slotsInUse", "()I"⟩ : MethodName)) ∈ tbG := List.mem_filter.mpr ⟨List.mem_of_getElem? (i := 46) (by decide +kernel), rfl⟩
theorem mw_47 : (Cond.selects "TaleCourtModel" (⟨"TaleCourtModel", "four", "(I)V"⟩ : MethodName) (⟨"TaleCourtModel", "four", "(I)V"⟩ : MethodName)) ∈ tbG := List.mem_filter.mpr ⟨List.mem_of_getElem? (i := 47) (by decide +kernel), rfl⟩
theorem mw_48 : (Cond.selects "TaleCourtModel" (⟨"TaleCourtModel", "clears", "()V"⟩ : MethodName) (⟨"TaleCourtModel", "clears", "()V"⟩ : MethodName)) ∈ tbG := List.mem_filter.mpr ⟨List.mem_of_getElem? (i := 48) (by decide +kernel), rfl⟩
theorem mw_49 : (Cond.selects "TaleCourtModel" (⟨"TaleCourtModel", "begins", "()V"⟩ : MethodName) (⟨"TaleCourtModel", "begins", "()V"⟩ : MethodName)) ∈ tbG := List.mem_filter.mpr ⟨List.mem_of_getElem? (i := 49) (by decide +kernel), rfl⟩
theorem mw_50 : (Cond.selects "TaleCourtModel" (⟨"TaleCourtModel", "next", "()V"⟩ : MethodName) (⟨"TaleCourtModel", "next", "()V"⟩ : MethodName)) ∈ tbG := List.mem_filter.mpr ⟨List.mem_of_getElem? (i := 50) (by decide +kernel), rfl⟩
theorem mw_51 : (Cond.selects "TaleCourtModel" (⟨"TaleCourtModel", "isByte", "(III)Z"⟩ : MethodName) (⟨"TaleCourtModel", "isByte", "(III)Z"⟩ : MethodName)) ∈ tbG := List.mem_filter.mpr ⟨List.mem_of_getElem? (i := 51) (by decide +kernel), rfl⟩
theorem mw_52 : (Cond.selects "TaleCourtModel" (⟨"TaleCourtModel", "isGood", "()Z"⟩ : MethodName) (⟨"TaleCourtModel", "isGood", "()Z"⟩ : MethodName)) ∈ tbG := List.mem_filter.mpr ⟨List.mem_of_getElem? (i := 52) (by decide +kernel), rfl⟩
theorem mw_53 : (Cond.selects "TaleCourtModel" (⟨"TaleCourtModel", "asks", "(J)V"⟩ : MethodName) (⟨"TaleCourtModel", "asks", "(J)V"⟩ : MethodName)) ∈ tbG := List.mem_filter.mpr ⟨List.mem_of_getElem? (i := 53) (by decide +kernel), rfl⟩
theorem mw_54 : (Cond.selects "TaleCourtModel" (⟨"TaleCourtModel", "takes", "(J)Z"⟩ : MethodName) (⟨"TaleCourtModel", "takes", "(J)Z"⟩ : MethodName)) ∈ tbG := List.mem_filter.mpr ⟨List.mem_of_getElem? (i := 54) (by decide +kernel), rfl⟩
theorem mw_55 : (Cond.selects "TaleCourtModel" (⟨"TaleCourtModel", "is", "(J)Z"⟩ : MethodName) (⟨"TaleCourtModel", "is", "(J)Z"⟩ : MethodName)) ∈ tbG := List.mem_filter.mpr ⟨List.mem_of_getElem? (i := 55) (by decide +kernel), rfl⟩
theorem mw_56 : (Cond.selects "TaleCourtModel" (⟨"TaleCourtModel", "fails", "(I)V"⟩ : MethodName) (⟨"TaleCourtModel", "fails", "(I)V"⟩ : MethodName)) ∈ tbG := List.mem_filter.mpr ⟨List.mem_of_getElem? (i := 56) (by decide +kernel), rfl⟩
theorem mw_57 : (Cond.selects "TaleCourtModel" (⟨"TaleCourtModel", "number", "(JII)I"⟩ : MethodName) (⟨"TaleCourtModel", "number", "(JII)I"⟩ : MethodName)) ∈ tbG := List.mem_filter.mpr ⟨List.mem_of_getElem? (i := 57) (by decide +kernel), rfl⟩
theorem mw_58 : (Cond.selects "TaleCourtModel" (⟨"TaleCourtModel", "number", "(II)I"⟩ : MethodName) (⟨"TaleCourtModel", "number", "(II)I"⟩ : MethodName)) ∈ tbG := List.mem_filter.mpr ⟨List.mem_of_getElem? (i := 58) (by decide +kernel), rfl⟩
theorem mw_59 : (Cond.selects "TaleCourtModel" (⟨"TaleCourtModel", "line", "()V"⟩ : MethodName) (⟨"TaleCourtModel", "line", "()V"⟩ : MethodName)) ∈ tbG := List.mem_filter.mpr ⟨List.mem_of_getElem? (i := 59) (by decide +kernel), rfl⟩
theorem mw_60 : (Cond.selects "TaleCourtModel" (⟨"TaleCourtModel", "hasRead", "(I)I"⟩ : MethodName) (⟨"TaleCourtModel", "hasRead", "(I)I"⟩ : MethodName)) ∈ tbG := List.mem_filter.mpr ⟨List.mem_of_getElem? (i := 60) (by decide +kernel), rfl⟩
theorem mw_61 : (Cond.selects "TaleCourtModel" (⟨"TaleCourtModel", "motifLine", "()V"⟩ : MethodName) (⟨"TaleCourtModel", "motifLine", "()V"⟩ : MethodName)) ∈ tbG := List.mem_filter.mpr ⟨List.mem_of_getElem? (i := 61) (by decide +kernel), rfl⟩
theorem mw_62 : (Cond.selects "TaleCourtModel" (⟨"TaleCourtModel", "placeRead", "(I)I"⟩ : MethodName) (⟨"TaleCourtModel", "placeRead", "(I)I"⟩ : MethodName)) ∈ tbG := List.mem_filter.mpr ⟨List.mem_of_getElem? (i := 62) (by decide +kernel), rfl⟩
theorem mw_63 : (Cond.selects "TaleCourtModel" (⟨"TaleCourtModel", "listenerLine", "()V"⟩ : MethodName) (⟨"TaleCourtModel", "listenerLine", "()V"⟩ : MethodName)) ∈ tbG := List.mem_filter.mpr ⟨List.mem_of_getElem? (i := 63) (by decide +kernel), rfl⟩
theorem mw_64 : (Cond.selects "TaleCourtModel" (⟨"TaleCourtModel", "motifHere", "()I"⟩ : MethodName) (⟨"TaleCourtModel", "motifHere", "()I"⟩ : MethodName)) ∈ tbG := List.mem_filter.mpr ⟨List.mem_of_getElem? (i := 64) (by decide +kernel), rfl⟩
theorem mw_65 : (Cond.selects "TaleCourtModel" (⟨"TaleCourtModel", "pairLine", "(Z)V"⟩ : MethodName) (⟨"TaleCourtModel", "pairLine", "(Z)V"⟩ : MethodName)) ∈ tbG := List.mem_filter.mpr ⟨List.mem_of_getElem? (i := 65) (by decide +kernel), rfl⟩
theorem mw_66 : (Cond.selects "TaleCourtModel" (⟨"TaleCourtModel", "ends", "()V"⟩ : MethodName) (⟨"TaleCourtModel", "ends", "()V"⟩ : MethodName)) ∈ tbG := List.mem_filter.mpr ⟨List.mem_of_getElem? (i := 66) (by decide +kernel), rfl⟩
theorem mw_67 : (Cond.selects "TaleCourtModel" (⟨"TaleCourtModel", "isOver", "()V"⟩ : MethodName) (⟨"TaleCourtModel", "isOver", "()V"⟩ : MethodName)) ∈ tbG := List.mem_filter.mpr ⟨List.mem_of_getElem? (i := 67) (by decide +kernel), rfl⟩
theorem mw_68 : (Cond.selects "TaleCourtModel" (⟨"TaleCourtModel", "copyCourt", "(II)V"⟩ : MethodName) (⟨"TaleCourtModel", "copyCourt", "(II)V"⟩ : MethodName)) ∈ tbG := List.mem_filter.mpr ⟨List.mem_of_getElem? (i := 68) (by decide +kernel), rfl⟩
theorem mw_69 : (Cond.selects "TaleCourtModel" (⟨"TaleCourtModel", "lays", "()V"⟩ : MethodName) (⟨"TaleCourtModel", "lays", "()V"⟩ : MethodName)) ∈ tbG := List.mem_filter.mpr ⟨List.mem_of_getElem? (i := 69) (by decide +kernel), rfl⟩
theorem mw_70 : (Cond.selects "TaleCourtModel" (⟨"TaleCourtModel", "empties", "()V"⟩ : MethodName) (⟨"TaleCourtModel", "empties", "()V"⟩ : MethodName)) ∈ tbG := List.mem_filter.mpr ⟨List.mem_of_getElem? (i := 70) (by decide +kernel), rfl⟩
theorem mw_71 : (Cond.selects "TaleCourtModel" (⟨"TaleCourtModel", "puts", "(I)V"⟩ : MethodName) (⟨"TaleCourtModel", "puts", "(I)V"⟩ : MethodName)) ∈ tbG := List.mem_filter.mpr ⟨List.mem_of_getElem? (i := 71) (by decide +kernel), rfl⟩
theorem mw_72 : (Cond.selects "TaleCourtModel" (⟨"TaleCourtModel", "pointsOf", "(I)I"⟩ : MethodName) (⟨"TaleCourtModel", "pointsOf", "(I)I"⟩ : MethodName)) ∈ tbG := List.mem_filter.mpr ⟨List.mem_of_getElem? (i := 72) (by decide +kernel), rfl⟩
theorem mw_73 : (Cond.selects "TaleCourtModel" (⟨"TaleCourtModel", "of", "(II)I"⟩ : MethodName) (⟨"TaleCourtModel", "of", "(II)I"⟩ : MethodName)) ∈ tbG := List.mem_filter.mpr ⟨List.mem_of_getElem? (i := 73) (by decide +kernel), rfl⟩
theorem mw_74 : (Cond.selects "TaleCourtModel" (⟨"TaleCourtModel", "isMotif", "(J)Z"⟩ : MethodName) (⟨"TaleCourtModel", "isMotif", "(J)Z"⟩ : MethodName)) ∈ tbG := List.mem_filter.mpr ⟨List.mem_of_getElem? (i := 74) (by decide +kernel), rfl⟩
theorem mw_75 : (Cond.selects "TaleCourtModel" (⟨"TaleCourtModel", "whyNot", "(I)I"⟩ : MethodName) (⟨"TaleCourtModel", "whyNot", "(I)I"⟩ : MethodName)) ∈ tbG := List.mem_filter.mpr ⟨List.mem_of_getElem? (i := 75) (by decide +kernel), rfl⟩
theorem mw_76 : (Cond.selects "TaleCourtModel" (⟨"TaleCourtModel", "joinsOn", "(I)Z"⟩ : MethodName) (⟨"TaleCourtModel", "joinsOn", "(I)Z"⟩ : MethodName)) ∈ tbG := List.mem_filter.mpr ⟨List.mem_of_getElem? (i := 76) (by decide +kernel), rfl⟩
theorem mw_77 : (Cond.selects "TaleCourtModel" (⟨"TaleCourtModel", "isLate", "(I)Z"⟩ : MethodName) (⟨"TaleCourtModel", "isLate", "(I)Z"⟩ : MethodName)) ∈ tbG := List.mem_filter.mpr ⟨List.mem_of_getElem? (i := 77) (by decide +kernel), rfl⟩
theorem mw_78 : (Cond.selects "TaleCourtModel" (⟨"TaleCourtModel", "keepsTale", "()V"⟩ : MethodName) (⟨"TaleCourtModel", "keepsTale", "()V"⟩ : MethodName)) ∈ tbG := List.mem_filter.mpr ⟨List.mem_of_getElem? (i := 78) (by decide +kernel), rfl⟩
theorem mw_79 : (Cond.selects "TaleCourtModel" (⟨"TaleCourtModel", "isCourt", "()Z"⟩ : MethodName) (⟨"TaleCourtModel", "isCourt", "()Z"⟩ : MethodName)) ∈ tbG := List.mem_filter.mpr ⟨List.mem_of_getElem? (i := 79) (by decide +kernel), rfl⟩
theorem mw_80 : (Cond.selects "TaleCourtModel" (⟨"TaleCourtModel", "maySilence", "()Z"⟩ : MethodName) (⟨"TaleCourtModel", "maySilence", "()Z"⟩ : MethodName)) ∈ tbG := List.mem_filter.mpr ⟨List.mem_of_getElem? (i := 80) (by decide +kernel), rfl⟩
theorem mw_81 : (Cond.selects "TaleCourtModel" (⟨"TaleCourtModel", "mayNow", "()I"⟩ : MethodName) (⟨"TaleCourtModel", "mayNow", "()I"⟩ : MethodName)) ∈ tbG := List.mem_filter.mpr ⟨List.mem_of_getElem? (i := 81) (by decide +kernel), rfl⟩
theorem mw_82 : (Cond.selects "TaleCourtModel" (⟨"TaleCourtModel", "owedNow", "()I"⟩ : MethodName) (⟨"TaleCourtModel", "owedNow", "()I"⟩ : MethodName)) ∈ tbG := List.mem_filter.mpr ⟨List.mem_of_getElem? (i := 82) (by decide +kernel), rfl⟩
theorem mw_83 : (Cond.selects "TaleCourtModel" (⟨"TaleCourtModel", "isWhole", "()Z"⟩ : MethodName) (⟨"TaleCourtModel", "isWhole", "()Z"⟩ : MethodName)) ∈ tbG := List.mem_filter.mpr ⟨List.mem_of_getElem? (i := 83) (by decide +kernel), rfl⟩
theorem mw_84 : (Cond.selects "TaleCourtModel" (⟨"TaleCourtModel", "isTeller", "(I)Z"⟩ : MethodName) (⟨"TaleCourtModel", "isTeller", "(I)Z"⟩ : MethodName)) ∈ tbG := List.mem_filter.mpr ⟨List.mem_of_getElem? (i := 84) (by decide +kernel), rfl⟩
theorem mw_85 : (Cond.selects "TaleCourtModel" (⟨"TaleCourtModel", "goesAll", "(III)V"⟩ : MethodName) (⟨"TaleCourtModel", "goesAll", "(III)V"⟩ : MethodName)) ∈ tbG := List.mem_filter.mpr ⟨List.mem_of_getElem? (i := 85) (by decide +kernel), rfl⟩
theorem mw_86 : (Cond.selects "TaleCourtModel" (⟨"TaleCourtModel", "goes", "()V"⟩ : MethodName) (⟨"TaleCourtModel", "goes", "()V"⟩ : MethodName)) ∈ tbG := List.mem_filter.mpr ⟨List.mem_of_getElem? (i := 86) (by decide +kernel), rfl⟩
theorem mw_87 : (Cond.selects "TaleCourtModel" (⟨"TaleCourtModel", "meets", "()V"⟩ : MethodName) (⟨"TaleCourtModel", "meets", "()V"⟩ : MethodName)) ∈ tbG := List.mem_filter.mpr ⟨List.mem_of_getElem? (i := 87) (by decide +kernel), rfl⟩
theorem mw_88 : (Cond.selects "TaleCourtModel" (⟨"TaleCourtModel", "isFit", "()Z"⟩ : MethodName) (⟨"TaleCourtModel", "isFit", "()Z"⟩ : MethodName)) ∈ tbG := List.mem_filter.mpr ⟨List.mem_of_getElem? (i := 88) (by decide +kernel), rfl⟩
theorem mw_89 : (Cond.selects "TaleCourtModel" (⟨"TaleCourtModel", "cellOf", "(II)I"⟩ : MethodName) (⟨"TaleCourtModel", "cellOf", "(II)I"⟩ : MethodName)) ∈ tbG := List.mem_filter.mpr ⟨List.mem_of_getElem? (i := 89) (by decide +kernel), rfl⟩
theorem mw_90 : (Cond.selects "TaleCourtModel" (⟨"TaleCourtModel", "isAhead", "(I)Z"⟩ : MethodName) (⟨"TaleCourtModel", "isAhead", "(I)Z"⟩ : MethodName)) ∈ tbG := List.mem_filter.mpr ⟨List.mem_of_getElem? (i := 90) (by decide +kernel), rfl⟩
theorem mw_91 : (Cond.selects "TaleCourtModel" (⟨"TaleCourtModel", "takesOff", "()V"⟩ : MethodName) (⟨"TaleCourtModel", "takesOff", "()V"⟩ : MethodName)) ∈ tbG := List.mem_filter.mpr ⟨List.mem_of_getElem? (i := 91) (by decide +kernel), rfl⟩
theorem mw_92 : (Cond.selects "TaleCourtModel" (⟨"TaleCourtModel", "bestAt", "(I)I"⟩ : MethodName) (⟨"TaleCourtModel", "bestAt", "(I)I"⟩ : MethodName)) ∈ tbG := List.mem_filter.mpr ⟨List.mem_of_getElem? (i := 92) (by decide +kernel), rfl⟩
theorem mw_93 : (Cond.selects "TaleCourtModel" (⟨"TaleCourtModel", "wholesNow", "()I"⟩ : MethodName) (⟨"TaleCourtModel", "wholesNow", "()I"⟩ : MethodName)) ∈ tbG := List.mem_filter.mpr ⟨List.mem_of_getElem? (i := 93) (by decide +kernel), rfl⟩
theorem mw_94 : (Cond.selects "TaleCourtModel" (⟨"TaleCourtModel", "whyNoGame", "()I"⟩ : MethodName) (⟨"TaleCourtModel", "whyNoGame", "()I"⟩ : MethodName)) ∈ tbG := List.mem_filter.mpr ⟨List.mem_of_getElem? (i := 94) (by decide +kernel), rfl⟩
theorem mw_95 : (Cond.selects "TaleCourtModel" (⟨"TaleCourtModel", "outcomeNow", "()I"⟩ : MethodName) (⟨"TaleCourtModel", "outcomeNow", "()I"⟩ : MethodName)) ∈ tbG := List.mem_filter.mpr ⟨List.mem_of_getElem? (i := 95) (by decide +kernel), rfl⟩
theorem mw_96 : (Cond.selects "TaleCourtModel" (⟨"TaleCourtModel", "startsGame", "()V"⟩ : MethodName) (⟨"TaleCourtModel", "startsGame", "()V"⟩ : MethodName)) ∈ tbG := List.mem_filter.mpr ⟨List.mem_of_getElem? (i := 96) (by decide +kernel), rfl⟩
theorem mw_97 : (Cond.selects "TaleCourtModel" (⟨"TaleCourtModel", "plays", "(IIIII)I"⟩ : MethodName) (⟨"TaleCourtModel", "plays", "(IIIII)I"⟩ : MethodName)) ∈ tbG := List.mem_filter.mpr ⟨List.mem_of_getElem? (i := 97) (by decide +kernel), rfl⟩
theorem mw_98 : (Cond.selects "TaleCourtModel" (⟨"TaleCourtModel", "stateOf", "(IIIII)I"⟩ : MethodName) (⟨"TaleCourtModel", "stateOf", "(IIIII)I"⟩ : MethodName)) ∈ tbG := List.mem_filter.mpr ⟨List.mem_of_getElem? (i := 98) (by decide +kernel), rfl⟩
theorem mw_99 : (Cond.selects "TaleCourtModel" (⟨"TaleCourtModel", "act", "(IIIIII)I"⟩ : MethodName) (⟨"TaleCourtModel", "act", "(IIIIII)I"⟩ : MethodName)) ∈ tbG := List.mem_filter.mpr ⟨List.mem_of_getElem? (i := 99) (by decide +kernel), rfl⟩
theorem mw_100 : (Cond.selects "TaleCourtModel" (⟨"TaleCourtModel", "mayPlay", "(IIII)Z"⟩ : MethodName) (⟨"TaleCourtModel", "mayPlay", "(IIII)Z"⟩ : MethodName)) ∈ tbG := List.mem_filter.mpr ⟨List.mem_of_getElem? (i := 100) (by decide +kernel), rfl⟩
theorem mw_101 : (Cond.selects "TaleCourtModel" (⟨"TaleCourtModel", "winsBy", "(I)Z"⟩ : MethodName) (⟨"TaleCourtModel", "winsBy", "(I)Z"⟩ : MethodName)) ∈ tbG := List.mem_filter.mpr ⟨List.mem_of_getElem? (i := 101) (by decide +kernel), rfl⟩
theorem mw_102 : (Cond.selects "TaleCourtModel" (⟨"TaleCourtModel", "changes", "(II)V"⟩ : MethodName) (⟨"TaleCourtModel", "changes", "(II)V"⟩ : MethodName)) ∈ tbG := List.mem_filter.mpr ⟨List.mem_of_getElem? (i := 102) (by decide +kernel), rfl⟩
theorem mw_103 : (Cond.selects "TaleCourtModel" (⟨"TaleCourtModel", "wholesWithout", "(I)I"⟩ : MethodName) (⟨"TaleCourtModel", "wholesWithout", "(I)I"⟩ : MethodName)) ∈ tbG := List.mem_filter.mpr ⟨List.mem_of_getElem? (i := 103) (by decide +kernel), rfl⟩
theorem mw_104 : (Cond.selects "TaleCourtModel" (⟨"TaleCourtModel", "whyNoRow", "(I)I"⟩ : MethodName) (⟨"TaleCourtModel", "whyNoRow", "(I)I"⟩ : MethodName)) ∈ tbG := List.mem_filter.mpr ⟨List.mem_of_getElem? (i := 104) (by decide +kernel), rfl⟩
theorem mw_105 : (Cond.selects "TaleCourtModel" (⟨"TaleCourtModel", "judges", "(I)I"⟩ : MethodName) (⟨"TaleCourtModel", "judges", "(I)I"⟩ : MethodName)) ∈ tbG := List.mem_filter.mpr ⟨List.mem_of_getElem? (i := 105) (by decide +kernel), rfl⟩
theorem mw_106 : (Cond.selects "TaleCourtModel" (⟨"TaleCourtModel", "whyNotTold", "(II)I"⟩ : MethodName) (⟨"TaleCourtModel", "whyNotTold", "(II)I"⟩ : MethodName)) ∈ tbG := List.mem_filter.mpr ⟨List.mem_of_getElem? (i := 106) (by decide +kernel), rfl⟩
theorem mw_107 : (Cond.selects "TaleCourtModel" (⟨"TaleCourtModel", "laysUntrue", "(III)V"⟩ : MethodName) (⟨"TaleCourtModel", "laysUntrue", "(III)V"⟩ : MethodName)) ∈ tbG := List.mem_filter.mpr ⟨List.mem_of_getElem? (i := 107) (by decide +kernel), rfl⟩
theorem mw_108 : (Cond.selects "TaleCourtModel" (⟨"TaleCourtModel", "liarsOf", "(I)I"⟩ : MethodName) (⟨"TaleCourtModel", "liarsOf", "(I)I"⟩ : MethodName)) ∈ tbG := List.mem_filter.mpr ⟨List.mem_of_getElem? (i := 108) (by decide +kernel), rfl⟩
theorem mw_109 : (Cond.selects "TaleCourtModel" (⟨"TaleCourtModel", "areMotifs", "(I)Z"⟩ : MethodName) (⟨"TaleCourtModel", "areMotifs", "(I)Z"⟩ : MethodName)) ∈ tbG := List.mem_filter.mpr ⟨List.mem_of_getElem? (i := 109) (by decide +kernel), rfl⟩
theorem mw_110 : (Cond.selects "TaleCourtModel" (⟨"TaleCourtModel", "tasteOf", "(II)I"⟩ : MethodName) (⟨"TaleCourtModel", "tasteOf", "(II)I"⟩ : MethodName)) ∈ tbG := List.mem_filter.mpr ⟨List.mem_of_getElem? (i := 110) (by decide +kernel), rfl⟩
theorem mw_111 : (Cond.selects "TaleCourtModel" (⟨"TaleCourtModel", "isSeed", "(I)Z"⟩ : MethodName) (⟨"TaleCourtModel", "isSeed", "(I)Z"⟩ : MethodName)) ∈ tbG := List.mem_filter.mpr ⟨List.mem_of_getElem? (i := 111) (by decide +kernel), rfl⟩
theorem mw_112 : (Cond.selects "TaleCourtModel" (⟨"TaleCourtModel", "draws", "(J)V"⟩ : MethodName) (⟨"TaleCourtModel", "draws", "(J)V"⟩ : MethodName)) ∈ tbG := List.mem_filter.mpr ⟨List.mem_of_getElem? (i := 112) (by decide +kernel), rfl⟩
theorem mw_113 : (Jvm.Cond.initialized "TaleCourtLaw") ∈ tbG := mt_1 (List.mem_of_getElem? (i := 0) (by decide +kernel)) rfl
theorem mw_114 : (Jvm.Cond.initialized "TaleCourt") ∈ tbG := mt_1 (List.mem_of_getElem? (i := 1) (by decide +kernel)) rfl
theorem mw_115 : (Jvm.Cond.initialized "TaleCourt$Reader") ∈ tbG := mt_1 (List.mem_of_getElem? (i := 2) (by decide +kernel)) rfl
theorem mw_116 : (Jvm.Cond.initialized "TaleCourt$Court") ∈ tbG := mt_1 (List.mem_of_getElem? (i := 3) (by decide +kernel)) rfl
theorem mw_117 : (Jvm.Cond.initialized "TaleCourt$Telling") ∈ tbG := mt_1 (List.mem_of_getElem? (i := 4) (by decide +kernel)) rfl
theorem mw_118 : (Jvm.Cond.initialized "TaleCourt$Claims") ∈ tbG := mt_1 (List.mem_of_getElem? (i := 5) (by decide +kernel)) rfl
theorem mw_119 : (Jvm.Cond.initialized "TaleCourt$Survey") ∈ tbG := mt_1 (List.mem_of_getElem? (i := 6) (by decide +kernel)) rfl
theorem mw_120 : (Jvm.Cond.initialized "TaleCourt$Game") ∈ tbG := mt_1 (List.mem_of_getElem? (i := 7) (by decide +kernel)) rfl
theorem mw_121 : (Jvm.Cond.initialized "TaleCourt$Row") ∈ tbG := mt_1 (List.mem_of_getElem? (i := 8) (by decide +kernel)) rfl
theorem mw_122 : (Jvm.Cond.initialized "TaleCourt$Image") ∈ tbG := mt_1 (List.mem_of_getElem? (i := 9) (by decide +kernel)) rfl
theorem mw_123 : (Jvm.Cond.initialized "TaleCourtModel") ∈ tbG := mt_1 (List.mem_of_getElem? (i := 10) (by decide +kernel)) rfl
theorem mw_124 : (Jvm.Cond.initialized "java/util/Arrays") ∈ tbG := mt_1 (List.mem_of_getElem? (i := 11) (by decide +kernel)) rfl
theorem mw_125 : (Jvm.Cond.initialized "java/lang/String") ∈ tbG := mt_1 (List.mem_of_getElem? (i := 12) (by decide +kernel)) rfl
theorem mw_126 : (Jvm.Cond.initialized "java/lang/StringLatin1") ∈ tbG := mt_1 (List.mem_of_getElem? (i := 13) (by decide +kernel)) rfl
theorem mw_127 : (Jvm.Cond.initialized "jdk/internal/util/Preconditions") ∈ tbG := mt_1 (List.mem_of_getElem? (i := 14) (by decide +kernel)) rfl
theorem mw_128 : (Jvm.Cond.initialized "java/lang/StringUTF16") ∈ tbG := mt_1 (List.mem_of_getElem? (i := 15) (by decide +kernel)) rfl
theorem mw_129 : (Jvm.Cond.initialized "java/lang/Math") ∈ tbG := mt_1 (List.mem_of_getElem? (i := 16) (by decide +kernel)) rfl
theorem mw_130 : (Jvm.Cond.initialized "java/lang/System") ∈ tbG := mt_1 (List.mem_of_getElem? (i := 17) (by decide +kernel)) rfl
theorem mw_131 : (Jvm.Cond.initialized "java/lang/Integer") ∈ tbG := mt_1 (List.mem_of_getElem? (i := 18) (by decide +kernel)) rfl
theorem mw_132 : (Jvm.Cond.classLink "TaleCourtLaw" (7 : Nat) "TaleCourt") ∈ tbG := mt_1 (List.mem_of_getElem? (i := 19) (by decide +kernel)) rfl
theorem mw_133 : (Jvm.Cond.instantiable "TaleCourt" (10 : Nat)) ∈ tbG := mt_1 (List.mem_of_getElem? (i := 20) (by decide +kernel)) rfl
theorem mw_134 : (Jvm.Cond.methodLink "TaleCourtLaw" (9 : Nat) ({ cls := "TaleCourt", name := "<init>", desc := "()V" } : Jvm.MethodName)) ∈ tbG := mt_1 (List.mem_of_getElem? (i := 21) (by decide +kernel)) rfl
theorem mw_135 : (Jvm.Cond.instanceMethod ({ cls := "TaleCourt", name := "<init>", desc := "()V" } : Jvm.MethodName)) ∈ tbG := mt_1 (List.mem_of_getElem? (i := 22) (by decide +kernel)) rfl
theorem mw_136 : (Jvm.Cond.code ({ cls := "TaleCourt", name := "<init>", desc := "()V" } : Jvm.MethodName) prog_1_method_1_code (2 : Nat) (Option.none : Option Jvm.ClassFile.FieldType)) ∈ tbG := mt_1 (List.mem_of_getElem? (i := 23) (by decide +kernel)) rfl
theorem mw_137 : (Jvm.Cond.methodLink "TaleCourt" (3 : Nat) ({ cls := "java/lang/Object", name := "<init>", desc := "()V" } : Jvm.MethodName)) ∈ tbG := mt_1 (List.mem_of_getElem? (i := 24) (by decide +kernel)) rfl
theorem mw_138 : (Jvm.Cond.instanceMethod ({ cls := "java/lang/Object", name := "<init>", desc := "()V" } : Jvm.MethodName)) ∈ tbG := mt_1 (List.mem_of_getElem? (i := 25) (by decide +kernel)) rfl
theorem mw_139 : (Jvm.Cond.code ({ cls := "java/lang/Object", name := "<init>", desc := "()V" } : Jvm.MethodName) object_method_1_code (1 : Nat) (Option.none : Option Jvm.ClassFile.FieldType)) ∈ tbG := mt_1 (List.mem_of_getElem? (i := 26) (by decide +kernel)) rfl
theorem mw_140 : (Jvm.Cond.classLink "TaleCourt" (9 : Nat) "TaleCourt$Reader") ∈ tbG := mt_1 (List.mem_of_getElem? (i := 27) (by decide +kernel)) rfl
theorem mw_141 : (Jvm.Cond.instantiable "TaleCourt$Reader" (7 : Nat)) ∈ tbG := mt_1 (List.mem_of_getElem? (i := 28) (by decide +kernel)) rfl
theorem mn_142 : (Jvm.Cond.methodLinkNest "TaleCourt" (11 : Nat) ({ cls := "TaleCourt$Reader", name := "<init>", desc := "()V" } : Jvm.MethodName) "TaleCourt") ∈ lw_tbl := List.mem_of_getElem? (i := 142) (by decide +kernel)
theorem mw_143 : (Jvm.Cond.instanceMethod ({ cls := "TaleCourt$Reader", name := "<init>", desc := "()V" } : Jvm.MethodName)) ∈ tbG := mt_1 (List.mem_of_getElem? (i := 30) (by decide +kernel)) rfl
theorem mw_144 : (Jvm.Cond.code ({ cls := "TaleCourt$Reader", name := "<init>", desc := "()V" } : Jvm.MethodName) prog_6_method_1_code (1 : Nat) (Option.none : Option Jvm.ClassFile.FieldType)) ∈ tbG := mt_1 (List.mem_of_getElem? (i := 31) (by decide +kernel)) rfl
theorem mw_145 : (Jvm.Cond.methodLink "TaleCourt$Reader" (3 : Nat) ({ cls := "java/lang/Object", name := "<init>", desc := "()V" } : Jvm.MethodName)) ∈ tbG := mt_1 (List.mem_of_getElem? (i := 32) (by decide +kernel)) rfl
theorem mw_146 : (Jvm.Cond.fieldLink "TaleCourt$Reader" (19 : Nat) "TaleCourt$Reader" "size" "I") ∈ tbG := mt_1 (List.mem_of_getElem? (i := 33) (by decide +kernel)) rfl
theorem mw_147 : (Jvm.Cond.fieldLink "TaleCourt" (75 : Nat) "TaleCourt$Reader" "size" "I") ∈ tbG := mt_1 (List.mem_of_getElem? (i := 34) (by decide +kernel)) rfl
theorem mw_148 : (Jvm.Cond.fieldLink "TaleCourt$Reader" (27 : Nat) "TaleCourt$Reader" "fault" "I") ∈ tbG := mt_1 (List.mem_of_getElem? (i := 35) (by decide +kernel)) rfl
theorem mw_149 : (Jvm.Cond.fieldLink "TaleCourt" (96 : Nat) "TaleCourt$Reader" "fault" "I") ∈ tbG := mt_1 (List.mem_of_getElem? (i := 36) (by decide +kernel)) rfl
theorem mw_150 : (Jvm.Cond.fieldLink "TaleCourt$Reader" (9 : Nat) "TaleCourt$Reader" "place" "I") ∈ tbG := mt_1 (List.mem_of_getElem? (i := 37) (by decide +kernel)) rfl
theorem mw_151 : (Jvm.Cond.fieldLink "TaleCourt" (99 : Nat) "TaleCourt$Reader" "place" "I") ∈ tbG := mt_1 (List.mem_of_getElem? (i := 38) (by decide +kernel)) rfl
theorem mw_152 : (Jvm.Cond.fieldLink "TaleCourt$Reader" (15 : Nat) "TaleCourt$Reader" "bytes" "[B") ∈ tbG := mt_1 (List.mem_of_getElem? (i := 39) (by decide +kernel)) rfl
theorem mw_153 : (Jvm.Cond.fieldLink "TaleCourt$Reader" (172 : Nat) "TaleCourt$Reader" "start" "I") ∈ tbG := mt_1 (List.mem_of_getElem? (i := 40) (by decide +kernel)) rfl
theorem mw_154 : (Jvm.Cond.fieldLink "TaleCourt$Reader" (30 : Nat) "TaleCourt$Reader" "stop" "I") ∈ tbG := mt_1 (List.mem_of_getElem? (i := 41) (by decide +kernel)) rfl
theorem mw_155 : (Jvm.Cond.fieldLink "TaleCourt$Reader" (36 : Nat) "TaleCourt$Reader" "kind" "I") ∈ tbG := mt_1 (List.mem_of_getElem? (i := 42) (by decide +kernel)) rfl
theorem mw_156 : (Jvm.Cond.lays "TaleCourt$Reader" "TaleCourt$Reader" "size" "I") ∈ tbG := mt_1 (List.mem_of_getElem? (i := 43) (by decide +kernel)) rfl
theorem mw_158 : (Jvm.Cond.lays "TaleCourt$Reader" "TaleCourt$Reader" "fault" "I") ∈ tbG := mt_1 (List.mem_of_getElem? (i := 45) (by decide +kernel)) rfl
theorem mw_160 : (Jvm.Cond.lays "TaleCourt$Reader" "TaleCourt$Reader" "place" "I") ∈ tbG := mt_1 (List.mem_of_getElem? (i := 47) (by decide +kernel)) rfl
theorem mw_162 : (Jvm.Cond.laysFinal "TaleCourt$Reader" "TaleCourt$Reader" "bytes" "[B") ∈ tbG := mt_1 (List.mem_of_getElem? (i := 49) (by decide +kernel)) rfl
theorem mw_164 : (Jvm.Cond.lays "TaleCourt$Reader" "TaleCourt$Reader" "start" "I") ∈ tbG := mt_1 (List.mem_of_getElem? (i := 51) (by decide +kernel)) rfl
theorem mw_166 : (Jvm.Cond.lays "TaleCourt$Reader" "TaleCourt$Reader" "stop" "I") ∈ tbG := mt_1 (List.mem_of_getElem? (i := 53) (by decide +kernel)) rfl
theorem mw_168 : (Jvm.Cond.lays "TaleCourt$Reader" "TaleCourt$Reader" "kind" "I") ∈ tbG := mt_1 (List.mem_of_getElem? (i := 55) (by decide +kernel)) rfl
theorem mw_171 : (Jvm.Cond.arrayClass Jvm.ClassFile.FieldType.byte) ∈ tbG := mt_1 (List.mem_of_getElem? (i := 58) (by decide +kernel)) rfl
theorem mw_172 : (Jvm.Cond.classLink "TaleCourt" (16 : Nat) "TaleCourt$Court") ∈ tbG := mt_1 (List.mem_of_getElem? (i := 59) (by decide +kernel)) rfl
theorem mw_173 : (Jvm.Cond.instantiable "TaleCourt$Court" (20 : Nat)) ∈ tbG := mt_1 (List.mem_of_getElem? (i := 60) (by decide +kernel)) rfl
theorem mn_174 : (Jvm.Cond.methodLinkNest "TaleCourt" (18 : Nat) ({ cls := "TaleCourt$Court", name := "<init>", desc := "()V" } : Jvm.MethodName) "TaleCourt") ∈ lw_tbl := List.mem_of_getElem? (i := 174) (by decide +kernel)
theorem mw_175 : (Jvm.Cond.instanceMethod ({ cls := "TaleCourt$Court", name := "<init>", desc := "()V" } : Jvm.MethodName)) ∈ tbG := mt_1 (List.mem_of_getElem? (i := 62) (by decide +kernel)) rfl
theorem mw_176 : (Jvm.Cond.code ({ cls := "TaleCourt$Court", name := "<init>", desc := "()V" } : Jvm.MethodName) prog_3_method_1_code (1 : Nat) (Option.none : Option Jvm.ClassFile.FieldType)) ∈ tbG := mt_1 (List.mem_of_getElem? (i := 63) (by decide +kernel)) rfl
theorem mw_177 : (Jvm.Cond.methodLink "TaleCourt$Court" (3 : Nat) ({ cls := "java/lang/Object", name := "<init>", desc := "()V" } : Jvm.MethodName)) ∈ tbG := mt_1 (List.mem_of_getElem? (i := 64) (by decide +kernel)) rfl
theorem mw_178 : (Jvm.Cond.fieldLink "TaleCourt$Court" (39 : Nat) "TaleCourt$Court" "tellers" "I") ∈ tbG := mt_1 (List.mem_of_getElem? (i := 65) (by decide +kernel)) rfl
theorem mw_179 : (Jvm.Cond.fieldLink "TaleCourt$Telling" (68 : Nat) "TaleCourt$Court" "tellers" "I") ∈ tbG := mt_1 (List.mem_of_getElem? (i := 66) (by decide +kernel)) rfl
theorem mw_180 : (Jvm.Cond.fieldLink "TaleCourt$Reader" (102 : Nat) "TaleCourt$Court" "tellers" "I") ∈ tbG := mt_1 (List.mem_of_getElem? (i := 67) (by decide +kernel)) rfl
theorem mw_181 : (Jvm.Cond.fieldLink "TaleCourt" (223 : Nat) "TaleCourt$Court" "tellers" "I") ∈ tbG := mt_1 (List.mem_of_getElem? (i := 68) (by decide +kernel)) rfl
theorem mw_182 : (Jvm.Cond.fieldLink "TaleCourt$Court" (43 : Nat) "TaleCourt$Court" "silences" "I") ∈ tbG := mt_1 (List.mem_of_getElem? (i := 69) (by decide +kernel)) rfl
theorem mw_183 : (Jvm.Cond.fieldLink "TaleCourt$Telling" (73 : Nat) "TaleCourt$Court" "silences" "I") ∈ tbG := mt_1 (List.mem_of_getElem? (i := 70) (by decide +kernel)) rfl
theorem mw_184 : (Jvm.Cond.fieldLink "TaleCourt$Reader" (106 : Nat) "TaleCourt$Court" "silences" "I") ∈ tbG := mt_1 (List.mem_of_getElem? (i := 71) (by decide +kernel)) rfl
theorem mw_185 : (Jvm.Cond.fieldLink "TaleCourt$Game" (91 : Nat) "TaleCourt$Court" "silences" "I") ∈ tbG := mt_1 (List.mem_of_getElem? (i := 72) (by decide +kernel)) rfl
theorem mw_186 : (Jvm.Cond.fieldLink "TaleCourt" (347 : Nat) "TaleCourt$Court" "silences" "I") ∈ tbG := mt_1 (List.mem_of_getElem? (i := 73) (by decide +kernel)) rfl
theorem mw_187 : (Jvm.Cond.fieldLink "TaleCourt$Court" (46 : Nat) "TaleCourt$Court" "motifs" "I") ∈ tbG := mt_1 (List.mem_of_getElem? (i := 74) (by decide +kernel)) rfl
theorem mw_188 : (Jvm.Cond.fieldLink "TaleCourt$Reader" (78 : Nat) "TaleCourt$Court" "motifs" "I") ∈ tbG := mt_1 (List.mem_of_getElem? (i := 75) (by decide +kernel)) rfl
theorem mw_189 : (Jvm.Cond.fieldLink "TaleCourt" (217 : Nat) "TaleCourt$Court" "motifs" "I") ∈ tbG := mt_1 (List.mem_of_getElem? (i := 76) (by decide +kernel)) rfl
theorem mw_190 : (Jvm.Cond.fieldLink "TaleCourt$Court" (49 : Nat) "TaleCourt$Court" "listeners" "I") ∈ tbG := mt_1 (List.mem_of_getElem? (i := 77) (by decide +kernel)) rfl
theorem mw_191 : (Jvm.Cond.fieldLink "TaleCourt$Claims" (46 : Nat) "TaleCourt$Court" "listeners" "I") ∈ tbG := mt_1 (List.mem_of_getElem? (i := 78) (by decide +kernel)) rfl
theorem mw_192 : (Jvm.Cond.fieldLink "TaleCourt$Reader" (161 : Nat) "TaleCourt$Court" "listeners" "I") ∈ tbG := mt_1 (List.mem_of_getElem? (i := 79) (by decide +kernel)) rfl
theorem mw_193 : (Jvm.Cond.fieldLink "TaleCourt" (305 : Nat) "TaleCourt$Court" "listeners" "I") ∈ tbG := mt_1 (List.mem_of_getElem? (i := 80) (by decide +kernel)) rfl
theorem mw_194 : (Jvm.Cond.fieldLink "TaleCourt$Court" (52 : Nat) "TaleCourt$Court" "lines" "I") ∈ tbG := mt_1 (List.mem_of_getElem? (i := 81) (by decide +kernel)) rfl
theorem mw_195 : (Jvm.Cond.fieldLink "TaleCourt$Reader" (43 : Nat) "TaleCourt$Court" "lines" "I") ∈ tbG := mt_1 (List.mem_of_getElem? (i := 82) (by decide +kernel)) rfl
theorem mw_196 : (Jvm.Cond.fieldLink "TaleCourt" (93 : Nat) "TaleCourt$Court" "lines" "I") ∈ tbG := mt_1 (List.mem_of_getElem? (i := 83) (by decide +kernel)) rfl
theorem mw_197 : (Jvm.Cond.fieldLink "TaleCourt$Court" (55 : Nat) "TaleCourt$Court" "joinings" "I") ∈ tbG := mt_1 (List.mem_of_getElem? (i := 84) (by decide +kernel)) rfl
theorem mw_198 : (Jvm.Cond.fieldLink "TaleCourt$Reader" (146 : Nat) "TaleCourt$Court" "joinings" "I") ∈ tbG := mt_1 (List.mem_of_getElem? (i := 85) (by decide +kernel)) rfl
theorem mw_199 : (Jvm.Cond.fieldLink "TaleCourt" (350 : Nat) "TaleCourt$Court" "joinings" "I") ∈ tbG := mt_1 (List.mem_of_getElem? (i := 86) (by decide +kernel)) rfl
theorem mw_200 : (Jvm.Cond.fieldLink "TaleCourt$Court" (58 : Nat) "TaleCourt$Court" "clashings" "I") ∈ tbG := mt_1 (List.mem_of_getElem? (i := 87) (by decide +kernel)) rfl
theorem mw_201 : (Jvm.Cond.fieldLink "TaleCourt$Reader" (154 : Nat) "TaleCourt$Court" "clashings" "I") ∈ tbG := mt_1 (List.mem_of_getElem? (i := 88) (by decide +kernel)) rfl
theorem mw_202 : (Jvm.Cond.fieldLink "TaleCourt" (353 : Nat) "TaleCourt$Court" "clashings" "I") ∈ tbG := mt_1 (List.mem_of_getElem? (i := 89) (by decide +kernel)) rfl
theorem mw_203 : (Jvm.Cond.fieldLink "TaleCourt$Court" (61 : Nat) "TaleCourt$Court" "opening" "I") ∈ tbG := mt_1 (List.mem_of_getElem? (i := 90) (by decide +kernel)) rfl
theorem mw_204 : (Jvm.Cond.fieldLink "TaleCourt" (110 : Nat) "TaleCourt$Court" "opening" "I") ∈ tbG := mt_1 (List.mem_of_getElem? (i := 91) (by decide +kernel)) rfl
theorem mw_205 : (Jvm.Cond.fieldLink "TaleCourt$Reader" (120 : Nat) "TaleCourt$Court" "opening" "I") ∈ tbG := mt_1 (List.mem_of_getElem? (i := 92) (by decide +kernel)) rfl
theorem mw_206 : (Jvm.Cond.fieldLink "TaleCourt$Telling" (104 : Nat) "TaleCourt$Court" "opening" "I") ∈ tbG := mt_1 (List.mem_of_getElem? (i := 93) (by decide +kernel)) rfl
theorem mw_207 : (Jvm.Cond.fieldLink "TaleCourt$Court" (64 : Nat) "TaleCourt$Court" "strange" "I") ∈ tbG := mt_1 (List.mem_of_getElem? (i := 94) (by decide +kernel)) rfl
theorem mw_208 : (Jvm.Cond.fieldLink "TaleCourt" (113 : Nat) "TaleCourt$Court" "strange" "I") ∈ tbG := mt_1 (List.mem_of_getElem? (i := 95) (by decide +kernel)) rfl
theorem mw_209 : (Jvm.Cond.fieldLink "TaleCourt$Reader" (125 : Nat) "TaleCourt$Court" "strange" "I") ∈ tbG := mt_1 (List.mem_of_getElem? (i := 96) (by decide +kernel)) rfl
theorem mw_210 : (Jvm.Cond.fieldLink "TaleCourt$Telling" (113 : Nat) "TaleCourt$Court" "strange" "I") ∈ tbG := mt_1 (List.mem_of_getElem? (i := 97) (by decide +kernel)) rfl
theorem mw_211 : (Jvm.Cond.fieldLink "TaleCourt$Court" (67 : Nat) "TaleCourt$Court" "sung" "I") ∈ tbG := mt_1 (List.mem_of_getElem? (i := 98) (by decide +kernel)) rfl
theorem mw_212 : (Jvm.Cond.fieldLink "TaleCourt" (116 : Nat) "TaleCourt$Court" "sung" "I") ∈ tbG := mt_1 (List.mem_of_getElem? (i := 99) (by decide +kernel)) rfl
theorem mw_213 : (Jvm.Cond.fieldLink "TaleCourt$Reader" (130 : Nat) "TaleCourt$Court" "sung" "I") ∈ tbG := mt_1 (List.mem_of_getElem? (i := 100) (by decide +kernel)) rfl
theorem mw_214 : (Jvm.Cond.fieldLink "TaleCourt$Court" (70 : Nat) "TaleCourt$Court" "forbidden" "I") ∈ tbG := mt_1 (List.mem_of_getElem? (i := 101) (by decide +kernel)) rfl
theorem mw_215 : (Jvm.Cond.fieldLink "TaleCourt$Reader" (75 : Nat) "TaleCourt$Court" "forbidden" "I") ∈ tbG := mt_1 (List.mem_of_getElem? (i := 102) (by decide +kernel)) rfl
theorem mw_216 : (Jvm.Cond.fieldLink "TaleCourt" (128 : Nat) "TaleCourt$Court" "forbidden" "I") ∈ tbG := mt_1 (List.mem_of_getElem? (i := 103) (by decide +kernel)) rfl
theorem mw_217 : (Jvm.Cond.fieldLink "TaleCourt$Telling" (90 : Nat) "TaleCourt$Court" "forbidden" "I") ∈ tbG := mt_1 (List.mem_of_getElem? (i := 104) (by decide +kernel)) rfl
theorem mw_218 : (Jvm.Cond.fieldLink "TaleCourt$Court" (9 : Nat) "TaleCourt$Court" "worth" "[I") ∈ tbG := mt_1 (List.mem_of_getElem? (i := 105) (by decide +kernel)) rfl
theorem mw_219 : (Jvm.Cond.fieldLink "TaleCourt$Reader" (111 : Nat) "TaleCourt$Court" "worth" "[I") ∈ tbG := mt_1 (List.mem_of_getElem? (i := 106) (by decide +kernel)) rfl
theorem mw_220 : (Jvm.Cond.fieldLink "TaleCourt" (106 : Nat) "TaleCourt$Court" "worth" "[I") ∈ tbG := mt_1 (List.mem_of_getElem? (i := 107) (by decide +kernel)) rfl
theorem mw_221 : (Jvm.Cond.fieldLink "TaleCourt$Court" (15 : Nat) "TaleCourt$Court" "owes" "[I") ∈ tbG := mt_1 (List.mem_of_getElem? (i := 108) (by decide +kernel)) rfl
theorem mw_222 : (Jvm.Cond.fieldLink "TaleCourt" (119 : Nat) "TaleCourt$Court" "owes" "[I") ∈ tbG := mt_1 (List.mem_of_getElem? (i := 109) (by decide +kernel)) rfl
theorem mw_223 : (Jvm.Cond.fieldLink "TaleCourt$Reader" (135 : Nat) "TaleCourt$Court" "owes" "[I") ∈ tbG := mt_1 (List.mem_of_getElem? (i := 110) (by decide +kernel)) rfl
theorem mw_224 : (Jvm.Cond.fieldLink "TaleCourt$Telling" (146 : Nat) "TaleCourt$Court" "owes" "[I") ∈ tbG := mt_1 (List.mem_of_getElem? (i := 111) (by decide +kernel)) rfl
theorem mw_225 : (Jvm.Cond.fieldLink "TaleCourt$Court" (18 : Nat) "TaleCourt$Court" "within" "[I") ∈ tbG := mt_1 (List.mem_of_getElem? (i := 112) (by decide +kernel)) rfl
theorem mw_226 : (Jvm.Cond.fieldLink "TaleCourt" (122 : Nat) "TaleCourt$Court" "within" "[I") ∈ tbG := mt_1 (List.mem_of_getElem? (i := 113) (by decide +kernel)) rfl
theorem mw_227 : (Jvm.Cond.fieldLink "TaleCourt$Reader" (139 : Nat) "TaleCourt$Court" "within" "[I") ∈ tbG := mt_1 (List.mem_of_getElem? (i := 114) (by decide +kernel)) rfl
theorem mw_228 : (Jvm.Cond.fieldLink "TaleCourt$Telling" (149 : Nat) "TaleCourt$Court" "within" "[I") ∈ tbG := mt_1 (List.mem_of_getElem? (i := 115) (by decide +kernel)) rfl
theorem mw_229 : (Jvm.Cond.fieldLink "TaleCourt$Court" (21 : Nat) "TaleCourt$Court" "keeper" "[I") ∈ tbG := mt_1 (List.mem_of_getElem? (i := 116) (by decide +kernel)) rfl
theorem mw_230 : (Jvm.Cond.fieldLink "TaleCourt" (125 : Nat) "TaleCourt$Court" "keeper" "[I") ∈ tbG := mt_1 (List.mem_of_getElem? (i := 117) (by decide +kernel)) rfl
theorem mw_231 : (Jvm.Cond.fieldLink "TaleCourt$Court" (24 : Nat) "TaleCourt$Court" "followers" "[I") ∈ tbG := mt_1 (List.mem_of_getElem? (i := 118) (by decide +kernel)) rfl
theorem mw_232 : (Jvm.Cond.fieldLink "TaleCourt" (131 : Nat) "TaleCourt$Court" "followers" "[I") ∈ tbG := mt_1 (List.mem_of_getElem? (i := 119) (by decide +kernel)) rfl
theorem mw_233 : (Jvm.Cond.fieldLink "TaleCourt$Reader" (143 : Nat) "TaleCourt$Court" "followers" "[I") ∈ tbG := mt_1 (List.mem_of_getElem? (i := 120) (by decide +kernel)) rfl
theorem mw_234 : (Jvm.Cond.fieldLink "TaleCourt$Telling" (101 : Nat) "TaleCourt$Court" "followers" "[I") ∈ tbG := mt_1 (List.mem_of_getElem? (i := 121) (by decide +kernel)) rfl
theorem mw_235 : (Jvm.Cond.fieldLink "TaleCourt$Court" (27 : Nat) "TaleCourt$Court" "rivals" "[I") ∈ tbG := mt_1 (List.mem_of_getElem? (i := 122) (by decide +kernel)) rfl
theorem mw_236 : (Jvm.Cond.fieldLink "TaleCourt" (134 : Nat) "TaleCourt$Court" "rivals" "[I") ∈ tbG := mt_1 (List.mem_of_getElem? (i := 123) (by decide +kernel)) rfl
theorem mw_237 : (Jvm.Cond.fieldLink "TaleCourt$Reader" (151 : Nat) "TaleCourt$Court" "rivals" "[I") ∈ tbG := mt_1 (List.mem_of_getElem? (i := 124) (by decide +kernel)) rfl
theorem mw_238 : (Jvm.Cond.fieldLink "TaleCourt$Telling" (143 : Nat) "TaleCourt$Court" "rivals" "[I") ∈ tbG := mt_1 (List.mem_of_getElem? (i := 125) (by decide +kernel)) rfl
theorem mw_239 : (Jvm.Cond.fieldLink "TaleCourt$Court" (30 : Nat) "TaleCourt$Court" "barred" "[I") ∈ tbG := mt_1 (List.mem_of_getElem? (i := 126) (by decide +kernel)) rfl
theorem mw_240 : (Jvm.Cond.fieldLink "TaleCourt$Telling" (107 : Nat) "TaleCourt$Court" "barred" "[I") ∈ tbG := mt_1 (List.mem_of_getElem? (i := 127) (by decide +kernel)) rfl
theorem mw_241 : (Jvm.Cond.fieldLink "TaleCourt$Court" (33 : Nat) "TaleCourt$Court" "love" "[I") ∈ tbG := mt_1 (List.mem_of_getElem? (i := 128) (by decide +kernel)) rfl
theorem mw_242 : (Jvm.Cond.fieldLink "TaleCourt$Row" (48 : Nat) "TaleCourt$Court" "love" "[I") ∈ tbG := mt_1 (List.mem_of_getElem? (i := 129) (by decide +kernel)) rfl
theorem mw_243 : (Jvm.Cond.fieldLink "TaleCourt$Reader" (166 : Nat) "TaleCourt$Court" "love" "[I") ∈ tbG := mt_1 (List.mem_of_getElem? (i := 130) (by decide +kernel)) rfl
theorem mw_244 : (Jvm.Cond.fieldLink "TaleCourt$Court" (36 : Nat) "TaleCourt$Court" "loved" "[I") ∈ tbG := mt_1 (List.mem_of_getElem? (i := 131) (by decide +kernel)) rfl
theorem mw_245 : (Jvm.Cond.fieldLink "TaleCourt$Row" (44 : Nat) "TaleCourt$Court" "loved" "[I") ∈ tbG := mt_1 (List.mem_of_getElem? (i := 132) (by decide +kernel)) rfl
theorem mw_246 : (Jvm.Cond.fieldLink "TaleCourt$Reader" (169 : Nat) "TaleCourt$Court" "loved" "[I") ∈ tbG := mt_1 (List.mem_of_getElem? (i := 133) (by decide +kernel)) rfl
theorem mw_247 : (Jvm.Cond.lays "TaleCourt$Court" "TaleCourt$Court" "tellers" "I") ∈ tbG := mt_1 (List.mem_of_getElem? (i := 134) (by decide +kernel)) rfl
theorem mw_249 : (Jvm.Cond.lays "TaleCourt$Court" "TaleCourt$Court" "silences" "I") ∈ tbG := mt_1 (List.mem_of_getElem? (i := 136) (by decide +kernel)) rfl
theorem mw_251 : (Jvm.Cond.lays "TaleCourt$Court" "TaleCourt$Court" "motifs" "I") ∈ tbG := mt_1 (List.mem_of_getElem? (i := 138) (by decide +kernel)) rfl
theorem mw_253 : (Jvm.Cond.lays "TaleCourt$Court" "TaleCourt$Court" "listeners" "I") ∈ tbG := mt_1 (List.mem_of_getElem? (i := 140) (by decide +kernel)) rfl
theorem mw_255 : (Jvm.Cond.lays "TaleCourt$Court" "TaleCourt$Court" "lines" "I") ∈ tbG := mt_1 (List.mem_of_getElem? (i := 142) (by decide +kernel)) rfl
theorem mw_257 : (Jvm.Cond.lays "TaleCourt$Court" "TaleCourt$Court" "joinings" "I") ∈ tbG := mt_1 (List.mem_of_getElem? (i := 144) (by decide +kernel)) rfl
theorem mw_259 : (Jvm.Cond.lays "TaleCourt$Court" "TaleCourt$Court" "clashings" "I") ∈ tbG := mt_1 (List.mem_of_getElem? (i := 146) (by decide +kernel)) rfl
theorem mw_261 : (Jvm.Cond.lays "TaleCourt$Court" "TaleCourt$Court" "opening" "I") ∈ tbG := mt_1 (List.mem_of_getElem? (i := 148) (by decide +kernel)) rfl
theorem mw_263 : (Jvm.Cond.lays "TaleCourt$Court" "TaleCourt$Court" "strange" "I") ∈ tbG := mt_1 (List.mem_of_getElem? (i := 150) (by decide +kernel)) rfl
theorem mw_265 : (Jvm.Cond.lays "TaleCourt$Court" "TaleCourt$Court" "sung" "I") ∈ tbG := mt_1 (List.mem_of_getElem? (i := 152) (by decide +kernel)) rfl
theorem mw_267 : (Jvm.Cond.lays "TaleCourt$Court" "TaleCourt$Court" "forbidden" "I") ∈ tbG := mt_1 (List.mem_of_getElem? (i := 154) (by decide +kernel)) rfl
theorem mw_269 : (Jvm.Cond.laysFinal "TaleCourt$Court" "TaleCourt$Court" "worth" "[I") ∈ tbG := mt_1 (List.mem_of_getElem? (i := 156) (by decide +kernel)) rfl
theorem mw_271 : (Jvm.Cond.laysFinal "TaleCourt$Court" "TaleCourt$Court" "owes" "[I") ∈ tbG := mt_1 (List.mem_of_getElem? (i := 158) (by decide +kernel)) rfl
theorem mw_273 : (Jvm.Cond.laysFinal "TaleCourt$Court" "TaleCourt$Court" "within" "[I") ∈ tbG := mt_1 (List.mem_of_getElem? (i := 160) (by decide +kernel)) rfl
theorem mw_275 : (Jvm.Cond.laysFinal "TaleCourt$Court" "TaleCourt$Court" "keeper" "[I") ∈ tbG := mt_1 (List.mem_of_getElem? (i := 162) (by decide +kernel)) rfl
theorem mw_277 : (Jvm.Cond.laysFinal "TaleCourt$Court" "TaleCourt$Court" "followers" "[I") ∈ tbG := mt_1 (List.mem_of_getElem? (i := 164) (by decide +kernel)) rfl
theorem mw_279 : (Jvm.Cond.laysFinal "TaleCourt$Court" "TaleCourt$Court" "rivals" "[I") ∈ tbG := mt_1 (List.mem_of_getElem? (i := 166) (by decide +kernel)) rfl
theorem mw_281 : (Jvm.Cond.laysFinal "TaleCourt$Court" "TaleCourt$Court" "barred" "[I") ∈ tbG := mt_1 (List.mem_of_getElem? (i := 168) (by decide +kernel)) rfl
theorem mw_283 : (Jvm.Cond.laysFinal "TaleCourt$Court" "TaleCourt$Court" "love" "[I") ∈ tbG := mt_1 (List.mem_of_getElem? (i := 170) (by decide +kernel)) rfl
theorem mw_285 : (Jvm.Cond.laysFinal "TaleCourt$Court" "TaleCourt$Court" "loved" "[I") ∈ tbG := mt_1 (List.mem_of_getElem? (i := 172) (by decide +kernel)) rfl
theorem mw_288 : (Jvm.Cond.arrayClass Jvm.ClassFile.FieldType.int) ∈ tbG := mt_1 (List.mem_of_getElem? (i := 175) (by decide +kernel)) rfl
theorem mw_289 : (Jvm.Cond.classLink "TaleCourt" (26 : Nat) "TaleCourt$Telling") ∈ tbG := mt_1 (List.mem_of_getElem? (i := 176) (by decide +kernel)) rfl
theorem mw_290 : (Jvm.Cond.instantiable "TaleCourt$Telling" (14 : Nat)) ∈ tbG := mt_1 (List.mem_of_getElem? (i := 177) (by decide +kernel)) rfl
theorem mw_291 : (Jvm.Cond.methodLink "TaleCourt" (28 : Nat) ({ cls := "TaleCourt$Telling", name := "<init>", desc := "(LTaleCourt$Court;)V" } : Jvm.MethodName)) ∈ tbG := mt_1 (List.mem_of_getElem? (i := 178) (by decide +kernel)) rfl
theorem mw_292 : (Jvm.Cond.instanceMethod ({ cls := "TaleCourt$Telling", name := "<init>", desc := "(LTaleCourt$Court;)V" } : Jvm.MethodName)) ∈ tbG := mt_1 (List.mem_of_getElem? (i := 179) (by decide +kernel)) rfl
theorem mw_293 : (Jvm.Cond.code ({ cls := "TaleCourt$Telling", name := "<init>", desc := "(LTaleCourt$Court;)V" } : Jvm.MethodName) prog_9_method_1_code (2 : Nat) (Option.none : Option Jvm.ClassFile.FieldType)) ∈ tbG := mt_1 (List.mem_of_getElem? (i := 180) (by decide +kernel)) rfl
theorem mw_294 : (Jvm.Cond.methodLink "TaleCourt$Telling" (3 : Nat) ({ cls := "java/lang/Object", name := "<init>", desc := "()V" } : Jvm.MethodName)) ∈ tbG := mt_1 (List.mem_of_getElem? (i := 181) (by decide +kernel)) rfl
theorem mw_295 : (Jvm.Cond.fieldLink "TaleCourt$Telling" (9 : Nat) "TaleCourt$Telling" "turns" "[I") ∈ tbG := mt_1 (List.mem_of_getElem? (i := 182) (by decide +kernel)) rfl
theorem mw_296 : (Jvm.Cond.fieldLink "TaleCourt$Claims" (68 : Nat) "TaleCourt$Telling" "turns" "[I") ∈ tbG := mt_1 (List.mem_of_getElem? (i := 183) (by decide +kernel)) rfl
theorem mw_297 : (Jvm.Cond.fieldLink "TaleCourt$Game" (70 : Nat) "TaleCourt$Telling" "turns" "[I") ∈ tbG := mt_1 (List.mem_of_getElem? (i := 184) (by decide +kernel)) rfl
theorem mw_298 : (Jvm.Cond.fieldLink "TaleCourt" (173 : Nat) "TaleCourt$Telling" "turns" "[I") ∈ tbG := mt_1 (List.mem_of_getElem? (i := 185) (by decide +kernel)) rfl
theorem mw_299 : (Jvm.Cond.fieldLink "TaleCourt$Telling" (15 : Nat) "TaleCourt$Telling" "dueTurn" "[I") ∈ tbG := mt_1 (List.mem_of_getElem? (i := 186) (by decide +kernel)) rfl
theorem mw_300 : (Jvm.Cond.fieldLink "TaleCourt" (186 : Nat) "TaleCourt$Telling" "dueTurn" "[I") ∈ tbG := mt_1 (List.mem_of_getElem? (i := 187) (by decide +kernel)) rfl
theorem mw_301 : (Jvm.Cond.fieldLink "TaleCourt$Telling" (41 : Nat) "TaleCourt$Telling" "count" "I") ∈ tbG := mt_1 (List.mem_of_getElem? (i := 188) (by decide +kernel)) rfl
theorem mw_302 : (Jvm.Cond.fieldLink "TaleCourt$Claims" (63 : Nat) "TaleCourt$Telling" "count" "I") ∈ tbG := mt_1 (List.mem_of_getElem? (i := 189) (by decide +kernel)) rfl
theorem mw_303 : (Jvm.Cond.fieldLink "TaleCourt$Game" (67 : Nat) "TaleCourt$Telling" "count" "I") ∈ tbG := mt_1 (List.mem_of_getElem? (i := 190) (by decide +kernel)) rfl
theorem mw_304 : (Jvm.Cond.fieldLink "TaleCourt" (167 : Nat) "TaleCourt$Telling" "count" "I") ∈ tbG := mt_1 (List.mem_of_getElem? (i := 191) (by decide +kernel)) rfl
theorem mw_305 : (Jvm.Cond.fieldLink "TaleCourt$Telling" (44 : Nat) "TaleCourt$Telling" "toldSet" "I") ∈ tbG := mt_1 (List.mem_of_getElem? (i := 192) (by decide +kernel)) rfl
theorem mw_306 : (Jvm.Cond.fieldLink "TaleCourt$Survey" (84 : Nat) "TaleCourt$Telling" "toldSet" "I") ∈ tbG := mt_1 (List.mem_of_getElem? (i := 193) (by decide +kernel)) rfl
theorem mw_307 : (Jvm.Cond.fieldLink "TaleCourt$Game" (88 : Nat) "TaleCourt$Telling" "toldSet" "I") ∈ tbG := mt_1 (List.mem_of_getElem? (i := 194) (by decide +kernel)) rfl
theorem mw_308 : (Jvm.Cond.fieldLink "TaleCourt" (214 : Nat) "TaleCourt$Telling" "toldSet" "I") ∈ tbG := mt_1 (List.mem_of_getElem? (i := 195) (by decide +kernel)) rfl
theorem mw_309 : (Jvm.Cond.fieldLink "TaleCourt$Telling" (18 : Nat) "TaleCourt$Telling" "last" "I") ∈ tbG := mt_1 (List.mem_of_getElem? (i := 196) (by decide +kernel)) rfl
theorem mw_310 : (Jvm.Cond.fieldLink "TaleCourt$Survey" (87 : Nat) "TaleCourt$Telling" "last" "I") ∈ tbG := mt_1 (List.mem_of_getElem? (i := 197) (by decide +kernel)) rfl
theorem mw_311 : (Jvm.Cond.fieldLink "TaleCourt$Game" (85 : Nat) "TaleCourt$Telling" "last" "I") ∈ tbG := mt_1 (List.mem_of_getElem? (i := 198) (by decide +kernel)) rfl
theorem mw_312 : (Jvm.Cond.fieldLink "TaleCourt$Telling" (47 : Nat) "TaleCourt$Telling" "total" "I") ∈ tbG := mt_1 (List.mem_of_getElem? (i := 199) (by decide +kernel)) rfl
theorem mw_313 : (Jvm.Cond.fieldLink "TaleCourt$Survey" (105 : Nat) "TaleCourt$Telling" "total" "I") ∈ tbG := mt_1 (List.mem_of_getElem? (i := 200) (by decide +kernel)) rfl
theorem mw_314 : (Jvm.Cond.fieldLink "TaleCourt" (192 : Nat) "TaleCourt$Telling" "total" "I") ∈ tbG := mt_1 (List.mem_of_getElem? (i := 201) (by decide +kernel)) rfl
theorem mw_315 : (Jvm.Cond.fieldLink "TaleCourt$Telling" (37 : Nat) "TaleCourt$Telling" "court" "LTaleCourt$Court;") ∈ tbG := mt_1 (List.mem_of_getElem? (i := 202) (by decide +kernel)) rfl
theorem mw_316 : (Jvm.Cond.fieldLink "TaleCourt$Telling" (22 : Nat) "TaleCourt$Telling" "silent" "[I") ∈ tbG := mt_1 (List.mem_of_getElem? (i := 203) (by decide +kernel)) rfl
theorem mw_317 : (Jvm.Cond.fieldLink "TaleCourt$Telling" (50 : Nat) "TaleCourt$Telling" "blocked" "I") ∈ tbG := mt_1 (List.mem_of_getElem? (i := 204) (by decide +kernel)) rfl
theorem mw_318 : (Jvm.Cond.fieldLink "TaleCourt$Telling" (53 : Nat) "TaleCourt$Telling" "owedSet" "I") ∈ tbG := mt_1 (List.mem_of_getElem? (i := 205) (by decide +kernel)) rfl
theorem mw_319 : (Jvm.Cond.fieldLink "TaleCourt$Telling" (25 : Nat) "TaleCourt$Telling" "lastAhead" "[I") ∈ tbG := mt_1 (List.mem_of_getElem? (i := 206) (by decide +kernel)) rfl
theorem mw_320 : (Jvm.Cond.fieldLink "TaleCourt$Telling" (28 : Nat) "TaleCourt$Telling" "blockedAhead" "[I") ∈ tbG := mt_1 (List.mem_of_getElem? (i := 207) (by decide +kernel)) rfl
theorem mw_321 : (Jvm.Cond.fieldLink "TaleCourt$Telling" (31 : Nat) "TaleCourt$Telling" "owedAhead" "[I") ∈ tbG := mt_1 (List.mem_of_getElem? (i := 208) (by decide +kernel)) rfl
theorem mw_322 : (Jvm.Cond.fieldLink "TaleCourt$Telling" (34 : Nat) "TaleCourt$Telling" "dueAhead" "[I") ∈ tbG := mt_1 (List.mem_of_getElem? (i := 209) (by decide +kernel)) rfl
theorem mw_323 : (Jvm.Cond.laysFinal "TaleCourt$Telling" "TaleCourt$Telling" "turns" "[I") ∈ tbG := mt_1 (List.mem_of_getElem? (i := 210) (by decide +kernel)) rfl
theorem mw_325 : (Jvm.Cond.laysFinal "TaleCourt$Telling" "TaleCourt$Telling" "dueTurn" "[I") ∈ tbG := mt_1 (List.mem_of_getElem? (i := 212) (by decide +kernel)) rfl
theorem mw_327 : (Jvm.Cond.lays "TaleCourt$Telling" "TaleCourt$Telling" "count" "I") ∈ tbG := mt_1 (List.mem_of_getElem? (i := 214) (by decide +kernel)) rfl
theorem mw_329 : (Jvm.Cond.lays "TaleCourt$Telling" "TaleCourt$Telling" "toldSet" "I") ∈ tbG := mt_1 (List.mem_of_getElem? (i := 216) (by decide +kernel)) rfl
theorem mw_331 : (Jvm.Cond.lays "TaleCourt$Telling" "TaleCourt$Telling" "last" "I") ∈ tbG := mt_1 (List.mem_of_getElem? (i := 218) (by decide +kernel)) rfl
theorem mw_333 : (Jvm.Cond.lays "TaleCourt$Telling" "TaleCourt$Telling" "total" "I") ∈ tbG := mt_1 (List.mem_of_getElem? (i := 220) (by decide +kernel)) rfl
theorem mw_335 : (Jvm.Cond.laysFinal "TaleCourt$Telling" "TaleCourt$Telling" "court" "LTaleCourt$Court;") ∈ tbG := mt_1 (List.mem_of_getElem? (i := 222) (by decide +kernel)) rfl
theorem mw_337 : (Jvm.Cond.laysFinal "TaleCourt$Telling" "TaleCourt$Telling" "silent" "[I") ∈ tbG := mt_1 (List.mem_of_getElem? (i := 224) (by decide +kernel)) rfl
theorem mw_339 : (Jvm.Cond.lays "TaleCourt$Telling" "TaleCourt$Telling" "blocked" "I") ∈ tbG := mt_1 (List.mem_of_getElem? (i := 226) (by decide +kernel)) rfl
theorem mw_341 : (Jvm.Cond.lays "TaleCourt$Telling" "TaleCourt$Telling" "owedSet" "I") ∈ tbG := mt_1 (List.mem_of_getElem? (i := 228) (by decide +kernel)) rfl
theorem mw_343 : (Jvm.Cond.laysFinal "TaleCourt$Telling" "TaleCourt$Telling" "lastAhead" "[I") ∈ tbG := mt_1 (List.mem_of_getElem? (i := 230) (by decide +kernel)) rfl
theorem mw_345 : (Jvm.Cond.laysFinal "TaleCourt$Telling" "TaleCourt$Telling" "blockedAhead" "[I") ∈ tbG := mt_1 (List.mem_of_getElem? (i := 232) (by decide +kernel)) rfl
theorem mw_347 : (Jvm.Cond.laysFinal "TaleCourt$Telling" "TaleCourt$Telling" "owedAhead" "[I") ∈ tbG := mt_1 (List.mem_of_getElem? (i := 234) (by decide +kernel)) rfl
theorem mw_349 : (Jvm.Cond.laysFinal "TaleCourt$Telling" "TaleCourt$Telling" "dueAhead" "[I") ∈ tbG := mt_1 (List.mem_of_getElem? (i := 236) (by decide +kernel)) rfl
theorem mw_352 : (Jvm.Cond.classLink "TaleCourt" (38 : Nat) "TaleCourt$Claims") ∈ tbG := mt_1 (List.mem_of_getElem? (i := 239) (by decide +kernel)) rfl
theorem mw_353 : (Jvm.Cond.instantiable "TaleCourt$Claims" (6 : Nat)) ∈ tbG := mt_2 (List.mem_of_getElem? (i := 0) (by decide +kernel)) rfl
theorem mn_354 : (Jvm.Cond.methodLinkNest "TaleCourt" (40 : Nat) ({ cls := "TaleCourt$Claims", name := "<init>", desc := "()V" } : Jvm.MethodName) "TaleCourt") ∈ lw_tbl := List.mem_of_getElem? (i := 354) (by decide +kernel)
theorem mw_355 : (Jvm.Cond.instanceMethod ({ cls := "TaleCourt$Claims", name := "<init>", desc := "()V" } : Jvm.MethodName)) ∈ tbG := mt_2 (List.mem_of_getElem? (i := 2) (by decide +kernel)) rfl
theorem mw_356 : (Jvm.Cond.code ({ cls := "TaleCourt$Claims", name := "<init>", desc := "()V" } : Jvm.MethodName) prog_2_method_1_code (1 : Nat) (Option.none : Option Jvm.ClassFile.FieldType)) ∈ tbG := mt_2 (List.mem_of_getElem? (i := 3) (by decide +kernel)) rfl
theorem mw_357 : (Jvm.Cond.methodLink "TaleCourt$Claims" (3 : Nat) ({ cls := "java/lang/Object", name := "<init>", desc := "()V" } : Jvm.MethodName)) ∈ tbG := mt_2 (List.mem_of_getElem? (i := 4) (by decide +kernel)) rfl
theorem mw_358 : (Jvm.Cond.fieldLink "TaleCourt$Claims" (27 : Nat) "TaleCourt$Claims" "named" "I") ∈ tbG := mt_2 (List.mem_of_getElem? (i := 5) (by decide +kernel)) rfl
theorem mw_359 : (Jvm.Cond.fieldLink "TaleCourt$Survey" (108 : Nat) "TaleCourt$Claims" "named" "I") ∈ tbG := mt_2 (List.mem_of_getElem? (i := 6) (by decide +kernel)) rfl
theorem mw_360 : (Jvm.Cond.fieldLink "TaleCourt$Claims" (9 : Nat) "TaleCourt$Claims" "said" "[I") ∈ tbG := mt_2 (List.mem_of_getElem? (i := 7) (by decide +kernel)) rfl
theorem mw_361 : (Jvm.Cond.fieldLink "TaleCourt$Claims" (15 : Nat) "TaleCourt$Claims" "leaders" "[I") ∈ tbG := mt_2 (List.mem_of_getElem? (i := 8) (by decide +kernel)) rfl
theorem mw_362 : (Jvm.Cond.fieldLink "TaleCourt$Claims" (18 : Nat) "TaleCourt$Claims" "leadersBy" "[I") ∈ tbG := mt_2 (List.mem_of_getElem? (i := 9) (by decide +kernel)) rfl
theorem mw_363 : (Jvm.Cond.fieldLink "TaleCourt$Claims" (21 : Nat) "TaleCourt$Claims" "least" "[I") ∈ tbG := mt_2 (List.mem_of_getElem? (i := 10) (by decide +kernel)) rfl
theorem mw_364 : (Jvm.Cond.fieldLink "TaleCourt$Claims" (24 : Nat) "TaleCourt$Claims" "ways" "[I") ∈ tbG := mt_2 (List.mem_of_getElem? (i := 11) (by decide +kernel)) rfl
theorem mw_365 : (Jvm.Cond.lays "TaleCourt$Claims" "TaleCourt$Claims" "named" "I") ∈ tbG := mt_2 (List.mem_of_getElem? (i := 12) (by decide +kernel)) rfl
theorem mw_367 : (Jvm.Cond.laysFinal "TaleCourt$Claims" "TaleCourt$Claims" "said" "[I") ∈ tbG := mt_2 (List.mem_of_getElem? (i := 14) (by decide +kernel)) rfl
theorem mw_369 : (Jvm.Cond.laysFinal "TaleCourt$Claims" "TaleCourt$Claims" "leaders" "[I") ∈ tbG := mt_2 (List.mem_of_getElem? (i := 16) (by decide +kernel)) rfl
theorem mw_371 : (Jvm.Cond.laysFinal "TaleCourt$Claims" "TaleCourt$Claims" "leadersBy" "[I") ∈ tbG := mt_2 (List.mem_of_getElem? (i := 18) (by decide +kernel)) rfl
theorem mw_373 : (Jvm.Cond.laysFinal "TaleCourt$Claims" "TaleCourt$Claims" "least" "[I") ∈ tbG := mt_2 (List.mem_of_getElem? (i := 20) (by decide +kernel)) rfl
theorem mw_375 : (Jvm.Cond.laysFinal "TaleCourt$Claims" "TaleCourt$Claims" "ways" "[I") ∈ tbG := mt_2 (List.mem_of_getElem? (i := 22) (by decide +kernel)) rfl
theorem mw_378 : (Jvm.Cond.classLink "TaleCourt" (45 : Nat) "TaleCourt$Survey") ∈ tbG := mt_2 (List.mem_of_getElem? (i := 25) (by decide +kernel)) rfl
theorem mw_379 : (Jvm.Cond.instantiable "TaleCourt$Survey" (8 : Nat)) ∈ tbG := mt_2 (List.mem_of_getElem? (i := 26) (by decide +kernel)) rfl
theorem mw_380 : (Jvm.Cond.methodLink "TaleCourt" (47 : Nat) ({ cls := "TaleCourt$Survey", name := "<init>", desc := "(LTaleCourt$Court;LTaleCourt$Claims;)V" } : Jvm.MethodName)) ∈ tbG := mt_2 (List.mem_of_getElem? (i := 27) (by decide +kernel)) rfl
theorem mw_381 : (Jvm.Cond.instanceMethod ({ cls := "TaleCourt$Survey", name := "<init>", desc := "(LTaleCourt$Court;LTaleCourt$Claims;)V" } : Jvm.MethodName)) ∈ tbG := mt_2 (List.mem_of_getElem? (i := 28) (by decide +kernel)) rfl
theorem mw_382 : (Jvm.Cond.code ({ cls := "TaleCourt$Survey", name := "<init>", desc := "(LTaleCourt$Court;LTaleCourt$Claims;)V" } : Jvm.MethodName) prog_8_method_1_code (3 : Nat) (Option.none : Option Jvm.ClassFile.FieldType)) ∈ tbG := mt_2 (List.mem_of_getElem? (i := 29) (by decide +kernel)) rfl
theorem mw_383 : (Jvm.Cond.methodLink "TaleCourt$Survey" (3 : Nat) ({ cls := "java/lang/Object", name := "<init>", desc := "()V" } : Jvm.MethodName)) ∈ tbG := mt_2 (List.mem_of_getElem? (i := 30) (by decide +kernel)) rfl
theorem mw_384 : (Jvm.Cond.classLink "TaleCourt$Survey" (19 : Nat) "TaleCourt$Telling") ∈ tbG := mt_2 (List.mem_of_getElem? (i := 31) (by decide +kernel)) rfl
theorem mw_385 : (Jvm.Cond.methodLink "TaleCourt$Survey" (21 : Nat) ({ cls := "TaleCourt$Telling", name := "<init>", desc := "(LTaleCourt$Court;)V" } : Jvm.MethodName)) ∈ tbG := mt_2 (List.mem_of_getElem? (i := 32) (by decide +kernel)) rfl
theorem mw_386 : (Jvm.Cond.fieldLink "TaleCourt$Survey" (24 : Nat) "TaleCourt$Survey" "tale" "LTaleCourt$Telling;") ∈ tbG := mt_2 (List.mem_of_getElem? (i := 33) (by decide +kernel)) rfl
theorem mw_387 : (Jvm.Cond.fieldLink "TaleCourt$Survey" (28 : Nat) "TaleCourt$Survey" "claims" "LTaleCourt$Claims;") ∈ tbG := mt_2 (List.mem_of_getElem? (i := 34) (by decide +kernel)) rfl
theorem mw_388 : (Jvm.Cond.fieldLink "TaleCourt$Survey" (11 : Nat) "TaleCourt$Survey" "knownKeys" "[J") ∈ tbG := mt_2 (List.mem_of_getElem? (i := 35) (by decide +kernel)) rfl
theorem mw_389 : (Jvm.Cond.fieldLink "TaleCourt$Survey" (15 : Nat) "TaleCourt$Survey" "known" "[I") ∈ tbG := mt_2 (List.mem_of_getElem? (i := 36) (by decide +kernel)) rfl
theorem mw_390 : (Jvm.Cond.fieldLink "TaleCourt$Survey" (46 : Nat) "TaleCourt$Survey" "stamp" "I") ∈ tbG := mt_2 (List.mem_of_getElem? (i := 37) (by decide +kernel)) rfl
theorem mw_391 : (Jvm.Cond.fieldLink "TaleCourt$Survey" (36 : Nat) "TaleCourt$Survey" "goal" "I") ∈ tbG := mt_2 (List.mem_of_getElem? (i := 38) (by decide +kernel)) rfl
theorem mw_392 : (Jvm.Cond.fieldLink "TaleCourt$Survey" (40 : Nat) "TaleCourt$Survey" "number" "I") ∈ tbG := mt_2 (List.mem_of_getElem? (i := 39) (by decide +kernel)) rfl
theorem mw_393 : (Jvm.Cond.fieldLink "TaleCourt$Survey" (43 : Nat) "TaleCourt$Survey" "without" "I") ∈ tbG := mt_2 (List.mem_of_getElem? (i := 40) (by decide +kernel)) rfl
theorem mw_394 : (Jvm.Cond.laysFinal "TaleCourt$Survey" "TaleCourt$Survey" "tale" "LTaleCourt$Telling;") ∈ tbG := mt_2 (List.mem_of_getElem? (i := 41) (by decide +kernel)) rfl
theorem mw_396 : (Jvm.Cond.laysFinal "TaleCourt$Survey" "TaleCourt$Survey" "claims" "LTaleCourt$Claims;") ∈ tbG := mt_2 (List.mem_of_getElem? (i := 43) (by decide +kernel)) rfl
theorem mw_398 : (Jvm.Cond.laysFinal "TaleCourt$Survey" "TaleCourt$Survey" "knownKeys" "[J") ∈ tbG := mt_2 (List.mem_of_getElem? (i := 45) (by decide +kernel)) rfl
theorem mw_400 : (Jvm.Cond.laysFinal "TaleCourt$Survey" "TaleCourt$Survey" "known" "[I") ∈ tbG := mt_2 (List.mem_of_getElem? (i := 47) (by decide +kernel)) rfl
theorem mw_402 : (Jvm.Cond.lays "TaleCourt$Survey" "TaleCourt$Survey" "stamp" "I") ∈ tbG := mt_2 (List.mem_of_getElem? (i := 49) (by decide +kernel)) rfl
theorem mw_404 : (Jvm.Cond.lays "TaleCourt$Survey" "TaleCourt$Survey" "goal" "I") ∈ tbG := mt_2 (List.mem_of_getElem? (i := 51) (by decide +kernel)) rfl
theorem mw_406 : (Jvm.Cond.lays "TaleCourt$Survey" "TaleCourt$Survey" "number" "I") ∈ tbG := mt_2 (List.mem_of_getElem? (i := 53) (by decide +kernel)) rfl
theorem mw_408 : (Jvm.Cond.lays "TaleCourt$Survey" "TaleCourt$Survey" "without" "I") ∈ tbG := mt_2 (List.mem_of_getElem? (i := 55) (by decide +kernel)) rfl
theorem mw_411 : (Jvm.Cond.arrayClass Jvm.ClassFile.FieldType.long) ∈ tbG := mt_2 (List.mem_of_getElem? (i := 58) (by decide +kernel)) rfl
theorem mw_412 : (Jvm.Cond.classLink "TaleCourt" (54 : Nat) "TaleCourt$Game") ∈ tbG := mt_2 (List.mem_of_getElem? (i := 59) (by decide +kernel)) rfl
theorem mw_413 : (Jvm.Cond.instantiable "TaleCourt$Game" (5 : Nat)) ∈ tbG := mt_2 (List.mem_of_getElem? (i := 60) (by decide +kernel)) rfl
theorem mw_414 : (Jvm.Cond.methodLink "TaleCourt" (56 : Nat) ({ cls := "TaleCourt$Game", name := "<init>", desc := "(LTaleCourt$Court;)V" } : Jvm.MethodName)) ∈ tbG := mt_2 (List.mem_of_getElem? (i := 61) (by decide +kernel)) rfl
theorem mw_415 : (Jvm.Cond.instanceMethod ({ cls := "TaleCourt$Game", name := "<init>", desc := "(LTaleCourt$Court;)V" } : Jvm.MethodName)) ∈ tbG := mt_2 (List.mem_of_getElem? (i := 62) (by decide +kernel)) rfl
theorem mw_416 : (Jvm.Cond.code ({ cls := "TaleCourt$Game", name := "<init>", desc := "(LTaleCourt$Court;)V" } : Jvm.MethodName) prog_4_method_1_code (2 : Nat) (Option.none : Option Jvm.ClassFile.FieldType)) ∈ tbG := mt_2 (List.mem_of_getElem? (i := 63) (by decide +kernel)) rfl
theorem mw_417 : (Jvm.Cond.methodLink "TaleCourt$Game" (5 : Nat) ({ cls := "java/lang/Object", name := "<init>", desc := "()V" } : Jvm.MethodName)) ∈ tbG := mt_2 (List.mem_of_getElem? (i := 64) (by decide +kernel)) rfl
theorem mw_418 : (Jvm.Cond.classLink "TaleCourt$Game" (19 : Nat) "TaleCourt$Telling") ∈ tbG := mt_2 (List.mem_of_getElem? (i := 65) (by decide +kernel)) rfl
theorem mw_419 : (Jvm.Cond.methodLink "TaleCourt$Game" (21 : Nat) ({ cls := "TaleCourt$Telling", name := "<init>", desc := "(LTaleCourt$Court;)V" } : Jvm.MethodName)) ∈ tbG := mt_2 (List.mem_of_getElem? (i := 66) (by decide +kernel)) rfl
theorem mw_420 : (Jvm.Cond.fieldLink "TaleCourt$Game" (15 : Nat) "TaleCourt$Game" "court" "LTaleCourt$Court;") ∈ tbG := mt_2 (List.mem_of_getElem? (i := 67) (by decide +kernel)) rfl
theorem mw_421 : (Jvm.Cond.fieldLink "TaleCourt$Game" (24 : Nat) "TaleCourt$Game" "tale" "LTaleCourt$Telling;") ∈ tbG := mt_2 (List.mem_of_getElem? (i := 68) (by decide +kernel)) rfl
theorem mw_422 : (Jvm.Cond.fieldLink "TaleCourt$Game" (11 : Nat) "TaleCourt$Game" "memo" "[I") ∈ tbG := mt_2 (List.mem_of_getElem? (i := 69) (by decide +kernel)) rfl
theorem mw_423 : (Jvm.Cond.fieldLink "TaleCourt$Game" (37 : Nat) "TaleCourt$Game" "stamp" "I") ∈ tbG := mt_2 (List.mem_of_getElem? (i := 70) (by decide +kernel)) rfl
theorem mw_424 : (Jvm.Cond.fieldLink "TaleCourt$Game" (32 : Nat) "TaleCourt$Game" "isQuick" "Z") ∈ tbG := mt_2 (List.mem_of_getElem? (i := 71) (by decide +kernel)) rfl
theorem mw_425 : (Jvm.Cond.laysFinal "TaleCourt$Game" "TaleCourt$Game" "court" "LTaleCourt$Court;") ∈ tbG := mt_2 (List.mem_of_getElem? (i := 72) (by decide +kernel)) rfl
theorem mw_427 : (Jvm.Cond.laysFinal "TaleCourt$Game" "TaleCourt$Game" "tale" "LTaleCourt$Telling;") ∈ tbG := mt_2 (List.mem_of_getElem? (i := 74) (by decide +kernel)) rfl
theorem mw_429 : (Jvm.Cond.lays "TaleCourt$Game" "TaleCourt$Game" "memo" "[I") ∈ tbG := mt_2 (List.mem_of_getElem? (i := 76) (by decide +kernel)) rfl
theorem mw_431 : (Jvm.Cond.lays "TaleCourt$Game" "TaleCourt$Game" "stamp" "I") ∈ tbG := mt_2 (List.mem_of_getElem? (i := 78) (by decide +kernel)) rfl
theorem mw_433 : (Jvm.Cond.lays "TaleCourt$Game" "TaleCourt$Game" "isQuick" "Z") ∈ tbG := mt_2 (List.mem_of_getElem? (i := 80) (by decide +kernel)) rfl
theorem mw_436 : (Jvm.Cond.classLink "TaleCourt" (61 : Nat) "TaleCourt$Row") ∈ tbG := mt_2 (List.mem_of_getElem? (i := 83) (by decide +kernel)) rfl
theorem mn_437 : (Jvm.Cond.arrayOver (Jvm.ClassFile.FieldType.object "TaleCourt$Row")) ∈ lw_tbl := List.mem_of_getElem? (i := 437) (by decide +kernel)
theorem mw_438 : (Jvm.Cond.classLink "TaleCourt" (67 : Nat) "TaleCourt$Image") ∈ tbG := mt_2 (List.mem_of_getElem? (i := 85) (by decide +kernel)) rfl
theorem mn_439 : (Jvm.Cond.arrayOver (Jvm.ClassFile.FieldType.object "TaleCourt$Image")) ∈ lw_tbl := List.mem_of_getElem? (i := 439) (by decide +kernel)
theorem mw_440 : (Jvm.Cond.instantiable "TaleCourt$Row" (3 : Nat)) ∈ tbG := mt_2 (List.mem_of_getElem? (i := 87) (by decide +kernel)) rfl
theorem mn_441 : (Jvm.Cond.methodLinkNest "TaleCourt" (73 : Nat) ({ cls := "TaleCourt$Row", name := "<init>", desc := "()V" } : Jvm.MethodName) "TaleCourt") ∈ lw_tbl := List.mem_of_getElem? (i := 441) (by decide +kernel)
theorem mw_442 : (Jvm.Cond.instanceMethod ({ cls := "TaleCourt$Row", name := "<init>", desc := "()V" } : Jvm.MethodName)) ∈ tbG := mt_2 (List.mem_of_getElem? (i := 89) (by decide +kernel)) rfl
theorem mw_443 : (Jvm.Cond.code ({ cls := "TaleCourt$Row", name := "<init>", desc := "()V" } : Jvm.MethodName) prog_7_method_1_code (1 : Nat) (Option.none : Option Jvm.ClassFile.FieldType)) ∈ tbG := mt_2 (List.mem_of_getElem? (i := 90) (by decide +kernel)) rfl
theorem mw_444 : (Jvm.Cond.methodLink "TaleCourt$Row" (3 : Nat) ({ cls := "java/lang/Object", name := "<init>", desc := "()V" } : Jvm.MethodName)) ∈ tbG := mt_2 (List.mem_of_getElem? (i := 91) (by decide +kernel)) rfl
theorem mw_445 : (Jvm.Cond.fieldLink "TaleCourt$Row" (9 : Nat) "TaleCourt$Row" "numbers" "[J") ∈ tbG := mt_2 (List.mem_of_getElem? (i := 92) (by decide +kernel)) rfl
theorem mw_446 : (Jvm.Cond.fieldLink "TaleCourt" (271 : Nat) "TaleCourt$Row" "numbers" "[J") ∈ tbG := mt_2 (List.mem_of_getElem? (i := 93) (by decide +kernel)) rfl
theorem mw_447 : (Jvm.Cond.fieldLink "TaleCourt$Row" (19 : Nat) "TaleCourt$Row" "width" "I") ∈ tbG := mt_2 (List.mem_of_getElem? (i := 94) (by decide +kernel)) rfl
theorem mw_448 : (Jvm.Cond.fieldLink "TaleCourt" (373 : Nat) "TaleCourt$Row" "width" "I") ∈ tbG := mt_2 (List.mem_of_getElem? (i := 95) (by decide +kernel)) rfl
theorem mw_449 : (Jvm.Cond.fieldLink "TaleCourt$Row" (15 : Nat) "TaleCourt$Row" "size" "I") ∈ tbG := mt_2 (List.mem_of_getElem? (i := 96) (by decide +kernel)) rfl
theorem mw_450 : (Jvm.Cond.fieldLink "TaleCourt$Claims" (37 : Nat) "TaleCourt$Row" "size" "I") ∈ tbG := mt_2 (List.mem_of_getElem? (i := 97) (by decide +kernel)) rfl
theorem mw_451 : (Jvm.Cond.fieldLink "TaleCourt" (263 : Nat) "TaleCourt$Row" "size" "I") ∈ tbG := mt_2 (List.mem_of_getElem? (i := 98) (by decide +kernel)) rfl
theorem mw_452 : (Jvm.Cond.laysFinal "TaleCourt$Row" "TaleCourt$Row" "numbers" "[J") ∈ tbG := mt_2 (List.mem_of_getElem? (i := 99) (by decide +kernel)) rfl
theorem mw_454 : (Jvm.Cond.lays "TaleCourt$Row" "TaleCourt$Row" "width" "I") ∈ tbG := mt_2 (List.mem_of_getElem? (i := 101) (by decide +kernel)) rfl
theorem mw_456 : (Jvm.Cond.lays "TaleCourt$Row" "TaleCourt$Row" "size" "I") ∈ tbG := mt_2 (List.mem_of_getElem? (i := 103) (by decide +kernel)) rfl
theorem mw_459 : (Jvm.Cond.instantiable "TaleCourt$Image" (3 : Nat)) ∈ tbG := mt_2 (List.mem_of_getElem? (i := 106) (by decide +kernel)) rfl
theorem mn_460 : (Jvm.Cond.methodLinkNest "TaleCourt" (74 : Nat) ({ cls := "TaleCourt$Image", name := "<init>", desc := "()V" } : Jvm.MethodName) "TaleCourt") ∈ lw_tbl := List.mem_of_getElem? (i := 460) (by decide +kernel)
theorem mw_461 : (Jvm.Cond.instanceMethod ({ cls := "TaleCourt$Image", name := "<init>", desc := "()V" } : Jvm.MethodName)) ∈ tbG := mt_2 (List.mem_of_getElem? (i := 108) (by decide +kernel)) rfl
theorem mw_462 : (Jvm.Cond.code ({ cls := "TaleCourt$Image", name := "<init>", desc := "()V" } : Jvm.MethodName) prog_5_method_1_code (1 : Nat) (Option.none : Option Jvm.ClassFile.FieldType)) ∈ tbG := mt_2 (List.mem_of_getElem? (i := 109) (by decide +kernel)) rfl
theorem mw_463 : (Jvm.Cond.methodLink "TaleCourt$Image" (1 : Nat) ({ cls := "java/lang/Object", name := "<init>", desc := "()V" } : Jvm.MethodName)) ∈ tbG := mt_2 (List.mem_of_getElem? (i := 110) (by decide +kernel)) rfl
theorem mw_464 : (Jvm.Cond.classLink "TaleCourt$Image" (7 : Nat) "TaleCourt$Court") ∈ tbG := mt_2 (List.mem_of_getElem? (i := 111) (by decide +kernel)) rfl
theorem mn_465 : (Jvm.Cond.methodLinkNest "TaleCourt$Image" (9 : Nat) ({ cls := "TaleCourt$Court", name := "<init>", desc := "()V" } : Jvm.MethodName) "TaleCourt") ∈ lw_tbl := List.mem_of_getElem? (i := 465) (by decide +kernel)
theorem mw_466 : (Jvm.Cond.classLink "TaleCourt$Image" (16 : Nat) "TaleCourt$Telling") ∈ tbG := mt_2 (List.mem_of_getElem? (i := 113) (by decide +kernel)) rfl
theorem mw_467 : (Jvm.Cond.methodLink "TaleCourt$Image" (18 : Nat) ({ cls := "TaleCourt$Telling", name := "<init>", desc := "(LTaleCourt$Court;)V" } : Jvm.MethodName)) ∈ tbG := mt_2 (List.mem_of_getElem? (i := 114) (by decide +kernel)) rfl
theorem mw_468 : (Jvm.Cond.fieldLink "TaleCourt$Image" (10 : Nat) "TaleCourt$Image" "court" "LTaleCourt$Court;") ∈ tbG := mt_2 (List.mem_of_getElem? (i := 115) (by decide +kernel)) rfl
theorem mw_469 : (Jvm.Cond.fieldLink "TaleCourt" (359 : Nat) "TaleCourt$Image" "court" "LTaleCourt$Court;") ∈ tbG := mt_2 (List.mem_of_getElem? (i := 116) (by decide +kernel)) rfl
theorem mw_470 : (Jvm.Cond.fieldLink "TaleCourt$Image" (21 : Nat) "TaleCourt$Image" "tale" "LTaleCourt$Telling;") ∈ tbG := mt_2 (List.mem_of_getElem? (i := 117) (by decide +kernel)) rfl
theorem mw_471 : (Jvm.Cond.fieldLink "TaleCourt" (360 : Nat) "TaleCourt$Image" "tale" "LTaleCourt$Telling;") ∈ tbG := mt_2 (List.mem_of_getElem? (i := 118) (by decide +kernel)) rfl
theorem mw_472 : (Jvm.Cond.fieldLink "TaleCourt" (363 : Nat) "TaleCourt$Image" "isKept" "Z") ∈ tbG := mt_2 (List.mem_of_getElem? (i := 119) (by decide +kernel)) rfl
theorem mw_473 : (Jvm.Cond.laysFinal "TaleCourt$Image" "TaleCourt$Image" "court" "LTaleCourt$Court;") ∈ tbG := mt_2 (List.mem_of_getElem? (i := 120) (by decide +kernel)) rfl
theorem mw_475 : (Jvm.Cond.laysFinal "TaleCourt$Image" "TaleCourt$Image" "tale" "LTaleCourt$Telling;") ∈ tbG := mt_2 (List.mem_of_getElem? (i := 122) (by decide +kernel)) rfl
theorem mw_477 : (Jvm.Cond.lays "TaleCourt$Image" "TaleCourt$Image" "isKept" "Z") ∈ tbG := mt_2 (List.mem_of_getElem? (i := 124) (by decide +kernel)) rfl
theorem mw_480 : (Jvm.Cond.fieldLink "TaleCourt" (12 : Nat) "TaleCourt" "reader" "LTaleCourt$Reader;") ∈ tbG := mt_2 (List.mem_of_getElem? (i := 127) (by decide +kernel)) rfl
theorem mw_481 : (Jvm.Cond.fieldLink "TaleCourt" (19 : Nat) "TaleCourt" "court" "LTaleCourt$Court;") ∈ tbG := mt_2 (List.mem_of_getElem? (i := 128) (by decide +kernel)) rfl
theorem mw_482 : (Jvm.Cond.fieldLink "TaleCourt" (23 : Nat) "TaleCourt" "draft" "LTaleCourt$Court;") ∈ tbG := mt_2 (List.mem_of_getElem? (i := 129) (by decide +kernel)) rfl
theorem mw_483 : (Jvm.Cond.fieldLink "TaleCourt" (31 : Nat) "TaleCourt" "now" "LTaleCourt$Telling;") ∈ tbG := mt_2 (List.mem_of_getElem? (i := 130) (by decide +kernel)) rfl
theorem mw_484 : (Jvm.Cond.fieldLink "TaleCourt" (35 : Nat) "TaleCourt" "trial" "LTaleCourt$Telling;") ∈ tbG := mt_2 (List.mem_of_getElem? (i := 131) (by decide +kernel)) rfl
theorem mw_485 : (Jvm.Cond.fieldLink "TaleCourt" (41 : Nat) "TaleCourt" "claims" "LTaleCourt$Claims;") ∈ tbG := mt_2 (List.mem_of_getElem? (i := 132) (by decide +kernel)) rfl
theorem mw_486 : (Jvm.Cond.fieldLink "TaleCourt" (50 : Nat) "TaleCourt" "survey" "LTaleCourt$Survey;") ∈ tbG := mt_2 (List.mem_of_getElem? (i := 133) (by decide +kernel)) rfl
theorem mw_487 : (Jvm.Cond.fieldLink "TaleCourt" (57 : Nat) "TaleCourt" "game" "LTaleCourt$Game;") ∈ tbG := mt_2 (List.mem_of_getElem? (i := 134) (by decide +kernel)) rfl
theorem mw_488 : (Jvm.Cond.fieldLink "TaleCourt" (63 : Nat) "TaleCourt" "slots" "[LTaleCourt$Row;") ∈ tbG := mt_2 (List.mem_of_getElem? (i := 135) (by decide +kernel)) rfl
theorem mw_489 : (Jvm.Cond.fieldLink "TaleCourt" (69 : Nat) "TaleCourt" "images" "[LTaleCourt$Image;") ∈ tbG := mt_2 (List.mem_of_getElem? (i := 136) (by decide +kernel)) rfl
theorem mw_490 : (Jvm.Cond.laysFinal "TaleCourt" "TaleCourt" "reader" "LTaleCourt$Reader;") ∈ tbG := mt_2 (List.mem_of_getElem? (i := 137) (by decide +kernel)) rfl
theorem mw_492 : (Jvm.Cond.laysFinal "TaleCourt" "TaleCourt" "court" "LTaleCourt$Court;") ∈ tbG := mt_2 (List.mem_of_getElem? (i := 139) (by decide +kernel)) rfl
theorem mw_494 : (Jvm.Cond.laysFinal "TaleCourt" "TaleCourt" "draft" "LTaleCourt$Court;") ∈ tbG := mt_2 (List.mem_of_getElem? (i := 141) (by decide +kernel)) rfl
theorem mw_496 : (Jvm.Cond.laysFinal "TaleCourt" "TaleCourt" "now" "LTaleCourt$Telling;") ∈ tbG := mt_2 (List.mem_of_getElem? (i := 143) (by decide +kernel)) rfl
theorem mw_498 : (Jvm.Cond.laysFinal "TaleCourt" "TaleCourt" "trial" "LTaleCourt$Telling;") ∈ tbG := mt_2 (List.mem_of_getElem? (i := 145) (by decide +kernel)) rfl
theorem mw_500 : (Jvm.Cond.laysFinal "TaleCourt" "TaleCourt" "claims" "LTaleCourt$Claims;") ∈ tbG := mt_2 (List.mem_of_getElem? (i := 147) (by decide +kernel)) rfl
theorem mw_502 : (Jvm.Cond.laysFinal "TaleCourt" "TaleCourt" "survey" "LTaleCourt$Survey;") ∈ tbG := mt_2 (List.mem_of_getElem? (i := 149) (by decide +kernel)) rfl
theorem mw_504 : (Jvm.Cond.laysFinal "TaleCourt" "TaleCourt" "game" "LTaleCourt$Game;") ∈ tbG := mt_2 (List.mem_of_getElem? (i := 151) (by decide +kernel)) rfl
theorem mw_506 : (Jvm.Cond.laysFinal "TaleCourt" "TaleCourt" "slots" "[LTaleCourt$Row;") ∈ tbG := mt_2 (List.mem_of_getElem? (i := 153) (by decide +kernel)) rfl
theorem mw_508 : (Jvm.Cond.laysFinal "TaleCourt" "TaleCourt" "images" "[LTaleCourt$Image;") ∈ tbG := mt_2 (List.mem_of_getElem? (i := 155) (by decide +kernel)) rfl
theorem mw_511 : (Jvm.Cond.methodLink "TaleCourtLaw" (13 : Nat) ({ cls := "TaleCourt", name := "feed", desc := "(IIIII)I" } : Jvm.MethodName)) ∈ tbG := mt_2 (List.mem_of_getElem? (i := 158) (by decide +kernel)) rfl
theorem mw_512 : (Jvm.Cond.instanceMethod ({ cls := "TaleCourt", name := "feed", desc := "(IIIII)I" } : Jvm.MethodName)) ∈ tbG := mt_2 (List.mem_of_getElem? (i := 159) (by decide +kernel)) rfl
theorem mw_513 : (Jvm.Cond.selects "TaleCourt" ({ cls := "TaleCourt", name := "feed", desc := "(IIIII)I" } : Jvm.MethodName) ({ cls := "TaleCourt", name := "feed", desc := "(IIIII)I" } : Jvm.MethodName)) ∈ tbG := mt_2 (List.mem_of_getElem? (i := 160) (by decide +kernel)) rfl
theorem mw_514 : (Jvm.Cond.code ({ cls := "TaleCourt", name := "feed", desc := "(IIIII)I" } : Jvm.MethodName) prog_1_method_2_code (6 : Nat) (Option.some Jvm.ClassFile.FieldType.int)) ∈ tbG := mt_2 (List.mem_of_getElem? (i := 161) (by decide +kernel)) rfl
theorem mw_515 : (Jvm.Cond.methodLink "TaleCourt" (79 : Nat) ({ cls := "TaleCourt$Reader", name := "append", desc := "(I)V" } : Jvm.MethodName)) ∈ tbG := mt_2 (List.mem_of_getElem? (i := 162) (by decide +kernel)) rfl
theorem mw_516 : (Jvm.Cond.instanceMethod ({ cls := "TaleCourt$Reader", name := "append", desc := "(I)V" } : Jvm.MethodName)) ∈ tbG := mt_2 (List.mem_of_getElem? (i := 163) (by decide +kernel)) rfl
theorem mw_517 : (Jvm.Cond.selects "TaleCourt$Reader" ({ cls := "TaleCourt$Reader", name := "append", desc := "(I)V" } : Jvm.MethodName) ({ cls := "TaleCourt$Reader", name := "append", desc := "(I)V" } : Jvm.MethodName)) ∈ tbG := mt_2 (List.mem_of_getElem? (i := 164) (by decide +kernel)) rfl
theorem mw_518 : (Jvm.Cond.code ({ cls := "TaleCourt$Reader", name := "append", desc := "(I)V" } : Jvm.MethodName) prog_6_method_2_code (3 : Nat) (Option.none : Option Jvm.ClassFile.FieldType)) ∈ tbG := mt_2 (List.mem_of_getElem? (i := 165) (by decide +kernel)) rfl
theorem mw_519 : (Jvm.Cond.methodLink "TaleCourtLaw" (18 : Nat) ({ cls := "TaleCourt", name := "end", desc := "(I)I" } : Jvm.MethodName)) ∈ tbG := mt_2 (List.mem_of_getElem? (i := 166) (by decide +kernel)) rfl
theorem mw_520 : (Jvm.Cond.instanceMethod ({ cls := "TaleCourt", name := "end", desc := "(I)I" } : Jvm.MethodName)) ∈ tbG := mt_2 (List.mem_of_getElem? (i := 167) (by decide +kernel)) rfl
theorem mw_521 : (Jvm.Cond.selects "TaleCourt" ({ cls := "TaleCourt", name := "end", desc := "(I)I" } : Jvm.MethodName) ({ cls := "TaleCourt", name := "end", desc := "(I)I" } : Jvm.MethodName)) ∈ tbG := mt_2 (List.mem_of_getElem? (i := 168) (by decide +kernel)) rfl
theorem mw_522 : (Jvm.Cond.code ({ cls := "TaleCourt", name := "end", desc := "(I)I" } : Jvm.MethodName) prog_1_method_3_code (2 : Nat) (Option.some Jvm.ClassFile.FieldType.int)) ∈ tbG := mt_2 (List.mem_of_getElem? (i := 169) (by decide +kernel)) rfl
theorem mw_523 : (Jvm.Cond.methodLink "TaleCourtLaw" (23 : Nat) ({ cls := "TaleCourt", name := "court", desc := "()I" } : Jvm.MethodName)) ∈ tbG := mt_2 (List.mem_of_getElem? (i := 170) (by decide +kernel)) rfl
theorem mw_524 : (Jvm.Cond.instanceMethod ({ cls := "TaleCourt", name := "court", desc := "()I" } : Jvm.MethodName)) ∈ tbG := mt_2 (List.mem_of_getElem? (i := 171) (by decide +kernel)) rfl
theorem mw_525 : (Jvm.Cond.selects "TaleCourt" ({ cls := "TaleCourt", name := "court", desc := "()I" } : Jvm.MethodName) ({ cls := "TaleCourt", name := "court", desc := "()I" } : Jvm.MethodName)) ∈ tbG := mt_2 (List.mem_of_getElem? (i := 172) (by decide +kernel)) rfl
theorem mw_526 : (Jvm.Cond.code ({ cls := "TaleCourt", name := "court", desc := "()I" } : Jvm.MethodName) prog_1_method_4_code (1 : Nat) (Option.some Jvm.ClassFile.FieldType.int)) ∈ tbG := mt_2 (List.mem_of_getElem? (i := 173) (by decide +kernel)) rfl
theorem mw_527 : (Jvm.Cond.methodLink "TaleCourt" (83 : Nat) ({ cls := "TaleCourt$Reader", name := "read", desc := "(LTaleCourt$Court;)Z" } : Jvm.MethodName)) ∈ tbG := mt_2 (List.mem_of_getElem? (i := 174) (by decide +kernel)) rfl
theorem mw_528 : (Jvm.Cond.instanceMethod ({ cls := "TaleCourt$Reader", name := "read", desc := "(LTaleCourt$Court;)Z" } : Jvm.MethodName)) ∈ tbG := mt_2 (List.mem_of_getElem? (i := 175) (by decide +kernel)) rfl
theorem mw_529 : (Jvm.Cond.selects "TaleCourt$Reader" ({ cls := "TaleCourt$Reader", name := "read", desc := "(LTaleCourt$Court;)Z" } : Jvm.MethodName) ({ cls := "TaleCourt$Reader", name := "read", desc := "(LTaleCourt$Court;)Z" } : Jvm.MethodName)) ∈ tbG := mt_2 (List.mem_of_getElem? (i := 176) (by decide +kernel)) rfl
theorem mw_530 : (Jvm.Cond.code ({ cls := "TaleCourt$Reader", name := "read", desc := "(LTaleCourt$Court;)Z" } : Jvm.MethodName) prog_6_method_3_code (3 : Nat) (Option.some Jvm.ClassFile.FieldType.boolean)) ∈ tbG := mt_2 (List.mem_of_getElem? (i := 177) (by decide +kernel)) rfl
theorem mw_531 : (Jvm.Cond.methodLink "TaleCourt$Reader" (22 : Nat) ({ cls := "TaleCourt$Court", name := "clear", desc := "()V" } : Jvm.MethodName)) ∈ tbG := mt_2 (List.mem_of_getElem? (i := 178) (by decide +kernel)) rfl
theorem mw_532 : (Jvm.Cond.instanceMethod ({ cls := "TaleCourt$Court", name := "clear", desc := "()V" } : Jvm.MethodName)) ∈ tbG := mt_2 (List.mem_of_getElem? (i := 179) (by decide +kernel)) rfl
theorem mw_533 : (Jvm.Cond.selects "TaleCourt$Court" ({ cls := "TaleCourt$Court", name := "clear", desc := "()V" } : Jvm.MethodName) ({ cls := "TaleCourt$Court", name := "clear", desc := "()V" } : Jvm.MethodName)) ∈ tbG := mt_2 (List.mem_of_getElem? (i := 180) (by decide +kernel)) rfl
theorem mw_534 : (Jvm.Cond.code ({ cls := "TaleCourt$Court", name := "clear", desc := "()V" } : Jvm.MethodName) prog_3_method_2_code (1 : Nat) (Option.none : Option Jvm.ClassFile.FieldType)) ∈ tbG := mt_2 (List.mem_of_getElem? (i := 181) (by decide +kernel)) rfl
theorem mw_535 : (Jvm.Cond.methodLink "TaleCourt$Court" (73 : Nat) ({ cls := "java/util/Arrays", name := "fill", desc := "([II)V" } : Jvm.MethodName)) ∈ tbG := mt_2 (List.mem_of_getElem? (i := 182) (by decide +kernel)) rfl
theorem mw_536 : (Jvm.Cond.static ({ cls := "java/util/Arrays", name := "fill", desc := "([II)V" } : Jvm.MethodName)) ∈ tbG := mt_2 (List.mem_of_getElem? (i := 183) (by decide +kernel)) rfl
theorem mw_537 : (Jvm.Cond.code ({ cls := "java/util/Arrays", name := "fill", desc := "([II)V" } : Jvm.MethodName) prog_18_method_103_code (4 : Nat) (Option.none : Option Jvm.ClassFile.FieldType)) ∈ tbG := mt_2 (List.mem_of_getElem? (i := 184) (by decide +kernel)) rfl
theorem mw_538 : (Jvm.Cond.methodLink "TaleCourt$Reader" (33 : Nat) ({ cls := "TaleCourt$Reader", name := "step", desc := "()V" } : Jvm.MethodName)) ∈ tbG := mt_2 (List.mem_of_getElem? (i := 185) (by decide +kernel)) rfl
theorem mw_540 : (Jvm.Cond.instanceMethod ({ cls := "TaleCourt$Reader", name := "step", desc := "()V" } : Jvm.MethodName)) ∈ tbG := mt_2 (List.mem_of_getElem? (i := 187) (by decide +kernel)) rfl
theorem mw_541 : (Jvm.Cond.code ({ cls := "TaleCourt$Reader", name := "step", desc := "()V" } : Jvm.MethodName) prog_6_method_18_code (3 : Nat) (Option.none : Option Jvm.ClassFile.FieldType)) ∈ tbG := mt_2 (List.mem_of_getElem? (i := 188) (by decide +kernel)) rfl
theorem mw_542 : (Jvm.Cond.methodLink "TaleCourt$Reader" (184 : Nat) ({ cls := "TaleCourt$Reader", name := "byteAt", desc := "(I)I" } : Jvm.MethodName)) ∈ tbG := mt_2 (List.mem_of_getElem? (i := 189) (by decide +kernel)) rfl
theorem mw_544 : (Jvm.Cond.instanceMethod ({ cls := "TaleCourt$Reader", name := "byteAt", desc := "(I)I" } : Jvm.MethodName)) ∈ tbG := mt_2 (List.mem_of_getElem? (i := 191) (by decide +kernel)) rfl
theorem mw_545 : (Jvm.Cond.code ({ cls := "TaleCourt$Reader", name := "byteAt", desc := "(I)I" } : Jvm.MethodName) prog_6_method_16_code (2 : Nat) (Option.some Jvm.ClassFile.FieldType.int)) ∈ tbG := mt_2 (List.mem_of_getElem? (i := 192) (by decide +kernel)) rfl
theorem mw_546 : (Jvm.Cond.methodLink "TaleCourt$Reader" (192 : Nat) ({ cls := "TaleCourt$Reader", name := "kindOf", desc := "(I)I" } : Jvm.MethodName)) ∈ tbG := mt_2 (List.mem_of_getElem? (i := 193) (by decide +kernel)) rfl
theorem mw_547 : (Jvm.Cond.static ({ cls := "TaleCourt$Reader", name := "kindOf", desc := "(I)I" } : Jvm.MethodName)) ∈ tbG := mt_2 (List.mem_of_getElem? (i := 194) (by decide +kernel)) rfl
theorem mw_548 : (Jvm.Cond.code ({ cls := "TaleCourt$Reader", name := "kindOf", desc := "(I)I" } : Jvm.MethodName) prog_6_method_17_code (1 : Nat) (Option.some Jvm.ClassFile.FieldType.int)) ∈ tbG := mt_2 (List.mem_of_getElem? (i := 195) (by decide +kernel)) rfl
theorem mw_549 : (Jvm.Cond.methodLink "TaleCourt$Reader" (39 : Nat) ({ cls := "TaleCourt$Reader", name := "readLine", desc := "(LTaleCourt$Court;)V" } : Jvm.MethodName)) ∈ tbG := mt_2 (List.mem_of_getElem? (i := 196) (by decide +kernel)) rfl
theorem mw_551 : (Jvm.Cond.instanceMethod ({ cls := "TaleCourt$Reader", name := "readLine", desc := "(LTaleCourt$Court;)V" } : Jvm.MethodName)) ∈ tbG := mt_2 (List.mem_of_getElem? (i := 198) (by decide +kernel)) rfl
theorem mw_552 : (Jvm.Cond.code ({ cls := "TaleCourt$Reader", name := "readLine", desc := "(LTaleCourt$Court;)V" } : Jvm.MethodName) prog_6_method_4_code (2 : Nat) (Option.none : Option Jvm.ClassFile.FieldType)) ∈ tbG := mt_2 (List.mem_of_getElem? (i := 199) (by decide +kernel)) rfl
theorem mw_553 : (Jvm.Cond.methodLink "TaleCourt$Reader" (46 : Nat) ({ cls := "TaleCourt$Reader", name := "readHead", desc := "(LTaleCourt$Court;)V" } : Jvm.MethodName)) ∈ tbG := mt_2 (List.mem_of_getElem? (i := 200) (by decide +kernel)) rfl
theorem mw_555 : (Jvm.Cond.instanceMethod ({ cls := "TaleCourt$Reader", name := "readHead", desc := "(LTaleCourt$Court;)V" } : Jvm.MethodName)) ∈ tbG := mt_2 (List.mem_of_getElem? (i := 202) (by decide +kernel)) rfl
theorem mw_556 : (Jvm.Cond.code ({ cls := "TaleCourt$Reader", name := "readHead", desc := "(LTaleCourt$Court;)V" } : Jvm.MethodName) prog_6_method_5_code (2 : Nat) (Option.none : Option Jvm.ClassFile.FieldType)) ∈ tbG := mt_2 (List.mem_of_getElem? (i := 203) (by decide +kernel)) rfl
theorem mw_558 : (Jvm.Cond.methodLink "TaleCourt$Reader" (96 : Nat) ({ cls := "TaleCourt$Reader", name := "takeWord", desc := "(Ljava/lang/String;)V" } : Jvm.MethodName)) ∈ tbG := mt_2 (List.mem_of_getElem? (i := 205) (by decide +kernel)) rfl
theorem mw_560 : (Jvm.Cond.instanceMethod ({ cls := "TaleCourt$Reader", name := "takeWord", desc := "(Ljava/lang/String;)V" } : Jvm.MethodName)) ∈ tbG := mt_2 (List.mem_of_getElem? (i := 207) (by decide +kernel)) rfl
theorem mw_561 : (Jvm.Cond.code ({ cls := "TaleCourt$Reader", name := "takeWord", desc := "(Ljava/lang/String;)V" } : Jvm.MethodName) prog_6_method_13_code (2 : Nat) (Option.none : Option Jvm.ClassFile.FieldType)) ∈ tbG := mt_2 (List.mem_of_getElem? (i := 208) (by decide +kernel)) rfl
theorem mw_562 : (Jvm.Cond.methodLink "TaleCourt$Reader" (51 : Nat) ({ cls := "TaleCourt$Reader", name := "isWord", desc := "(Ljava/lang/String;)Z" } : Jvm.MethodName)) ∈ tbG := mt_2 (List.mem_of_getElem? (i := 209) (by decide +kernel)) rfl
theorem mw_564 : (Jvm.Cond.instanceMethod ({ cls := "TaleCourt$Reader", name := "isWord", desc := "(Ljava/lang/String;)Z" } : Jvm.MethodName)) ∈ tbG := mt_2 (List.mem_of_getElem? (i := 211) (by decide +kernel)) rfl
theorem mw_565 : (Jvm.Cond.code ({ cls := "TaleCourt$Reader", name := "isWord", desc := "(Ljava/lang/String;)Z" } : Jvm.MethodName) prog_6_method_15_code (3 : Nat) (Option.some Jvm.ClassFile.FieldType.boolean)) ∈ tbG := mt_2 (List.mem_of_getElem? (i := 212) (by decide +kernel)) rfl
theorem mw_566 : (Jvm.Cond.methodLink "TaleCourt$Reader" (179 : Nat) ({ cls := "java/lang/String", name := "length", desc := "()I" } : Jvm.MethodName)) ∈ tbG := mt_2 (List.mem_of_getElem? (i := 213) (by decide +kernel)) rfl
theorem mw_567 : (Jvm.Cond.instanceMethod ({ cls := "java/lang/String", name := "length", desc := "()I" } : Jvm.MethodName)) ∈ tbG := mt_2 (List.mem_of_getElem? (i := 214) (by decide +kernel)) rfl
theorem mw_568 : (Jvm.Cond.selects "java/lang/String" ({ cls := "java/lang/String", name := "length", desc := "()I" } : Jvm.MethodName) ({ cls := "java/lang/String", name := "length", desc := "()I" } : Jvm.MethodName)) ∈ tbG := mt_2 (List.mem_of_getElem? (i := 215) (by decide +kernel)) rfl
theorem mw_569 : (Jvm.Cond.code ({ cls := "java/lang/String", name := "length", desc := "()I" } : Jvm.MethodName) prog_14_method_54_code (1 : Nat) (Option.some Jvm.ClassFile.FieldType.int)) ∈ tbG := mt_2 (List.mem_of_getElem? (i := 216) (by decide +kernel)) rfl
theorem mw_570 : (Jvm.Cond.methodLink "java/lang/String" (335 : Nat) ({ cls := "java/lang/String", name := "coder", desc := "()B" } : Jvm.MethodName)) ∈ tbG := mt_2 (List.mem_of_getElem? (i := 217) (by decide +kernel)) rfl
theorem mw_571 : (Jvm.Cond.instanceMethod ({ cls := "java/lang/String", name := "coder", desc := "()B" } : Jvm.MethodName)) ∈ tbG := mt_2 (List.mem_of_getElem? (i := 218) (by decide +kernel)) rfl
theorem mw_572 : (Jvm.Cond.selects "java/lang/String" ({ cls := "java/lang/String", name := "coder", desc := "()B" } : Jvm.MethodName) ({ cls := "java/lang/String", name := "coder", desc := "()B" } : Jvm.MethodName)) ∈ tbG := mt_2 (List.mem_of_getElem? (i := 219) (by decide +kernel)) rfl
theorem mw_573 : (Jvm.Cond.code ({ cls := "java/lang/String", name := "coder", desc := "()B" } : Jvm.MethodName) prog_14_method_152_code (1 : Nat) (Option.some Jvm.ClassFile.FieldType.byte)) ∈ tbG := mt_2 (List.mem_of_getElem? (i := 220) (by decide +kernel)) rfl
theorem mw_574 : (Jvm.Cond.fieldLink "java/lang/String" (38 : Nat) "java/lang/String" "COMPACT_STRINGS" "Z") ∈ tbG := mt_2 (List.mem_of_getElem? (i := 221) (by decide +kernel)) rfl
theorem mw_576 : (Jvm.Cond.methodLink "TaleCourt$Reader" (188 : Nat) ({ cls := "java/lang/String", name := "charAt", desc := "(I)C" } : Jvm.MethodName)) ∈ tbG := mt_2 (List.mem_of_getElem? (i := 223) (by decide +kernel)) rfl
theorem mw_577 : (Jvm.Cond.instanceMethod ({ cls := "java/lang/String", name := "charAt", desc := "(I)C" } : Jvm.MethodName)) ∈ tbG := mt_2 (List.mem_of_getElem? (i := 224) (by decide +kernel)) rfl
theorem mw_578 : (Jvm.Cond.selects "java/lang/String" ({ cls := "java/lang/String", name := "charAt", desc := "(I)C" } : Jvm.MethodName) ({ cls := "java/lang/String", name := "charAt", desc := "(I)C" } : Jvm.MethodName)) ∈ tbG := mt_2 (List.mem_of_getElem? (i := 225) (by decide +kernel)) rfl
theorem mw_579 : (Jvm.Cond.code ({ cls := "java/lang/String", name := "charAt", desc := "(I)C" } : Jvm.MethodName) prog_14_method_56_code (2 : Nat) (Option.some Jvm.ClassFile.FieldType.char)) ∈ tbG := mt_2 (List.mem_of_getElem? (i := 226) (by decide +kernel)) rfl
theorem mw_580 : (Jvm.Cond.methodLink "java/lang/String" (492 : Nat) ({ cls := "java/lang/String", name := "isLatin1", desc := "()Z" } : Jvm.MethodName)) ∈ tbG := mt_2 (List.mem_of_getElem? (i := 227) (by decide +kernel)) rfl
theorem mw_581 : (Jvm.Cond.instanceMethod ({ cls := "java/lang/String", name := "isLatin1", desc := "()Z" } : Jvm.MethodName)) ∈ tbG := mt_2 (List.mem_of_getElem? (i := 228) (by decide +kernel)) rfl
theorem mw_582 : (Jvm.Cond.selects "java/lang/String" ({ cls := "java/lang/String", name := "isLatin1", desc := "()Z" } : Jvm.MethodName) ({ cls := "java/lang/String", name := "isLatin1", desc := "()Z" } : Jvm.MethodName)) ∈ tbG := mt_2 (List.mem_of_getElem? (i := 229) (by decide +kernel)) rfl
theorem mw_583 : (Jvm.Cond.code ({ cls := "java/lang/String", name := "isLatin1", desc := "()Z" } : Jvm.MethodName) prog_14_method_154_code (1 : Nat) (Option.some Jvm.ClassFile.FieldType.boolean)) ∈ tbG := mt_2 (List.mem_of_getElem? (i := 230) (by decide +kernel)) rfl
theorem mw_584 : (Jvm.Cond.methodLink "java/lang/String" (495 : Nat) ({ cls := "java/lang/StringLatin1", name := "charAt", desc := "([BI)C" } : Jvm.MethodName)) ∈ tbG := mt_2 (List.mem_of_getElem? (i := 231) (by decide +kernel)) rfl
theorem mw_585 : (Jvm.Cond.static ({ cls := "java/lang/StringLatin1", name := "charAt", desc := "([BI)C" } : Jvm.MethodName)) ∈ tbG := mt_2 (List.mem_of_getElem? (i := 232) (by decide +kernel)) rfl
theorem mw_586 : (Jvm.Cond.code ({ cls := "java/lang/StringLatin1", name := "charAt", desc := "([BI)C" } : Jvm.MethodName) prog_15_method_2_code (2 : Nat) (Option.some Jvm.ClassFile.FieldType.char)) ∈ tbG := mt_2 (List.mem_of_getElem? (i := 233) (by decide +kernel)) rfl
theorem mw_587 : (Jvm.Cond.methodLink "java/lang/StringLatin1" (9 : Nat) ({ cls := "java/lang/String", name := "checkIndex", desc := "(II)V" } : Jvm.MethodName)) ∈ tbG := mt_2 (List.mem_of_getElem? (i := 234) (by decide +kernel)) rfl
theorem mw_588 : (Jvm.Cond.static ({ cls := "java/lang/String", name := "checkIndex", desc := "(II)V" } : Jvm.MethodName)) ∈ tbG := mt_2 (List.mem_of_getElem? (i := 235) (by decide +kernel)) rfl
theorem mw_589 : (Jvm.Cond.code ({ cls := "java/lang/String", name := "checkIndex", desc := "(II)V" } : Jvm.MethodName) prog_14_method_155_code (2 : Nat) (Option.none : Option Jvm.ClassFile.FieldType)) ∈ tbG := mt_2 (List.mem_of_getElem? (i := 236) (by decide +kernel)) rfl
theorem mw_590 : (Jvm.Cond.fieldLink "java/lang/String" (1053 : Nat) "jdk/internal/util/Preconditions" "SIOOBE_FORMATTER" "Ljava/util/function/BiFunction;") ∈ tbG := mt_2 (List.mem_of_getElem? (i := 237) (by decide +kernel)) rfl
theorem mw_592 : (Jvm.Cond.methodLink "java/lang/String" (1059 : Nat) ({ cls := "jdk/internal/util/Preconditions", name := "checkIndex", desc := "(IILjava/util/function/BiFunction;)I" } : Jvm.MethodName)) ∈ tbG := mt_2 (List.mem_of_getElem? (i := 239) (by decide +kernel)) rfl
theorem mw_593 : (Jvm.Cond.static ({ cls := "jdk/internal/util/Preconditions", name := "checkIndex", desc := "(IILjava/util/function/BiFunction;)I" } : Jvm.MethodName)) ∈ tbG := mt_3 (List.mem_of_getElem? (i := 0) (by decide +kernel)) rfl
theorem mw_594 : (Jvm.Cond.code ({ cls := "jdk/internal/util/Preconditions", name := "checkIndex", desc := "(IILjava/util/function/BiFunction;)I" } : Jvm.MethodName) prog_19_method_11_code (3 : Nat) (Option.some Jvm.ClassFile.FieldType.int)) ∈ tbG := mt_3 (List.mem_of_getElem? (i := 1) (by decide +kernel)) rfl
theorem mw_595 : (Jvm.Cond.methodLink "java/lang/String" (498 : Nat) ({ cls := "java/lang/StringUTF16", name := "charAt", desc := "([BI)C" } : Jvm.MethodName)) ∈ tbG := mt_3 (List.mem_of_getElem? (i := 2) (by decide +kernel)) rfl
theorem mw_596 : (Jvm.Cond.static ({ cls := "java/lang/StringUTF16", name := "charAt", desc := "([BI)C" } : Jvm.MethodName)) ∈ tbG := mt_3 (List.mem_of_getElem? (i := 3) (by decide +kernel)) rfl
theorem mw_597 : (Jvm.Cond.code ({ cls := "java/lang/StringUTF16", name := "charAt", desc := "([BI)C" } : Jvm.MethodName) prog_16_method_83_code (2 : Nat) (Option.some Jvm.ClassFile.FieldType.char)) ∈ tbG := mt_3 (List.mem_of_getElem? (i := 4) (by decide +kernel)) rfl
theorem mw_598 : (Jvm.Cond.methodLink "java/lang/StringUTF16" (67 : Nat) ({ cls := "java/lang/StringUTF16", name := "checkIndex", desc := "(I[B)V" } : Jvm.MethodName)) ∈ tbG := mt_3 (List.mem_of_getElem? (i := 5) (by decide +kernel)) rfl
theorem mw_599 : (Jvm.Cond.static ({ cls := "java/lang/StringUTF16", name := "checkIndex", desc := "(I[B)V" } : Jvm.MethodName)) ∈ tbG := mt_3 (List.mem_of_getElem? (i := 6) (by decide +kernel)) rfl
theorem mw_600 : (Jvm.Cond.code ({ cls := "java/lang/StringUTF16", name := "checkIndex", desc := "(I[B)V" } : Jvm.MethodName) prog_16_method_91_code (2 : Nat) (Option.none : Option Jvm.ClassFile.FieldType)) ∈ tbG := mt_3 (List.mem_of_getElem? (i := 7) (by decide +kernel)) rfl
theorem mw_601 : (Jvm.Cond.methodLink "java/lang/StringUTF16" (48 : Nat) ({ cls := "java/lang/StringUTF16", name := "length", desc := "([B)I" } : Jvm.MethodName)) ∈ tbG := mt_3 (List.mem_of_getElem? (i := 8) (by decide +kernel)) rfl
theorem mw_602 : (Jvm.Cond.static ({ cls := "java/lang/StringUTF16", name := "length", desc := "([B)I" } : Jvm.MethodName)) ∈ tbG := mt_3 (List.mem_of_getElem? (i := 9) (by decide +kernel)) rfl
theorem mw_603 : (Jvm.Cond.code ({ cls := "java/lang/StringUTF16", name := "length", desc := "([B)I" } : Jvm.MethodName) prog_16_method_6_code (1 : Nat) (Option.some Jvm.ClassFile.FieldType.int)) ∈ tbG := mt_3 (List.mem_of_getElem? (i := 10) (by decide +kernel)) rfl
theorem mw_604 : (Jvm.Cond.methodLink "java/lang/StringUTF16" (414 : Nat) ({ cls := "java/lang/String", name := "checkIndex", desc := "(II)V" } : Jvm.MethodName)) ∈ tbG := mt_3 (List.mem_of_getElem? (i := 11) (by decide +kernel)) rfl
theorem mw_605 : (Jvm.Cond.methodLink "java/lang/StringUTF16" (71 : Nat) ({ cls := "java/lang/StringUTF16", name := "getChar", desc := "([BI)C" } : Jvm.MethodName)) ∈ tbG := mt_3 (List.mem_of_getElem? (i := 12) (by decide +kernel)) rfl
theorem mw_606 : (Jvm.Cond.static ({ cls := "java/lang/StringUTF16", name := "getChar", desc := "([BI)C" } : Jvm.MethodName)) ∈ tbG := mt_3 (List.mem_of_getElem? (i := 13) (by decide +kernel)) rfl
theorem mw_607 : (Jvm.Cond.code ({ cls := "java/lang/StringUTF16", name := "getChar", desc := "([BI)C" } : Jvm.MethodName) prog_16_method_5_code (2 : Nat) (Option.some Jvm.ClassFile.FieldType.char)) ∈ tbG := mt_3 (List.mem_of_getElem? (i := 14) (by decide +kernel)) rfl
theorem mw_608 : (Jvm.Cond.fieldLink "java/lang/StringUTF16" (44 : Nat) "java/lang/StringUTF16" "$assertionsDisabled" "Z") ∈ tbG := mt_3 (List.mem_of_getElem? (i := 15) (by decide +kernel)) rfl
theorem mw_610 : (Jvm.Cond.fieldLink "java/lang/StringUTF16" (59 : Nat) "java/lang/StringUTF16" "HI_BYTE_SHIFT" "I") ∈ tbG := mt_3 (List.mem_of_getElem? (i := 17) (by decide +kernel)) rfl
theorem mw_612 : (Jvm.Cond.fieldLink "java/lang/StringUTF16" (63 : Nat) "java/lang/StringUTF16" "LO_BYTE_SHIFT" "I") ∈ tbG := mt_3 (List.mem_of_getElem? (i := 19) (by decide +kernel)) rfl
theorem mw_614 : (Jvm.Cond.methodLink "TaleCourt$Reader" (90 : Nat) ({ cls := "TaleCourt$Reader", name := "fail", desc := "(I)V" } : Jvm.MethodName)) ∈ tbG := mt_3 (List.mem_of_getElem? (i := 21) (by decide +kernel)) rfl
theorem mw_616 : (Jvm.Cond.instanceMethod ({ cls := "TaleCourt$Reader", name := "fail", desc := "(I)V" } : Jvm.MethodName)) ∈ tbG := mt_3 (List.mem_of_getElem? (i := 23) (by decide +kernel)) rfl
theorem mw_617 : (Jvm.Cond.code ({ cls := "TaleCourt$Reader", name := "fail", desc := "(I)V" } : Jvm.MethodName) prog_6_method_12_code (2 : Nat) (Option.none : Option Jvm.ClassFile.FieldType)) ∈ tbG := mt_3 (List.mem_of_getElem? (i := 24) (by decide +kernel)) rfl
theorem mw_619 : (Jvm.Cond.methodLink "TaleCourt$Reader" (81 : Nat) ({ cls := "TaleCourt$Reader", name := "takeNumber", desc := "(III)I" } : Jvm.MethodName)) ∈ tbG := mt_3 (List.mem_of_getElem? (i := 26) (by decide +kernel)) rfl
theorem mw_621 : (Jvm.Cond.instanceMethod ({ cls := "TaleCourt$Reader", name := "takeNumber", desc := "(III)I" } : Jvm.MethodName)) ∈ tbG := mt_3 (List.mem_of_getElem? (i := 28) (by decide +kernel)) rfl
theorem mw_622 : (Jvm.Cond.code ({ cls := "TaleCourt$Reader", name := "takeNumber", desc := "(III)I" } : Jvm.MethodName) prog_6_method_14_code (5 : Nat) (Option.some Jvm.ClassFile.FieldType.int)) ∈ tbG := mt_3 (List.mem_of_getElem? (i := 29) (by decide +kernel)) rfl
theorem mw_623 : (Jvm.Cond.methodLink "TaleCourt$Reader" (175 : Nat) ({ cls := "TaleCourt$Reader", name := "numberHere", desc := "()I" } : Jvm.MethodName)) ∈ tbG := mt_3 (List.mem_of_getElem? (i := 30) (by decide +kernel)) rfl
theorem mw_625 : (Jvm.Cond.instanceMethod ({ cls := "TaleCourt$Reader", name := "numberHere", desc := "()I" } : Jvm.MethodName)) ∈ tbG := mt_3 (List.mem_of_getElem? (i := 32) (by decide +kernel)) rfl
theorem mw_626 : (Jvm.Cond.code ({ cls := "TaleCourt$Reader", name := "numberHere", desc := "()I" } : Jvm.MethodName) prog_6_method_19_code (3 : Nat) (Option.some Jvm.ClassFile.FieldType.int)) ∈ tbG := mt_3 (List.mem_of_getElem? (i := 33) (by decide +kernel)) rfl
theorem mw_627 : (Jvm.Cond.methodLink "TaleCourt$Reader" (195 : Nat) ({ cls := "java/lang/Math", name := "min", desc := "(II)I" } : Jvm.MethodName)) ∈ tbG := mt_3 (List.mem_of_getElem? (i := 34) (by decide +kernel)) rfl
theorem mw_628 : (Jvm.Cond.static ({ cls := "java/lang/Math", name := "min", desc := "(II)I" } : Jvm.MethodName)) ∈ tbG := mt_3 (List.mem_of_getElem? (i := 35) (by decide +kernel)) rfl
theorem mw_629 : (Jvm.Cond.code ({ cls := "java/lang/Math", name := "min", desc := "(II)I" } : Jvm.MethodName) prog_13_method_69_code (2 : Nat) (Option.some Jvm.ClassFile.FieldType.int)) ∈ tbG := mt_3 (List.mem_of_getElem? (i := 36) (by decide +kernel)) rfl
theorem mw_632 : (Jvm.Cond.methodLink "TaleCourt$Reader" (55 : Nat) ({ cls := "TaleCourt$Reader", name := "readMotif", desc := "(LTaleCourt$Court;)V" } : Jvm.MethodName)) ∈ tbG := mt_3 (List.mem_of_getElem? (i := 39) (by decide +kernel)) rfl
theorem mw_634 : (Jvm.Cond.instanceMethod ({ cls := "TaleCourt$Reader", name := "readMotif", desc := "(LTaleCourt$Court;)V" } : Jvm.MethodName)) ∈ tbG := mt_3 (List.mem_of_getElem? (i := 41) (by decide +kernel)) rfl
theorem mw_635 : (Jvm.Cond.code ({ cls := "TaleCourt$Reader", name := "readMotif", desc := "(LTaleCourt$Court;)V" } : Jvm.MethodName) prog_6_method_6_code (4 : Nat) (Option.none : Option Jvm.ClassFile.FieldType)) ∈ tbG := mt_3 (List.mem_of_getElem? (i := 42) (by decide +kernel)) rfl
theorem mw_637 : (Jvm.Cond.methodLink "TaleCourt$Reader" (114 : Nat) ({ cls := "TaleCourt$Reader", name := "readMark", desc := "(LTaleCourt$Court;I)V" } : Jvm.MethodName)) ∈ tbG := mt_3 (List.mem_of_getElem? (i := 44) (by decide +kernel)) rfl
theorem mw_639 : (Jvm.Cond.instanceMethod ({ cls := "TaleCourt$Reader", name := "readMark", desc := "(LTaleCourt$Court;I)V" } : Jvm.MethodName)) ∈ tbG := mt_3 (List.mem_of_getElem? (i := 46) (by decide +kernel)) rfl
theorem mw_640 : (Jvm.Cond.code ({ cls := "TaleCourt$Reader", name := "readMark", desc := "(LTaleCourt$Court;I)V" } : Jvm.MethodName) prog_6_method_7_code (4 : Nat) (Option.none : Option Jvm.ClassFile.FieldType)) ∈ tbG := mt_3 (List.mem_of_getElem? (i := 47) (by decide +kernel)) rfl
theorem mw_647 : (Jvm.Cond.methodLink "TaleCourt$Reader" (60 : Nat) ({ cls := "TaleCourt$Reader", name := "readJoin", desc := "(LTaleCourt$Court;)V" } : Jvm.MethodName)) ∈ tbG := mt_3 (List.mem_of_getElem? (i := 54) (by decide +kernel)) rfl
theorem mw_649 : (Jvm.Cond.instanceMethod ({ cls := "TaleCourt$Reader", name := "readJoin", desc := "(LTaleCourt$Court;)V" } : Jvm.MethodName)) ∈ tbG := mt_3 (List.mem_of_getElem? (i := 56) (by decide +kernel)) rfl
theorem mw_650 : (Jvm.Cond.code ({ cls := "TaleCourt$Reader", name := "readJoin", desc := "(LTaleCourt$Court;)V" } : Jvm.MethodName) prog_6_method_8_code (4 : Nat) (Option.none : Option Jvm.ClassFile.FieldType)) ∈ tbG := mt_3 (List.mem_of_getElem? (i := 57) (by decide +kernel)) rfl
theorem mw_653 : (Jvm.Cond.methodLink "TaleCourt$Reader" (65 : Nat) ({ cls := "TaleCourt$Reader", name := "readClash", desc := "(LTaleCourt$Court;)V" } : Jvm.MethodName)) ∈ tbG := mt_3 (List.mem_of_getElem? (i := 60) (by decide +kernel)) rfl
theorem mw_655 : (Jvm.Cond.instanceMethod ({ cls := "TaleCourt$Reader", name := "readClash", desc := "(LTaleCourt$Court;)V" } : Jvm.MethodName)) ∈ tbG := mt_3 (List.mem_of_getElem? (i := 62) (by decide +kernel)) rfl
theorem mw_656 : (Jvm.Cond.code ({ cls := "TaleCourt$Reader", name := "readClash", desc := "(LTaleCourt$Court;)V" } : Jvm.MethodName) prog_6_method_9_code (4 : Nat) (Option.none : Option Jvm.ClassFile.FieldType)) ∈ tbG := mt_3 (List.mem_of_getElem? (i := 63) (by decide +kernel)) rfl
theorem mw_659 : (Jvm.Cond.methodLink "TaleCourt$Reader" (70 : Nat) ({ cls := "TaleCourt$Reader", name := "readKeeps", desc := "(LTaleCourt$Court;)V" } : Jvm.MethodName)) ∈ tbG := mt_3 (List.mem_of_getElem? (i := 66) (by decide +kernel)) rfl
theorem mw_661 : (Jvm.Cond.instanceMethod ({ cls := "TaleCourt$Reader", name := "readKeeps", desc := "(LTaleCourt$Court;)V" } : Jvm.MethodName)) ∈ tbG := mt_3 (List.mem_of_getElem? (i := 68) (by decide +kernel)) rfl
theorem mw_662 : (Jvm.Cond.code ({ cls := "TaleCourt$Reader", name := "readKeeps", desc := "(LTaleCourt$Court;)V" } : Jvm.MethodName) prog_6_method_10_code (3 : Nat) (Option.none : Option Jvm.ClassFile.FieldType)) ∈ tbG := mt_3 (List.mem_of_getElem? (i := 69) (by decide +kernel)) rfl
theorem mw_663 : (Jvm.Cond.methodLink "TaleCourt$Reader" (157 : Nat) ({ cls := "TaleCourt$Court", name := "setKeeper", desc := "(II)V" } : Jvm.MethodName)) ∈ tbG := mt_3 (List.mem_of_getElem? (i := 70) (by decide +kernel)) rfl
theorem mw_664 : (Jvm.Cond.instanceMethod ({ cls := "TaleCourt$Court", name := "setKeeper", desc := "(II)V" } : Jvm.MethodName)) ∈ tbG := mt_3 (List.mem_of_getElem? (i := 71) (by decide +kernel)) rfl
theorem mw_665 : (Jvm.Cond.selects "TaleCourt$Court" ({ cls := "TaleCourt$Court", name := "setKeeper", desc := "(II)V" } : Jvm.MethodName) ({ cls := "TaleCourt$Court", name := "setKeeper", desc := "(II)V" } : Jvm.MethodName)) ∈ tbG := mt_3 (List.mem_of_getElem? (i := 72) (by decide +kernel)) rfl
theorem mw_666 : (Jvm.Cond.code ({ cls := "TaleCourt$Court", name := "setKeeper", desc := "(II)V" } : Jvm.MethodName) prog_3_method_11_code (5 : Nat) (Option.none : Option Jvm.ClassFile.FieldType)) ∈ tbG := mt_3 (List.mem_of_getElem? (i := 73) (by decide +kernel)) rfl
theorem mw_669 : (Jvm.Cond.methodLink "TaleCourt$Reader" (87 : Nat) ({ cls := "TaleCourt$Reader", name := "readListener", desc := "(LTaleCourt$Court;)V" } : Jvm.MethodName)) ∈ tbG := mt_3 (List.mem_of_getElem? (i := 76) (by decide +kernel)) rfl
theorem mw_671 : (Jvm.Cond.instanceMethod ({ cls := "TaleCourt$Reader", name := "readListener", desc := "(LTaleCourt$Court;)V" } : Jvm.MethodName)) ∈ tbG := mt_3 (List.mem_of_getElem? (i := 78) (by decide +kernel)) rfl
theorem mw_672 : (Jvm.Cond.code ({ cls := "TaleCourt$Reader", name := "readListener", desc := "(LTaleCourt$Court;)V" } : Jvm.MethodName) prog_6_method_11_code (5 : Nat) (Option.none : Option Jvm.ClassFile.FieldType)) ∈ tbG := mt_3 (List.mem_of_getElem? (i := 79) (by decide +kernel)) rfl
theorem mw_674 : (Jvm.Cond.methodLink "TaleCourt" (87 : Nat) ({ cls := "TaleCourt$Court", name := "copyFrom", desc := "(LTaleCourt$Court;)V" } : Jvm.MethodName)) ∈ tbG := mt_3 (List.mem_of_getElem? (i := 81) (by decide +kernel)) rfl
theorem mw_675 : (Jvm.Cond.instanceMethod ({ cls := "TaleCourt$Court", name := "copyFrom", desc := "(LTaleCourt$Court;)V" } : Jvm.MethodName)) ∈ tbG := mt_3 (List.mem_of_getElem? (i := 82) (by decide +kernel)) rfl
theorem mw_676 : (Jvm.Cond.selects "TaleCourt$Court" ({ cls := "TaleCourt$Court", name := "copyFrom", desc := "(LTaleCourt$Court;)V" } : Jvm.MethodName) ({ cls := "TaleCourt$Court", name := "copyFrom", desc := "(LTaleCourt$Court;)V" } : Jvm.MethodName)) ∈ tbG := mt_3 (List.mem_of_getElem? (i := 83) (by decide +kernel)) rfl
theorem mw_677 : (Jvm.Cond.code ({ cls := "TaleCourt$Court", name := "copyFrom", desc := "(LTaleCourt$Court;)V" } : Jvm.MethodName) prog_3_method_3_code (2 : Nat) (Option.none : Option Jvm.ClassFile.FieldType)) ∈ tbG := mt_3 (List.mem_of_getElem? (i := 84) (by decide +kernel)) rfl
theorem mw_678 : (Jvm.Cond.methodLink "TaleCourt$Court" (79 : Nat) ({ cls := "java/lang/System", name := "arraycopy", desc := "(Ljava/lang/Object;ILjava/lang/Object;II)V" } : Jvm.MethodName)) ∈ tbG := mt_3 (List.mem_of_getElem? (i := 85) (by decide +kernel)) rfl
theorem mw_679 : (Jvm.Cond.static ({ cls := "java/lang/System", name := "arraycopy", desc := "(Ljava/lang/Object;ILjava/lang/Object;II)V" } : Jvm.MethodName)) ∈ tbG := mt_3 (List.mem_of_getElem? (i := 86) (by decide +kernel)) rfl
theorem mw_680 : (Jvm.Cond.native ({ cls := "java/lang/System", name := "arraycopy", desc := "(Ljava/lang/Object;ILjava/lang/Object;II)V" } : Jvm.MethodName)) ∈ tbG := mt_3 (List.mem_of_getElem? (i := 87) (by decide +kernel)) rfl
theorem mw_681 : (Jvm.Cond.methodLink "TaleCourt" (90 : Nat) ({ cls := "TaleCourt$Telling", name := "clear", desc := "()V" } : Jvm.MethodName)) ∈ tbG := mt_3 (List.mem_of_getElem? (i := 88) (by decide +kernel)) rfl
theorem mw_682 : (Jvm.Cond.instanceMethod ({ cls := "TaleCourt$Telling", name := "clear", desc := "()V" } : Jvm.MethodName)) ∈ tbG := mt_3 (List.mem_of_getElem? (i := 89) (by decide +kernel)) rfl
theorem mw_683 : (Jvm.Cond.selects "TaleCourt$Telling" ({ cls := "TaleCourt$Telling", name := "clear", desc := "()V" } : Jvm.MethodName) ({ cls := "TaleCourt$Telling", name := "clear", desc := "()V" } : Jvm.MethodName)) ∈ tbG := mt_3 (List.mem_of_getElem? (i := 90) (by decide +kernel)) rfl
theorem mw_684 : (Jvm.Cond.code ({ cls := "TaleCourt$Telling", name := "clear", desc := "()V" } : Jvm.MethodName) prog_9_method_2_code (1 : Nat) (Option.none : Option Jvm.ClassFile.FieldType)) ∈ tbG := mt_3 (List.mem_of_getElem? (i := 91) (by decide +kernel)) rfl
theorem mw_685 : (Jvm.Cond.methodLink "TaleCourt$Telling" (56 : Nat) ({ cls := "java/util/Arrays", name := "fill", desc := "([II)V" } : Jvm.MethodName)) ∈ tbG := mt_3 (List.mem_of_getElem? (i := 92) (by decide +kernel)) rfl
theorem mw_686 : (Jvm.Cond.methodLink "TaleCourtLaw" (28 : Nat) ({ cls := "TaleCourt", name := "fault", desc := "(I)I" } : Jvm.MethodName)) ∈ tbG := mt_3 (List.mem_of_getElem? (i := 93) (by decide +kernel)) rfl
theorem mw_687 : (Jvm.Cond.instanceMethod ({ cls := "TaleCourt", name := "fault", desc := "(I)I" } : Jvm.MethodName)) ∈ tbG := mt_3 (List.mem_of_getElem? (i := 94) (by decide +kernel)) rfl
theorem mw_688 : (Jvm.Cond.selects "TaleCourt" ({ cls := "TaleCourt", name := "fault", desc := "(I)I" } : Jvm.MethodName) ({ cls := "TaleCourt", name := "fault", desc := "(I)I" } : Jvm.MethodName)) ∈ tbG := mt_3 (List.mem_of_getElem? (i := 95) (by decide +kernel)) rfl
theorem mw_689 : (Jvm.Cond.code ({ cls := "TaleCourt", name := "fault", desc := "(I)I" } : Jvm.MethodName) prog_1_method_5_code (2 : Nat) (Option.some Jvm.ClassFile.FieldType.int)) ∈ tbG := mt_3 (List.mem_of_getElem? (i := 96) (by decide +kernel)) rfl
theorem mw_690 : (Jvm.Cond.methodLink "TaleCourtLaw" (32 : Nat) ({ cls := "TaleCourt", name := "motif", desc := "(II)I" } : Jvm.MethodName)) ∈ tbG := mt_3 (List.mem_of_getElem? (i := 97) (by decide +kernel)) rfl
theorem mw_691 : (Jvm.Cond.instanceMethod ({ cls := "TaleCourt", name := "motif", desc := "(II)I" } : Jvm.MethodName)) ∈ tbG := mt_3 (List.mem_of_getElem? (i := 98) (by decide +kernel)) rfl
theorem mw_692 : (Jvm.Cond.selects "TaleCourt" ({ cls := "TaleCourt", name := "motif", desc := "(II)I" } : Jvm.MethodName) ({ cls := "TaleCourt", name := "motif", desc := "(II)I" } : Jvm.MethodName)) ∈ tbG := mt_3 (List.mem_of_getElem? (i := 99) (by decide +kernel)) rfl
theorem mw_693 : (Jvm.Cond.code ({ cls := "TaleCourt", name := "motif", desc := "(II)I" } : Jvm.MethodName) prog_1_method_6_code (3 : Nat) (Option.some Jvm.ClassFile.FieldType.int)) ∈ tbG := mt_3 (List.mem_of_getElem? (i := 100) (by decide +kernel)) rfl
theorem mw_694 : (Jvm.Cond.methodLink "TaleCourt" (102 : Nat) ({ cls := "TaleCourt$Court", name := "hasMotif", desc := "(I)Z" } : Jvm.MethodName)) ∈ tbG := mt_3 (List.mem_of_getElem? (i := 101) (by decide +kernel)) rfl
theorem mw_695 : (Jvm.Cond.instanceMethod ({ cls := "TaleCourt$Court", name := "hasMotif", desc := "(I)Z" } : Jvm.MethodName)) ∈ tbG := mt_3 (List.mem_of_getElem? (i := 102) (by decide +kernel)) rfl
theorem mw_696 : (Jvm.Cond.selects "TaleCourt$Court" ({ cls := "TaleCourt$Court", name := "hasMotif", desc := "(I)Z" } : Jvm.MethodName) ({ cls := "TaleCourt$Court", name := "hasMotif", desc := "(I)Z" } : Jvm.MethodName)) ∈ tbG := mt_3 (List.mem_of_getElem? (i := 103) (by decide +kernel)) rfl
theorem mw_697 : (Jvm.Cond.code ({ cls := "TaleCourt$Court", name := "hasMotif", desc := "(I)Z" } : Jvm.MethodName) prog_3_method_5_code (2 : Nat) (Option.some Jvm.ClassFile.FieldType.boolean)) ∈ tbG := mt_3 (List.mem_of_getElem? (i := 104) (by decide +kernel)) rfl
theorem mw_698 : (Jvm.Cond.methodLink "TaleCourtLaw" (37 : Nat) ({ cls := "TaleCourt", name := "joins", desc := "(II)I" } : Jvm.MethodName)) ∈ tbG := mt_3 (List.mem_of_getElem? (i := 105) (by decide +kernel)) rfl
theorem mw_699 : (Jvm.Cond.instanceMethod ({ cls := "TaleCourt", name := "joins", desc := "(II)I" } : Jvm.MethodName)) ∈ tbG := mt_3 (List.mem_of_getElem? (i := 106) (by decide +kernel)) rfl
theorem mw_700 : (Jvm.Cond.selects "TaleCourt" ({ cls := "TaleCourt", name := "joins", desc := "(II)I" } : Jvm.MethodName) ({ cls := "TaleCourt", name := "joins", desc := "(II)I" } : Jvm.MethodName)) ∈ tbG := mt_3 (List.mem_of_getElem? (i := 107) (by decide +kernel)) rfl
theorem mw_701 : (Jvm.Cond.code ({ cls := "TaleCourt", name := "joins", desc := "(II)I" } : Jvm.MethodName) prog_1_method_7_code (3 : Nat) (Option.some Jvm.ClassFile.FieldType.int)) ∈ tbG := mt_3 (List.mem_of_getElem? (i := 108) (by decide +kernel)) rfl
theorem mw_702 : (Jvm.Cond.methodLink "TaleCourtLaw" (41 : Nat) ({ cls := "TaleCourt", name := "clash", desc := "(II)I" } : Jvm.MethodName)) ∈ tbG := mt_3 (List.mem_of_getElem? (i := 109) (by decide +kernel)) rfl
theorem mw_703 : (Jvm.Cond.instanceMethod ({ cls := "TaleCourt", name := "clash", desc := "(II)I" } : Jvm.MethodName)) ∈ tbG := mt_3 (List.mem_of_getElem? (i := 110) (by decide +kernel)) rfl
theorem mw_704 : (Jvm.Cond.selects "TaleCourt" ({ cls := "TaleCourt", name := "clash", desc := "(II)I" } : Jvm.MethodName) ({ cls := "TaleCourt", name := "clash", desc := "(II)I" } : Jvm.MethodName)) ∈ tbG := mt_3 (List.mem_of_getElem? (i := 111) (by decide +kernel)) rfl
theorem mw_705 : (Jvm.Cond.code ({ cls := "TaleCourt", name := "clash", desc := "(II)I" } : Jvm.MethodName) prog_1_method_8_code (3 : Nat) (Option.some Jvm.ClassFile.FieldType.int)) ∈ tbG := mt_3 (List.mem_of_getElem? (i := 112) (by decide +kernel)) rfl
theorem mw_706 : (Jvm.Cond.methodLink "TaleCourtLaw" (45 : Nat) ({ cls := "TaleCourt", name := "behind", desc := "(I)I" } : Jvm.MethodName)) ∈ tbG := mt_3 (List.mem_of_getElem? (i := 113) (by decide +kernel)) rfl
theorem mw_707 : (Jvm.Cond.instanceMethod ({ cls := "TaleCourt", name := "behind", desc := "(I)I" } : Jvm.MethodName)) ∈ tbG := mt_3 (List.mem_of_getElem? (i := 114) (by decide +kernel)) rfl
theorem mw_708 : (Jvm.Cond.selects "TaleCourt" ({ cls := "TaleCourt", name := "behind", desc := "(I)I" } : Jvm.MethodName) ({ cls := "TaleCourt", name := "behind", desc := "(I)I" } : Jvm.MethodName)) ∈ tbG := mt_3 (List.mem_of_getElem? (i := 115) (by decide +kernel)) rfl
theorem mw_709 : (Jvm.Cond.code ({ cls := "TaleCourt", name := "behind", desc := "(I)I" } : Jvm.MethodName) prog_1_method_9_code (2 : Nat) (Option.some Jvm.ClassFile.FieldType.int)) ∈ tbG := mt_3 (List.mem_of_getElem? (i := 116) (by decide +kernel)) rfl
theorem mw_710 : (Jvm.Cond.methodLink "TaleCourtLaw" (49 : Nat) ({ cls := "TaleCourt", name := "ahead", desc := "(I)I" } : Jvm.MethodName)) ∈ tbG := mt_3 (List.mem_of_getElem? (i := 117) (by decide +kernel)) rfl
theorem mw_711 : (Jvm.Cond.instanceMethod ({ cls := "TaleCourt", name := "ahead", desc := "(I)I" } : Jvm.MethodName)) ∈ tbG := mt_3 (List.mem_of_getElem? (i := 118) (by decide +kernel)) rfl
theorem mw_712 : (Jvm.Cond.selects "TaleCourt" ({ cls := "TaleCourt", name := "ahead", desc := "(I)I" } : Jvm.MethodName) ({ cls := "TaleCourt", name := "ahead", desc := "(I)I" } : Jvm.MethodName)) ∈ tbG := mt_3 (List.mem_of_getElem? (i := 119) (by decide +kernel)) rfl
theorem mw_713 : (Jvm.Cond.code ({ cls := "TaleCourt", name := "ahead", desc := "(I)I" } : Jvm.MethodName) prog_1_method_10_code (2 : Nat) (Option.some Jvm.ClassFile.FieldType.int)) ∈ tbG := mt_3 (List.mem_of_getElem? (i := 120) (by decide +kernel)) rfl
theorem mw_714 : (Jvm.Cond.methodLink "TaleCourt" (137 : Nat) ({ cls := "TaleCourt$Court", name := "leaders", desc := "(I)I" } : Jvm.MethodName)) ∈ tbG := mt_3 (List.mem_of_getElem? (i := 121) (by decide +kernel)) rfl
theorem mw_715 : (Jvm.Cond.instanceMethod ({ cls := "TaleCourt$Court", name := "leaders", desc := "(I)I" } : Jvm.MethodName)) ∈ tbG := mt_3 (List.mem_of_getElem? (i := 122) (by decide +kernel)) rfl
theorem mw_716 : (Jvm.Cond.selects "TaleCourt$Court" ({ cls := "TaleCourt$Court", name := "leaders", desc := "(I)I" } : Jvm.MethodName) ({ cls := "TaleCourt$Court", name := "leaders", desc := "(I)I" } : Jvm.MethodName)) ∈ tbG := mt_3 (List.mem_of_getElem? (i := 123) (by decide +kernel)) rfl
theorem mw_717 : (Jvm.Cond.code ({ cls := "TaleCourt$Court", name := "leaders", desc := "(I)I" } : Jvm.MethodName) prog_3_method_13_code (4 : Nat) (Option.some Jvm.ClassFile.FieldType.int)) ∈ tbG := mt_3 (List.mem_of_getElem? (i := 124) (by decide +kernel)) rfl
theorem mw_718 : (Jvm.Cond.methodLink "TaleCourtLaw" (53 : Nat) ({ cls := "TaleCourt", name := "comes", desc := "(I)I" } : Jvm.MethodName)) ∈ tbG := mt_3 (List.mem_of_getElem? (i := 125) (by decide +kernel)) rfl
theorem mw_719 : (Jvm.Cond.instanceMethod ({ cls := "TaleCourt", name := "comes", desc := "(I)I" } : Jvm.MethodName)) ∈ tbG := mt_3 (List.mem_of_getElem? (i := 126) (by decide +kernel)) rfl
theorem mw_720 : (Jvm.Cond.selects "TaleCourt" ({ cls := "TaleCourt", name := "comes", desc := "(I)I" } : Jvm.MethodName) ({ cls := "TaleCourt", name := "comes", desc := "(I)I" } : Jvm.MethodName)) ∈ tbG := mt_3 (List.mem_of_getElem? (i := 127) (by decide +kernel)) rfl
theorem mw_721 : (Jvm.Cond.code ({ cls := "TaleCourt", name := "comes", desc := "(I)I" } : Jvm.MethodName) prog_1_method_11_code (2 : Nat) (Option.some Jvm.ClassFile.FieldType.int)) ∈ tbG := mt_3 (List.mem_of_getElem? (i := 128) (by decide +kernel)) rfl
theorem mw_722 : (Jvm.Cond.methodLink "TaleCourt" (141 : Nat) ({ cls := "TaleCourt$Court", name := "reached", desc := "(I)I" } : Jvm.MethodName)) ∈ tbG := mt_3 (List.mem_of_getElem? (i := 129) (by decide +kernel)) rfl
theorem mw_723 : (Jvm.Cond.instanceMethod ({ cls := "TaleCourt$Court", name := "reached", desc := "(I)I" } : Jvm.MethodName)) ∈ tbG := mt_3 (List.mem_of_getElem? (i := 130) (by decide +kernel)) rfl
theorem mw_724 : (Jvm.Cond.selects "TaleCourt$Court" ({ cls := "TaleCourt$Court", name := "reached", desc := "(I)I" } : Jvm.MethodName) ({ cls := "TaleCourt$Court", name := "reached", desc := "(I)I" } : Jvm.MethodName)) ∈ tbG := mt_3 (List.mem_of_getElem? (i := 131) (by decide +kernel)) rfl
theorem mw_725 : (Jvm.Cond.code ({ cls := "TaleCourt$Court", name := "reached", desc := "(I)I" } : Jvm.MethodName) prog_3_method_15_code (4 : Nat) (Option.some Jvm.ClassFile.FieldType.int)) ∈ tbG := mt_3 (List.mem_of_getElem? (i := 132) (by decide +kernel)) rfl
theorem mw_726 : (Jvm.Cond.methodLink "TaleCourt$Court" (94 : Nat) ({ cls := "TaleCourt$Court", name := "followersOfSet", desc := "(I)I" } : Jvm.MethodName)) ∈ tbG := mt_3 (List.mem_of_getElem? (i := 133) (by decide +kernel)) rfl
theorem mw_728 : (Jvm.Cond.instanceMethod ({ cls := "TaleCourt$Court", name := "followersOfSet", desc := "(I)I" } : Jvm.MethodName)) ∈ tbG := mt_3 (List.mem_of_getElem? (i := 135) (by decide +kernel)) rfl
theorem mw_729 : (Jvm.Cond.code ({ cls := "TaleCourt$Court", name := "followersOfSet", desc := "(I)I" } : Jvm.MethodName) prog_3_method_14_code (4 : Nat) (Option.some Jvm.ClassFile.FieldType.int)) ∈ tbG := mt_3 (List.mem_of_getElem? (i := 136) (by decide +kernel)) rfl
theorem mw_730 : (Jvm.Cond.methodLink "TaleCourtLaw" (57 : Nat) ({ cls := "TaleCourt", name := "chain", desc := "(II)I" } : Jvm.MethodName)) ∈ tbG := mt_3 (List.mem_of_getElem? (i := 137) (by decide +kernel)) rfl
theorem mw_731 : (Jvm.Cond.instanceMethod ({ cls := "TaleCourt", name := "chain", desc := "(II)I" } : Jvm.MethodName)) ∈ tbG := mt_3 (List.mem_of_getElem? (i := 138) (by decide +kernel)) rfl
theorem mw_732 : (Jvm.Cond.selects "TaleCourt" ({ cls := "TaleCourt", name := "chain", desc := "(II)I" } : Jvm.MethodName) ({ cls := "TaleCourt", name := "chain", desc := "(II)I" } : Jvm.MethodName)) ∈ tbG := mt_3 (List.mem_of_getElem? (i := 139) (by decide +kernel)) rfl
theorem mw_733 : (Jvm.Cond.code ({ cls := "TaleCourt", name := "chain", desc := "(II)I" } : Jvm.MethodName) prog_1_method_12_code (3 : Nat) (Option.some Jvm.ClassFile.FieldType.int)) ∈ tbG := mt_3 (List.mem_of_getElem? (i := 140) (by decide +kernel)) rfl
theorem mw_734 : (Jvm.Cond.methodLink "TaleCourt" (144 : Nat) ({ cls := "TaleCourt$Court", name := "shortestChain", desc := "(II)I" } : Jvm.MethodName)) ∈ tbG := mt_3 (List.mem_of_getElem? (i := 141) (by decide +kernel)) rfl
theorem mw_735 : (Jvm.Cond.instanceMethod ({ cls := "TaleCourt$Court", name := "shortestChain", desc := "(II)I" } : Jvm.MethodName)) ∈ tbG := mt_3 (List.mem_of_getElem? (i := 142) (by decide +kernel)) rfl
theorem mw_736 : (Jvm.Cond.selects "TaleCourt$Court" ({ cls := "TaleCourt$Court", name := "shortestChain", desc := "(II)I" } : Jvm.MethodName) ({ cls := "TaleCourt$Court", name := "shortestChain", desc := "(II)I" } : Jvm.MethodName)) ∈ tbG := mt_3 (List.mem_of_getElem? (i := 143) (by decide +kernel)) rfl
theorem mw_737 : (Jvm.Cond.code ({ cls := "TaleCourt$Court", name := "shortestChain", desc := "(II)I" } : Jvm.MethodName) prog_3_method_16_code (5 : Nat) (Option.some Jvm.ClassFile.FieldType.int)) ∈ tbG := mt_3 (List.mem_of_getElem? (i := 144) (by decide +kernel)) rfl
theorem mw_738 : (Jvm.Cond.methodLink "TaleCourtLaw" (61 : Nat) ({ cls := "TaleCourt", name := "say", desc := "(I)I" } : Jvm.MethodName)) ∈ tbG := mt_3 (List.mem_of_getElem? (i := 145) (by decide +kernel)) rfl
theorem mw_739 : (Jvm.Cond.instanceMethod ({ cls := "TaleCourt", name := "say", desc := "(I)I" } : Jvm.MethodName)) ∈ tbG := mt_3 (List.mem_of_getElem? (i := 146) (by decide +kernel)) rfl
theorem mw_740 : (Jvm.Cond.selects "TaleCourt" ({ cls := "TaleCourt", name := "say", desc := "(I)I" } : Jvm.MethodName) ({ cls := "TaleCourt", name := "say", desc := "(I)I" } : Jvm.MethodName)) ∈ tbG := mt_3 (List.mem_of_getElem? (i := 147) (by decide +kernel)) rfl
theorem mw_741 : (Jvm.Cond.code ({ cls := "TaleCourt", name := "say", desc := "(I)I" } : Jvm.MethodName) prog_1_method_13_code (2 : Nat) (Option.some Jvm.ClassFile.FieldType.int)) ∈ tbG := mt_3 (List.mem_of_getElem? (i := 148) (by decide +kernel)) rfl
theorem mw_742 : (Jvm.Cond.methodLink "TaleCourt" (148 : Nat) ({ cls := "TaleCourt$Telling", name := "reason", desc := "(I)I" } : Jvm.MethodName)) ∈ tbG := mt_3 (List.mem_of_getElem? (i := 149) (by decide +kernel)) rfl
theorem mw_743 : (Jvm.Cond.instanceMethod ({ cls := "TaleCourt$Telling", name := "reason", desc := "(I)I" } : Jvm.MethodName)) ∈ tbG := mt_3 (List.mem_of_getElem? (i := 150) (by decide +kernel)) rfl
theorem mw_744 : (Jvm.Cond.selects "TaleCourt$Telling" ({ cls := "TaleCourt$Telling", name := "reason", desc := "(I)I" } : Jvm.MethodName) ({ cls := "TaleCourt$Telling", name := "reason", desc := "(I)I" } : Jvm.MethodName)) ∈ tbG := mt_3 (List.mem_of_getElem? (i := 151) (by decide +kernel)) rfl
theorem mw_745 : (Jvm.Cond.code ({ cls := "TaleCourt$Telling", name := "reason", desc := "(I)I" } : Jvm.MethodName) prog_9_method_14_code (2 : Nat) (Option.some Jvm.ClassFile.FieldType.int)) ∈ tbG := mt_3 (List.mem_of_getElem? (i := 152) (by decide +kernel)) rfl
theorem mw_746 : (Jvm.Cond.methodLink "TaleCourt$Telling" (116 : Nat) ({ cls := "TaleCourt$Telling", name := "joined", desc := "()I" } : Jvm.MethodName)) ∈ tbG := mt_3 (List.mem_of_getElem? (i := 153) (by decide +kernel)) rfl
theorem mw_748 : (Jvm.Cond.instanceMethod ({ cls := "TaleCourt$Telling", name := "joined", desc := "()I" } : Jvm.MethodName)) ∈ tbG := mt_3 (List.mem_of_getElem? (i := 155) (by decide +kernel)) rfl
theorem mw_749 : (Jvm.Cond.code ({ cls := "TaleCourt$Telling", name := "joined", desc := "()I" } : Jvm.MethodName) prog_9_method_11_code (1 : Nat) (Option.some Jvm.ClassFile.FieldType.int)) ∈ tbG := mt_3 (List.mem_of_getElem? (i := 156) (by decide +kernel)) rfl
theorem mw_750 : (Jvm.Cond.methodLink "TaleCourt$Telling" (119 : Nat) ({ cls := "TaleCourt$Telling", name := "pressing", desc := "()I" } : Jvm.MethodName)) ∈ tbG := mt_3 (List.mem_of_getElem? (i := 157) (by decide +kernel)) rfl
theorem mw_752 : (Jvm.Cond.instanceMethod ({ cls := "TaleCourt$Telling", name := "pressing", desc := "()I" } : Jvm.MethodName)) ∈ tbG := mt_3 (List.mem_of_getElem? (i := 159) (by decide +kernel)) rfl
theorem mw_753 : (Jvm.Cond.code ({ cls := "TaleCourt$Telling", name := "pressing", desc := "()I" } : Jvm.MethodName) prog_9_method_9_code (3 : Nat) (Option.some Jvm.ClassFile.FieldType.int)) ∈ tbG := mt_3 (List.mem_of_getElem? (i := 160) (by decide +kernel)) rfl
theorem mw_754 : (Jvm.Cond.methodLink "TaleCourt$Telling" (86 : Nat) ({ cls := "TaleCourt$Telling", name := "unpaid", desc := "()I" } : Jvm.MethodName)) ∈ tbG := mt_3 (List.mem_of_getElem? (i := 161) (by decide +kernel)) rfl
theorem mw_755 : (Jvm.Cond.instanceMethod ({ cls := "TaleCourt$Telling", name := "unpaid", desc := "()I" } : Jvm.MethodName)) ∈ tbG := mt_3 (List.mem_of_getElem? (i := 162) (by decide +kernel)) rfl
theorem mw_756 : (Jvm.Cond.selects "TaleCourt$Telling" ({ cls := "TaleCourt$Telling", name := "unpaid", desc := "()I" } : Jvm.MethodName) ({ cls := "TaleCourt$Telling", name := "unpaid", desc := "()I" } : Jvm.MethodName)) ∈ tbG := mt_3 (List.mem_of_getElem? (i := 163) (by decide +kernel)) rfl
theorem mw_757 : (Jvm.Cond.code ({ cls := "TaleCourt$Telling", name := "unpaid", desc := "()I" } : Jvm.MethodName) prog_9_method_7_code (1 : Nat) (Option.some Jvm.ClassFile.FieldType.int)) ∈ tbG := mt_3 (List.mem_of_getElem? (i := 164) (by decide +kernel)) rfl
theorem mw_758 : (Jvm.Cond.methodLink "TaleCourt$Telling" (110 : Nat) ({ cls := "TaleCourt$Telling", name := "teller", desc := "()I" } : Jvm.MethodName)) ∈ tbG := mt_3 (List.mem_of_getElem? (i := 165) (by decide +kernel)) rfl
theorem mw_759 : (Jvm.Cond.instanceMethod ({ cls := "TaleCourt$Telling", name := "teller", desc := "()I" } : Jvm.MethodName)) ∈ tbG := mt_3 (List.mem_of_getElem? (i := 166) (by decide +kernel)) rfl
theorem mw_760 : (Jvm.Cond.selects "TaleCourt$Telling" ({ cls := "TaleCourt$Telling", name := "teller", desc := "()I" } : Jvm.MethodName) ({ cls := "TaleCourt$Telling", name := "teller", desc := "()I" } : Jvm.MethodName)) ∈ tbG := mt_3 (List.mem_of_getElem? (i := 167) (by decide +kernel)) rfl
theorem mw_761 : (Jvm.Cond.code ({ cls := "TaleCourt$Telling", name := "teller", desc := "()I" } : Jvm.MethodName) prog_9_method_4_code (2 : Nat) (Option.some Jvm.ClassFile.FieldType.int)) ∈ tbG := mt_3 (List.mem_of_getElem? (i := 168) (by decide +kernel)) rfl
theorem mw_762 : (Jvm.Cond.methodLink "TaleCourt" (151 : Nat) ({ cls := "TaleCourt$Telling", name := "tell", desc := "(I)V" } : Jvm.MethodName)) ∈ tbG := mt_3 (List.mem_of_getElem? (i := 169) (by decide +kernel)) rfl
theorem mw_763 : (Jvm.Cond.instanceMethod ({ cls := "TaleCourt$Telling", name := "tell", desc := "(I)V" } : Jvm.MethodName)) ∈ tbG := mt_3 (List.mem_of_getElem? (i := 170) (by decide +kernel)) rfl
theorem mw_764 : (Jvm.Cond.selects "TaleCourt$Telling" ({ cls := "TaleCourt$Telling", name := "tell", desc := "(I)V" } : Jvm.MethodName) ({ cls := "TaleCourt$Telling", name := "tell", desc := "(I)V" } : Jvm.MethodName)) ∈ tbG := mt_3 (List.mem_of_getElem? (i := 171) (by decide +kernel)) rfl
theorem mw_765 : (Jvm.Cond.code ({ cls := "TaleCourt$Telling", name := "tell", desc := "(I)V" } : Jvm.MethodName) prog_9_method_19_code (2 : Nat) (Option.none : Option Jvm.ClassFile.FieldType)) ∈ tbG := mt_3 (List.mem_of_getElem? (i := 172) (by decide +kernel)) rfl
theorem mw_766 : (Jvm.Cond.methodLink "TaleCourt$Telling" (132 : Nat) ({ cls := "TaleCourt$Telling", name := "hasRoom", desc := "()Z" } : Jvm.MethodName)) ∈ tbG := mt_3 (List.mem_of_getElem? (i := 173) (by decide +kernel)) rfl
theorem mw_768 : (Jvm.Cond.instanceMethod ({ cls := "TaleCourt$Telling", name := "hasRoom", desc := "()Z" } : Jvm.MethodName)) ∈ tbG := mt_3 (List.mem_of_getElem? (i := 175) (by decide +kernel)) rfl
theorem mw_769 : (Jvm.Cond.code ({ cls := "TaleCourt$Telling", name := "hasRoom", desc := "()Z" } : Jvm.MethodName) prog_9_method_17_code (1 : Nat) (Option.some Jvm.ClassFile.FieldType.boolean)) ∈ tbG := mt_3 (List.mem_of_getElem? (i := 176) (by decide +kernel)) rfl
theorem mw_770 : (Jvm.Cond.methodLink "TaleCourt$Telling" (135 : Nat) ({ cls := "TaleCourt$Court", name := "hasMotif", desc := "(I)Z" } : Jvm.MethodName)) ∈ tbG := mt_3 (List.mem_of_getElem? (i := 177) (by decide +kernel)) rfl
theorem mw_771 : (Jvm.Cond.methodLink "TaleCourt$Telling" (139 : Nat) ({ cls := "TaleCourt$Telling", name := "remember", desc := "(I)V" } : Jvm.MethodName)) ∈ tbG := mt_3 (List.mem_of_getElem? (i := 178) (by decide +kernel)) rfl
theorem mw_773 : (Jvm.Cond.instanceMethod ({ cls := "TaleCourt$Telling", name := "remember", desc := "(I)V" } : Jvm.MethodName)) ∈ tbG := mt_3 (List.mem_of_getElem? (i := 180) (by decide +kernel)) rfl
theorem mw_774 : (Jvm.Cond.code ({ cls := "TaleCourt$Telling", name := "remember", desc := "(I)V" } : Jvm.MethodName) prog_9_method_18_code (2 : Nat) (Option.none : Option Jvm.ClassFile.FieldType)) ∈ tbG := mt_3 (List.mem_of_getElem? (i := 181) (by decide +kernel)) rfl
theorem mw_775 : (Jvm.Cond.methodLink "TaleCourt$Telling" (82 : Nat) ({ cls := "TaleCourt$Court", name := "value", desc := "(I)I" } : Jvm.MethodName)) ∈ tbG := mt_3 (List.mem_of_getElem? (i := 182) (by decide +kernel)) rfl
theorem mw_776 : (Jvm.Cond.instanceMethod ({ cls := "TaleCourt$Court", name := "value", desc := "(I)I" } : Jvm.MethodName)) ∈ tbG := mt_3 (List.mem_of_getElem? (i := 183) (by decide +kernel)) rfl
theorem mw_777 : (Jvm.Cond.selects "TaleCourt$Court" ({ cls := "TaleCourt$Court", name := "value", desc := "(I)I" } : Jvm.MethodName) ({ cls := "TaleCourt$Court", name := "value", desc := "(I)I" } : Jvm.MethodName)) ∈ tbG := mt_3 (List.mem_of_getElem? (i := 184) (by decide +kernel)) rfl
theorem mw_778 : (Jvm.Cond.code ({ cls := "TaleCourt$Court", name := "value", desc := "(I)I" } : Jvm.MethodName) prog_3_method_12_code (2 : Nat) (Option.some Jvm.ClassFile.FieldType.int)) ∈ tbG := mt_3 (List.mem_of_getElem? (i := 185) (by decide +kernel)) rfl
theorem mw_779 : (Jvm.Cond.methodLink "TaleCourt$Telling" (152 : Nat) ({ cls := "TaleCourt$Telling", name := "owe", desc := "(II)V" } : Jvm.MethodName)) ∈ tbG := mt_3 (List.mem_of_getElem? (i := 186) (by decide +kernel)) rfl
theorem mw_781 : (Jvm.Cond.instanceMethod ({ cls := "TaleCourt$Telling", name := "owe", desc := "(II)V" } : Jvm.MethodName)) ∈ tbG := mt_3 (List.mem_of_getElem? (i := 188) (by decide +kernel)) rfl
theorem mw_782 : (Jvm.Cond.code ({ cls := "TaleCourt$Telling", name := "owe", desc := "(II)V" } : Jvm.MethodName) prog_9_method_20_code (3 : Nat) (Option.none : Option Jvm.ClassFile.FieldType)) ∈ tbG := mt_3 (List.mem_of_getElem? (i := 189) (by decide +kernel)) rfl
theorem mw_783 : (Jvm.Cond.methodLink "TaleCourt" (154 : Nat) ({ cls := "TaleCourt$Court", name := "value", desc := "(I)I" } : Jvm.MethodName)) ∈ tbG := mt_3 (List.mem_of_getElem? (i := 190) (by decide +kernel)) rfl
theorem mw_784 : (Jvm.Cond.methodLink "TaleCourtLaw" (65 : Nat) ({ cls := "TaleCourt", name := "hush", desc := "()I" } : Jvm.MethodName)) ∈ tbG := mt_3 (List.mem_of_getElem? (i := 191) (by decide +kernel)) rfl
theorem mw_785 : (Jvm.Cond.instanceMethod ({ cls := "TaleCourt", name := "hush", desc := "()I" } : Jvm.MethodName)) ∈ tbG := mt_3 (List.mem_of_getElem? (i := 192) (by decide +kernel)) rfl
theorem mw_786 : (Jvm.Cond.selects "TaleCourt" ({ cls := "TaleCourt", name := "hush", desc := "()I" } : Jvm.MethodName) ({ cls := "TaleCourt", name := "hush", desc := "()I" } : Jvm.MethodName)) ∈ tbG := mt_3 (List.mem_of_getElem? (i := 193) (by decide +kernel)) rfl
theorem mw_787 : (Jvm.Cond.code ({ cls := "TaleCourt", name := "hush", desc := "()I" } : Jvm.MethodName) prog_1_method_14_code (1 : Nat) (Option.some Jvm.ClassFile.FieldType.int)) ∈ tbG := mt_3 (List.mem_of_getElem? (i := 194) (by decide +kernel)) rfl
theorem mw_788 : (Jvm.Cond.methodLink "TaleCourt" (157 : Nat) ({ cls := "TaleCourt$Court", name := "stands", desc := "()Z" } : Jvm.MethodName)) ∈ tbG := mt_3 (List.mem_of_getElem? (i := 195) (by decide +kernel)) rfl
theorem mw_789 : (Jvm.Cond.instanceMethod ({ cls := "TaleCourt$Court", name := "stands", desc := "()Z" } : Jvm.MethodName)) ∈ tbG := mt_3 (List.mem_of_getElem? (i := 196) (by decide +kernel)) rfl
theorem mw_790 : (Jvm.Cond.selects "TaleCourt$Court" ({ cls := "TaleCourt$Court", name := "stands", desc := "()Z" } : Jvm.MethodName) ({ cls := "TaleCourt$Court", name := "stands", desc := "()Z" } : Jvm.MethodName)) ∈ tbG := mt_3 (List.mem_of_getElem? (i := 197) (by decide +kernel)) rfl
theorem mw_791 : (Jvm.Cond.code ({ cls := "TaleCourt$Court", name := "stands", desc := "()Z" } : Jvm.MethodName) prog_3_method_4_code (1 : Nat) (Option.some Jvm.ClassFile.FieldType.boolean)) ∈ tbG := mt_3 (List.mem_of_getElem? (i := 198) (by decide +kernel)) rfl
theorem mw_792 : (Jvm.Cond.methodLink "TaleCourt" (161 : Nat) ({ cls := "TaleCourt$Telling", name := "mayBeSilent", desc := "()Z" } : Jvm.MethodName)) ∈ tbG := mt_3 (List.mem_of_getElem? (i := 199) (by decide +kernel)) rfl
theorem mw_793 : (Jvm.Cond.instanceMethod ({ cls := "TaleCourt$Telling", name := "mayBeSilent", desc := "()Z" } : Jvm.MethodName)) ∈ tbG := mt_3 (List.mem_of_getElem? (i := 200) (by decide +kernel)) rfl
theorem mw_794 : (Jvm.Cond.selects "TaleCourt$Telling" ({ cls := "TaleCourt$Telling", name := "mayBeSilent", desc := "()Z" } : Jvm.MethodName) ({ cls := "TaleCourt$Telling", name := "mayBeSilent", desc := "()Z" } : Jvm.MethodName)) ∈ tbG := mt_3 (List.mem_of_getElem? (i := 201) (by decide +kernel)) rfl
theorem mw_795 : (Jvm.Cond.code ({ cls := "TaleCourt$Telling", name := "mayBeSilent", desc := "()Z" } : Jvm.MethodName) prog_9_method_16_code (1 : Nat) (Option.some Jvm.ClassFile.FieldType.boolean)) ∈ tbG := mt_3 (List.mem_of_getElem? (i := 202) (by decide +kernel)) rfl
theorem mw_796 : (Jvm.Cond.methodLink "TaleCourt$Telling" (128 : Nat) ({ cls := "TaleCourt$Telling", name := "hasSilence", desc := "()Z" } : Jvm.MethodName)) ∈ tbG := mt_3 (List.mem_of_getElem? (i := 203) (by decide +kernel)) rfl
theorem mw_797 : (Jvm.Cond.instanceMethod ({ cls := "TaleCourt$Telling", name := "hasSilence", desc := "()Z" } : Jvm.MethodName)) ∈ tbG := mt_3 (List.mem_of_getElem? (i := 204) (by decide +kernel)) rfl
theorem mw_798 : (Jvm.Cond.selects "TaleCourt$Telling" ({ cls := "TaleCourt$Telling", name := "hasSilence", desc := "()Z" } : Jvm.MethodName) ({ cls := "TaleCourt$Telling", name := "hasSilence", desc := "()Z" } : Jvm.MethodName)) ∈ tbG := mt_3 (List.mem_of_getElem? (i := 205) (by decide +kernel)) rfl
theorem mw_799 : (Jvm.Cond.code ({ cls := "TaleCourt$Telling", name := "hasSilence", desc := "()Z" } : Jvm.MethodName) prog_9_method_15_code (1 : Nat) (Option.some Jvm.ClassFile.FieldType.boolean)) ∈ tbG := mt_3 (List.mem_of_getElem? (i := 206) (by decide +kernel)) rfl
theorem mw_800 : (Jvm.Cond.methodLink "TaleCourt$Telling" (125 : Nat) ({ cls := "TaleCourt$Telling", name := "silencesLeft", desc := "(I)I" } : Jvm.MethodName)) ∈ tbG := mt_3 (List.mem_of_getElem? (i := 207) (by decide +kernel)) rfl
theorem mw_801 : (Jvm.Cond.instanceMethod ({ cls := "TaleCourt$Telling", name := "silencesLeft", desc := "(I)I" } : Jvm.MethodName)) ∈ tbG := mt_3 (List.mem_of_getElem? (i := 208) (by decide +kernel)) rfl
theorem mw_802 : (Jvm.Cond.selects "TaleCourt$Telling" ({ cls := "TaleCourt$Telling", name := "silencesLeft", desc := "(I)I" } : Jvm.MethodName) ({ cls := "TaleCourt$Telling", name := "silencesLeft", desc := "(I)I" } : Jvm.MethodName)) ∈ tbG := mt_3 (List.mem_of_getElem? (i := 209) (by decide +kernel)) rfl
theorem mw_803 : (Jvm.Cond.code ({ cls := "TaleCourt$Telling", name := "silencesLeft", desc := "(I)I" } : Jvm.MethodName) prog_9_method_5_code (2 : Nat) (Option.some Jvm.ClassFile.FieldType.int)) ∈ tbG := mt_3 (List.mem_of_getElem? (i := 210) (by decide +kernel)) rfl
theorem mw_804 : (Jvm.Cond.methodLink "TaleCourt" (164 : Nat) ({ cls := "TaleCourt$Telling", name := "pass", desc := "()V" } : Jvm.MethodName)) ∈ tbG := mt_3 (List.mem_of_getElem? (i := 211) (by decide +kernel)) rfl
theorem mw_805 : (Jvm.Cond.instanceMethod ({ cls := "TaleCourt$Telling", name := "pass", desc := "()V" } : Jvm.MethodName)) ∈ tbG := mt_3 (List.mem_of_getElem? (i := 212) (by decide +kernel)) rfl
theorem mw_806 : (Jvm.Cond.selects "TaleCourt$Telling" ({ cls := "TaleCourt$Telling", name := "pass", desc := "()V" } : Jvm.MethodName) ({ cls := "TaleCourt$Telling", name := "pass", desc := "()V" } : Jvm.MethodName)) ∈ tbG := mt_3 (List.mem_of_getElem? (i := 213) (by decide +kernel)) rfl
theorem mw_807 : (Jvm.Cond.code ({ cls := "TaleCourt$Telling", name := "pass", desc := "()V" } : Jvm.MethodName) prog_9_method_21_code (1 : Nat) (Option.none : Option Jvm.ClassFile.FieldType)) ∈ tbG := mt_3 (List.mem_of_getElem? (i := 214) (by decide +kernel)) rfl
theorem mw_808 : (Jvm.Cond.methodLink "TaleCourtLaw" (69 : Nat) ({ cls := "TaleCourt", name := "unsay", desc := "()I" } : Jvm.MethodName)) ∈ tbG := mt_3 (List.mem_of_getElem? (i := 215) (by decide +kernel)) rfl
theorem mw_809 : (Jvm.Cond.instanceMethod ({ cls := "TaleCourt", name := "unsay", desc := "()I" } : Jvm.MethodName)) ∈ tbG := mt_3 (List.mem_of_getElem? (i := 216) (by decide +kernel)) rfl
theorem mw_810 : (Jvm.Cond.selects "TaleCourt" ({ cls := "TaleCourt", name := "unsay", desc := "()I" } : Jvm.MethodName) ({ cls := "TaleCourt", name := "unsay", desc := "()I" } : Jvm.MethodName)) ∈ tbG := mt_3 (List.mem_of_getElem? (i := 217) (by decide +kernel)) rfl
theorem mw_811 : (Jvm.Cond.code ({ cls := "TaleCourt", name := "unsay", desc := "()I" } : Jvm.MethodName) prog_1_method_15_code (1 : Nat) (Option.some Jvm.ClassFile.FieldType.int)) ∈ tbG := mt_3 (List.mem_of_getElem? (i := 218) (by decide +kernel)) rfl
theorem mw_812 : (Jvm.Cond.methodLink "TaleCourt" (170 : Nat) ({ cls := "TaleCourt$Telling", name := "takeBack", desc := "()V" } : Jvm.MethodName)) ∈ tbG := mt_3 (List.mem_of_getElem? (i := 219) (by decide +kernel)) rfl
theorem mw_813 : (Jvm.Cond.instanceMethod ({ cls := "TaleCourt$Telling", name := "takeBack", desc := "()V" } : Jvm.MethodName)) ∈ tbG := mt_3 (List.mem_of_getElem? (i := 220) (by decide +kernel)) rfl
theorem mw_814 : (Jvm.Cond.selects "TaleCourt$Telling" ({ cls := "TaleCourt$Telling", name := "takeBack", desc := "()V" } : Jvm.MethodName) ({ cls := "TaleCourt$Telling", name := "takeBack", desc := "()V" } : Jvm.MethodName)) ∈ tbG := mt_3 (List.mem_of_getElem? (i := 221) (by decide +kernel)) rfl
theorem mw_815 : (Jvm.Cond.code ({ cls := "TaleCourt$Telling", name := "takeBack", desc := "()V" } : Jvm.MethodName) prog_9_method_22_code (2 : Nat) (Option.none : Option Jvm.ClassFile.FieldType)) ∈ tbG := mt_3 (List.mem_of_getElem? (i := 222) (by decide +kernel)) rfl
theorem mw_816 : (Jvm.Cond.methodLink "TaleCourt$Telling" (156 : Nat) ({ cls := "TaleCourt$Telling", name := "untell", desc := "(I)V" } : Jvm.MethodName)) ∈ tbG := mt_3 (List.mem_of_getElem? (i := 223) (by decide +kernel)) rfl
theorem mw_818 : (Jvm.Cond.instanceMethod ({ cls := "TaleCourt$Telling", name := "untell", desc := "(I)V" } : Jvm.MethodName)) ∈ tbG := mt_3 (List.mem_of_getElem? (i := 225) (by decide +kernel)) rfl
theorem mw_819 : (Jvm.Cond.code ({ cls := "TaleCourt$Telling", name := "untell", desc := "(I)V" } : Jvm.MethodName) prog_9_method_23_code (3 : Nat) (Option.none : Option Jvm.ClassFile.FieldType)) ∈ tbG := mt_3 (List.mem_of_getElem? (i := 226) (by decide +kernel)) rfl
theorem mw_820 : (Jvm.Cond.methodLink "TaleCourtLaw" (73 : Nat) ({ cls := "TaleCourt", name := "anew", desc := "()I" } : Jvm.MethodName)) ∈ tbG := mt_3 (List.mem_of_getElem? (i := 227) (by decide +kernel)) rfl
theorem mw_821 : (Jvm.Cond.instanceMethod ({ cls := "TaleCourt", name := "anew", desc := "()I" } : Jvm.MethodName)) ∈ tbG := mt_3 (List.mem_of_getElem? (i := 228) (by decide +kernel)) rfl
theorem mw_822 : (Jvm.Cond.selects "TaleCourt" ({ cls := "TaleCourt", name := "anew", desc := "()I" } : Jvm.MethodName) ({ cls := "TaleCourt", name := "anew", desc := "()I" } : Jvm.MethodName)) ∈ tbG := mt_3 (List.mem_of_getElem? (i := 229) (by decide +kernel)) rfl
theorem mw_823 : (Jvm.Cond.code ({ cls := "TaleCourt", name := "anew", desc := "()I" } : Jvm.MethodName) prog_1_method_16_code (2 : Nat) (Option.some Jvm.ClassFile.FieldType.int)) ∈ tbG := mt_3 (List.mem_of_getElem? (i := 230) (by decide +kernel)) rfl
theorem mw_824 : (Jvm.Cond.methodLink "TaleCourtLaw" (77 : Nat) ({ cls := "TaleCourt", name := "told", desc := "(I)I" } : Jvm.MethodName)) ∈ tbG := mt_3 (List.mem_of_getElem? (i := 231) (by decide +kernel)) rfl
theorem mw_825 : (Jvm.Cond.instanceMethod ({ cls := "TaleCourt", name := "told", desc := "(I)I" } : Jvm.MethodName)) ∈ tbG := mt_3 (List.mem_of_getElem? (i := 232) (by decide +kernel)) rfl
theorem mw_826 : (Jvm.Cond.selects "TaleCourt" ({ cls := "TaleCourt", name := "told", desc := "(I)I" } : Jvm.MethodName) ({ cls := "TaleCourt", name := "told", desc := "(I)I" } : Jvm.MethodName)) ∈ tbG := mt_3 (List.mem_of_getElem? (i := 233) (by decide +kernel)) rfl
theorem mw_827 : (Jvm.Cond.code ({ cls := "TaleCourt", name := "told", desc := "(I)I" } : Jvm.MethodName) prog_1_method_17_code (2 : Nat) (Option.some Jvm.ClassFile.FieldType.int)) ∈ tbG := mt_3 (List.mem_of_getElem? (i := 234) (by decide +kernel)) rfl
theorem mw_828 : (Jvm.Cond.methodLink "TaleCourtLaw" (81 : Nat) ({ cls := "TaleCourt", name := "length", desc := "()I" } : Jvm.MethodName)) ∈ tbG := mt_3 (List.mem_of_getElem? (i := 235) (by decide +kernel)) rfl
theorem mw_829 : (Jvm.Cond.instanceMethod ({ cls := "TaleCourt", name := "length", desc := "()I" } : Jvm.MethodName)) ∈ tbG := mt_3 (List.mem_of_getElem? (i := 236) (by decide +kernel)) rfl
theorem mw_830 : (Jvm.Cond.selects "TaleCourt" ({ cls := "TaleCourt", name := "length", desc := "()I" } : Jvm.MethodName) ({ cls := "TaleCourt", name := "length", desc := "()I" } : Jvm.MethodName)) ∈ tbG := mt_3 (List.mem_of_getElem? (i := 237) (by decide +kernel)) rfl
theorem mw_831 : (Jvm.Cond.code ({ cls := "TaleCourt", name := "length", desc := "()I" } : Jvm.MethodName) prog_1_method_18_code (1 : Nat) (Option.some Jvm.ClassFile.FieldType.int)) ∈ tbG := mt_3 (List.mem_of_getElem? (i := 238) (by decide +kernel)) rfl
theorem mw_832 : (Jvm.Cond.methodLink "TaleCourtLaw" (85 : Nat) ({ cls := "TaleCourt", name := "whose", desc := "()I" } : Jvm.MethodName)) ∈ tbG := mt_3 (List.mem_of_getElem? (i := 239) (by decide +kernel)) rfl
theorem mw_833 : (Jvm.Cond.instanceMethod ({ cls := "TaleCourt", name := "whose", desc := "()I" } : Jvm.MethodName)) ∈ tbG := mt_4 (List.mem_of_getElem? (i := 0) (by decide +kernel)) rfl
theorem mw_834 : (Jvm.Cond.selects "TaleCourt" ({ cls := "TaleCourt", name := "whose", desc := "()I" } : Jvm.MethodName) ({ cls := "TaleCourt", name := "whose", desc := "()I" } : Jvm.MethodName)) ∈ tbG := mt_4 (List.mem_of_getElem? (i := 1) (by decide +kernel)) rfl
theorem mw_835 : (Jvm.Cond.code ({ cls := "TaleCourt", name := "whose", desc := "()I" } : Jvm.MethodName) prog_1_method_19_code (1 : Nat) (Option.some Jvm.ClassFile.FieldType.int)) ∈ tbG := mt_4 (List.mem_of_getElem? (i := 2) (by decide +kernel)) rfl
theorem mw_836 : (Jvm.Cond.methodLink "TaleCourt" (176 : Nat) ({ cls := "TaleCourt$Telling", name := "teller", desc := "()I" } : Jvm.MethodName)) ∈ tbG := mt_4 (List.mem_of_getElem? (i := 3) (by decide +kernel)) rfl
theorem mw_837 : (Jvm.Cond.methodLink "TaleCourtLaw" (89 : Nat) ({ cls := "TaleCourt", name := "may", desc := "()I" } : Jvm.MethodName)) ∈ tbG := mt_4 (List.mem_of_getElem? (i := 4) (by decide +kernel)) rfl
theorem mw_838 : (Jvm.Cond.instanceMethod ({ cls := "TaleCourt", name := "may", desc := "()I" } : Jvm.MethodName)) ∈ tbG := mt_4 (List.mem_of_getElem? (i := 5) (by decide +kernel)) rfl
theorem mw_839 : (Jvm.Cond.selects "TaleCourt" ({ cls := "TaleCourt", name := "may", desc := "()I" } : Jvm.MethodName) ({ cls := "TaleCourt", name := "may", desc := "()I" } : Jvm.MethodName)) ∈ tbG := mt_4 (List.mem_of_getElem? (i := 6) (by decide +kernel)) rfl
theorem mw_840 : (Jvm.Cond.code ({ cls := "TaleCourt", name := "may", desc := "()I" } : Jvm.MethodName) prog_1_method_20_code (1 : Nat) (Option.some Jvm.ClassFile.FieldType.int)) ∈ tbG := mt_4 (List.mem_of_getElem? (i := 7) (by decide +kernel)) rfl
theorem mw_841 : (Jvm.Cond.methodLink "TaleCourt" (180 : Nat) ({ cls := "TaleCourt$Telling", name := "tellable", desc := "()I" } : Jvm.MethodName)) ∈ tbG := mt_4 (List.mem_of_getElem? (i := 8) (by decide +kernel)) rfl
theorem mw_842 : (Jvm.Cond.instanceMethod ({ cls := "TaleCourt$Telling", name := "tellable", desc := "()I" } : Jvm.MethodName)) ∈ tbG := mt_4 (List.mem_of_getElem? (i := 9) (by decide +kernel)) rfl
theorem mw_843 : (Jvm.Cond.selects "TaleCourt$Telling" ({ cls := "TaleCourt$Telling", name := "tellable", desc := "()I" } : Jvm.MethodName) ({ cls := "TaleCourt$Telling", name := "tellable", desc := "()I" } : Jvm.MethodName)) ∈ tbG := mt_4 (List.mem_of_getElem? (i := 10) (by decide +kernel)) rfl
theorem mw_844 : (Jvm.Cond.code ({ cls := "TaleCourt$Telling", name := "tellable", desc := "()I" } : Jvm.MethodName) prog_9_method_13_code (2 : Nat) (Option.some Jvm.ClassFile.FieldType.int)) ∈ tbG := mt_4 (List.mem_of_getElem? (i := 11) (by decide +kernel)) rfl
theorem mw_845 : (Jvm.Cond.methodLink "TaleCourt$Telling" (122 : Nat) ({ cls := "TaleCourt$Telling", name := "playable", desc := "()I" } : Jvm.MethodName)) ∈ tbG := mt_4 (List.mem_of_getElem? (i := 12) (by decide +kernel)) rfl
theorem mw_846 : (Jvm.Cond.instanceMethod ({ cls := "TaleCourt$Telling", name := "playable", desc := "()I" } : Jvm.MethodName)) ∈ tbG := mt_4 (List.mem_of_getElem? (i := 13) (by decide +kernel)) rfl
theorem mw_847 : (Jvm.Cond.selects "TaleCourt$Telling" ({ cls := "TaleCourt$Telling", name := "playable", desc := "()I" } : Jvm.MethodName) ({ cls := "TaleCourt$Telling", name := "playable", desc := "()I" } : Jvm.MethodName)) ∈ tbG := mt_4 (List.mem_of_getElem? (i := 14) (by decide +kernel)) rfl
theorem mw_848 : (Jvm.Cond.code ({ cls := "TaleCourt$Telling", name := "playable", desc := "()I" } : Jvm.MethodName) prog_9_method_12_code (2 : Nat) (Option.some Jvm.ClassFile.FieldType.int)) ∈ tbG := mt_4 (List.mem_of_getElem? (i := 15) (by decide +kernel)) rfl
theorem mw_849 : (Jvm.Cond.methodLink "TaleCourt$Telling" (93 : Nat) ({ cls := "java/lang/Integer", name := "bitCount", desc := "(I)I" } : Jvm.MethodName)) ∈ tbG := mt_4 (List.mem_of_getElem? (i := 16) (by decide +kernel)) rfl
theorem mw_850 : (Jvm.Cond.static ({ cls := "java/lang/Integer", name := "bitCount", desc := "(I)I" } : Jvm.MethodName)) ∈ tbG := mt_4 (List.mem_of_getElem? (i := 17) (by decide +kernel)) rfl
theorem mw_851 : (Jvm.Cond.code ({ cls := "java/lang/Integer", name := "bitCount", desc := "(I)I" } : Jvm.MethodName) prog_12_method_49_code (1 : Nat) (Option.some Jvm.ClassFile.FieldType.int)) ∈ tbG := mt_4 (List.mem_of_getElem? (i := 18) (by decide +kernel)) rfl
theorem mw_852 : (Jvm.Cond.constant "java/lang/Integer" (265 : Nat) (1431655765 : Int32)) ∈ tbG := mt_4 (List.mem_of_getElem? (i := 19) (by decide +kernel)) rfl
theorem mw_853 : (Jvm.Cond.constant "java/lang/Integer" (266 : Nat) (858993459 : Int32)) ∈ tbG := mt_4 (List.mem_of_getElem? (i := 20) (by decide +kernel)) rfl
theorem mw_854 : (Jvm.Cond.constant "java/lang/Integer" (267 : Nat) (252645135 : Int32)) ∈ tbG := mt_4 (List.mem_of_getElem? (i := 21) (by decide +kernel)) rfl
theorem mw_855 : (Jvm.Cond.methodLink "TaleCourtLaw" (93 : Nat) ({ cls := "TaleCourt", name := "why", desc := "(I)I" } : Jvm.MethodName)) ∈ tbG := mt_4 (List.mem_of_getElem? (i := 22) (by decide +kernel)) rfl
theorem mw_856 : (Jvm.Cond.instanceMethod ({ cls := "TaleCourt", name := "why", desc := "(I)I" } : Jvm.MethodName)) ∈ tbG := mt_4 (List.mem_of_getElem? (i := 23) (by decide +kernel)) rfl
theorem mw_857 : (Jvm.Cond.selects "TaleCourt" ({ cls := "TaleCourt", name := "why", desc := "(I)I" } : Jvm.MethodName) ({ cls := "TaleCourt", name := "why", desc := "(I)I" } : Jvm.MethodName)) ∈ tbG := mt_4 (List.mem_of_getElem? (i := 24) (by decide +kernel)) rfl
theorem mw_858 : (Jvm.Cond.code ({ cls := "TaleCourt", name := "why", desc := "(I)I" } : Jvm.MethodName) prog_1_method_21_code (2 : Nat) (Option.some Jvm.ClassFile.FieldType.int)) ∈ tbG := mt_4 (List.mem_of_getElem? (i := 25) (by decide +kernel)) rfl
theorem mw_859 : (Jvm.Cond.methodLink "TaleCourtLaw" (97 : Nat) ({ cls := "TaleCourt", name := "owed", desc := "()I" } : Jvm.MethodName)) ∈ tbG := mt_4 (List.mem_of_getElem? (i := 26) (by decide +kernel)) rfl
theorem mw_860 : (Jvm.Cond.instanceMethod ({ cls := "TaleCourt", name := "owed", desc := "()I" } : Jvm.MethodName)) ∈ tbG := mt_4 (List.mem_of_getElem? (i := 27) (by decide +kernel)) rfl
theorem mw_861 : (Jvm.Cond.selects "TaleCourt" ({ cls := "TaleCourt", name := "owed", desc := "()I" } : Jvm.MethodName) ({ cls := "TaleCourt", name := "owed", desc := "()I" } : Jvm.MethodName)) ∈ tbG := mt_4 (List.mem_of_getElem? (i := 28) (by decide +kernel)) rfl
theorem mw_862 : (Jvm.Cond.code ({ cls := "TaleCourt", name := "owed", desc := "()I" } : Jvm.MethodName) prog_1_method_22_code (1 : Nat) (Option.some Jvm.ClassFile.FieldType.int)) ∈ tbG := mt_4 (List.mem_of_getElem? (i := 29) (by decide +kernel)) rfl
theorem mw_863 : (Jvm.Cond.methodLink "TaleCourt" (183 : Nat) ({ cls := "TaleCourt$Telling", name := "unpaid", desc := "()I" } : Jvm.MethodName)) ∈ tbG := mt_4 (List.mem_of_getElem? (i := 30) (by decide +kernel)) rfl
theorem mw_864 : (Jvm.Cond.methodLink "TaleCourtLaw" (101 : Nat) ({ cls := "TaleCourt", name := "due", desc := "(I)I" } : Jvm.MethodName)) ∈ tbG := mt_4 (List.mem_of_getElem? (i := 31) (by decide +kernel)) rfl
theorem mw_865 : (Jvm.Cond.instanceMethod ({ cls := "TaleCourt", name := "due", desc := "(I)I" } : Jvm.MethodName)) ∈ tbG := mt_4 (List.mem_of_getElem? (i := 32) (by decide +kernel)) rfl
theorem mw_866 : (Jvm.Cond.selects "TaleCourt" ({ cls := "TaleCourt", name := "due", desc := "(I)I" } : Jvm.MethodName) ({ cls := "TaleCourt", name := "due", desc := "(I)I" } : Jvm.MethodName)) ∈ tbG := mt_4 (List.mem_of_getElem? (i := 33) (by decide +kernel)) rfl
theorem mw_867 : (Jvm.Cond.code ({ cls := "TaleCourt", name := "due", desc := "(I)I" } : Jvm.MethodName) prog_1_method_23_code (2 : Nat) (Option.some Jvm.ClassFile.FieldType.int)) ∈ tbG := mt_4 (List.mem_of_getElem? (i := 34) (by decide +kernel)) rfl
theorem mw_868 : (Jvm.Cond.methodLink "TaleCourtLaw" (105 : Nat) ({ cls := "TaleCourt", name := "whole", desc := "()I" } : Jvm.MethodName)) ∈ tbG := mt_4 (List.mem_of_getElem? (i := 35) (by decide +kernel)) rfl
theorem mw_869 : (Jvm.Cond.instanceMethod ({ cls := "TaleCourt", name := "whole", desc := "()I" } : Jvm.MethodName)) ∈ tbG := mt_4 (List.mem_of_getElem? (i := 36) (by decide +kernel)) rfl
theorem mw_870 : (Jvm.Cond.selects "TaleCourt" ({ cls := "TaleCourt", name := "whole", desc := "()I" } : Jvm.MethodName) ({ cls := "TaleCourt", name := "whole", desc := "()I" } : Jvm.MethodName)) ∈ tbG := mt_4 (List.mem_of_getElem? (i := 37) (by decide +kernel)) rfl
theorem mw_871 : (Jvm.Cond.code ({ cls := "TaleCourt", name := "whole", desc := "()I" } : Jvm.MethodName) prog_1_method_24_code (1 : Nat) (Option.some Jvm.ClassFile.FieldType.int)) ∈ tbG := mt_4 (List.mem_of_getElem? (i := 38) (by decide +kernel)) rfl
theorem mw_872 : (Jvm.Cond.methodLink "TaleCourt" (189 : Nat) ({ cls := "TaleCourt$Telling", name := "isWhole", desc := "()Z" } : Jvm.MethodName)) ∈ tbG := mt_4 (List.mem_of_getElem? (i := 39) (by decide +kernel)) rfl
theorem mw_873 : (Jvm.Cond.instanceMethod ({ cls := "TaleCourt$Telling", name := "isWhole", desc := "()Z" } : Jvm.MethodName)) ∈ tbG := mt_4 (List.mem_of_getElem? (i := 40) (by decide +kernel)) rfl
theorem mw_874 : (Jvm.Cond.selects "TaleCourt$Telling" ({ cls := "TaleCourt$Telling", name := "isWhole", desc := "()Z" } : Jvm.MethodName) ({ cls := "TaleCourt$Telling", name := "isWhole", desc := "()Z" } : Jvm.MethodName)) ∈ tbG := mt_4 (List.mem_of_getElem? (i := 41) (by decide +kernel)) rfl
theorem mw_875 : (Jvm.Cond.code ({ cls := "TaleCourt$Telling", name := "isWhole", desc := "()Z" } : Jvm.MethodName) prog_9_method_8_code (1 : Nat) (Option.some Jvm.ClassFile.FieldType.boolean)) ∈ tbG := mt_4 (List.mem_of_getElem? (i := 42) (by decide +kernel)) rfl
theorem mw_876 : (Jvm.Cond.methodLink "TaleCourtLaw" (109 : Nat) ({ cls := "TaleCourt", name := "points", desc := "()I" } : Jvm.MethodName)) ∈ tbG := mt_4 (List.mem_of_getElem? (i := 43) (by decide +kernel)) rfl
theorem mw_877 : (Jvm.Cond.instanceMethod ({ cls := "TaleCourt", name := "points", desc := "()I" } : Jvm.MethodName)) ∈ tbG := mt_4 (List.mem_of_getElem? (i := 44) (by decide +kernel)) rfl
theorem mw_878 : (Jvm.Cond.selects "TaleCourt" ({ cls := "TaleCourt", name := "points", desc := "()I" } : Jvm.MethodName) ({ cls := "TaleCourt", name := "points", desc := "()I" } : Jvm.MethodName)) ∈ tbG := mt_4 (List.mem_of_getElem? (i := 45) (by decide +kernel)) rfl
theorem mw_879 : (Jvm.Cond.code ({ cls := "TaleCourt", name := "points", desc := "()I" } : Jvm.MethodName) prog_1_method_25_code (1 : Nat) (Option.some Jvm.ClassFile.FieldType.int)) ∈ tbG := mt_4 (List.mem_of_getElem? (i := 46) (by decide +kernel)) rfl
theorem mw_880 : (Jvm.Cond.methodLink "TaleCourtLaw" (113 : Nat) ({ cls := "TaleCourt", name := "share", desc := "(I)I" } : Jvm.MethodName)) ∈ tbG := mt_4 (List.mem_of_getElem? (i := 47) (by decide +kernel)) rfl
theorem mw_881 : (Jvm.Cond.instanceMethod ({ cls := "TaleCourt", name := "share", desc := "(I)I" } : Jvm.MethodName)) ∈ tbG := mt_4 (List.mem_of_getElem? (i := 48) (by decide +kernel)) rfl
theorem mw_882 : (Jvm.Cond.selects "TaleCourt" ({ cls := "TaleCourt", name := "share", desc := "(I)I" } : Jvm.MethodName) ({ cls := "TaleCourt", name := "share", desc := "(I)I" } : Jvm.MethodName)) ∈ tbG := mt_4 (List.mem_of_getElem? (i := 49) (by decide +kernel)) rfl
theorem mw_883 : (Jvm.Cond.code ({ cls := "TaleCourt", name := "share", desc := "(I)I" } : Jvm.MethodName) prog_1_method_26_code (2 : Nat) (Option.some Jvm.ClassFile.FieldType.int)) ∈ tbG := mt_4 (List.mem_of_getElem? (i := 50) (by decide +kernel)) rfl
theorem mw_884 : (Jvm.Cond.methodLink "TaleCourt" (195 : Nat) ({ cls := "TaleCourt$Court", name := "hasTeller", desc := "(I)Z" } : Jvm.MethodName)) ∈ tbG := mt_4 (List.mem_of_getElem? (i := 51) (by decide +kernel)) rfl
theorem mw_885 : (Jvm.Cond.instanceMethod ({ cls := "TaleCourt$Court", name := "hasTeller", desc := "(I)Z" } : Jvm.MethodName)) ∈ tbG := mt_4 (List.mem_of_getElem? (i := 52) (by decide +kernel)) rfl
theorem mw_886 : (Jvm.Cond.selects "TaleCourt$Court" ({ cls := "TaleCourt$Court", name := "hasTeller", desc := "(I)Z" } : Jvm.MethodName) ({ cls := "TaleCourt$Court", name := "hasTeller", desc := "(I)Z" } : Jvm.MethodName)) ∈ tbG := mt_4 (List.mem_of_getElem? (i := 53) (by decide +kernel)) rfl
theorem mw_887 : (Jvm.Cond.code ({ cls := "TaleCourt$Court", name := "hasTeller", desc := "(I)Z" } : Jvm.MethodName) prog_3_method_7_code (2 : Nat) (Option.some Jvm.ClassFile.FieldType.boolean)) ∈ tbG := mt_4 (List.mem_of_getElem? (i := 54) (by decide +kernel)) rfl
theorem mw_888 : (Jvm.Cond.methodLink "TaleCourt" (198 : Nat) ({ cls := "TaleCourt$Telling", name := "shareOf", desc := "(I)I" } : Jvm.MethodName)) ∈ tbG := mt_4 (List.mem_of_getElem? (i := 55) (by decide +kernel)) rfl
theorem mw_889 : (Jvm.Cond.instanceMethod ({ cls := "TaleCourt$Telling", name := "shareOf", desc := "(I)I" } : Jvm.MethodName)) ∈ tbG := mt_4 (List.mem_of_getElem? (i := 56) (by decide +kernel)) rfl
theorem mw_890 : (Jvm.Cond.selects "TaleCourt$Telling" ({ cls := "TaleCourt$Telling", name := "shareOf", desc := "(I)I" } : Jvm.MethodName) ({ cls := "TaleCourt$Telling", name := "shareOf", desc := "(I)I" } : Jvm.MethodName)) ∈ tbG := mt_4 (List.mem_of_getElem? (i := 57) (by decide +kernel)) rfl
theorem mw_891 : (Jvm.Cond.code ({ cls := "TaleCourt$Telling", name := "shareOf", desc := "(I)I" } : Jvm.MethodName) prog_9_method_6_code (5 : Nat) (Option.some Jvm.ClassFile.FieldType.int)) ∈ tbG := mt_4 (List.mem_of_getElem? (i := 58) (by decide +kernel)) rfl
theorem mw_892 : (Jvm.Cond.methodLink "TaleCourt$Telling" (76 : Nat) ({ cls := "java/lang/Math", name := "max", desc := "(II)I" } : Jvm.MethodName)) ∈ tbG := mt_4 (List.mem_of_getElem? (i := 59) (by decide +kernel)) rfl
theorem mw_893 : (Jvm.Cond.static ({ cls := "java/lang/Math", name := "max", desc := "(II)I" } : Jvm.MethodName)) ∈ tbG := mt_4 (List.mem_of_getElem? (i := 60) (by decide +kernel)) rfl
theorem mw_894 : (Jvm.Cond.code ({ cls := "java/lang/Math", name := "max", desc := "(II)I" } : Jvm.MethodName) prog_13_method_65_code (2 : Nat) (Option.some Jvm.ClassFile.FieldType.int)) ∈ tbG := mt_4 (List.mem_of_getElem? (i := 61) (by decide +kernel)) rfl
theorem mw_895 : (Jvm.Cond.methodLink "TaleCourtLaw" (117 : Nat) ({ cls := "TaleCourt", name := "left", desc := "(I)I" } : Jvm.MethodName)) ∈ tbG := mt_4 (List.mem_of_getElem? (i := 62) (by decide +kernel)) rfl
theorem mw_896 : (Jvm.Cond.instanceMethod ({ cls := "TaleCourt", name := "left", desc := "(I)I" } : Jvm.MethodName)) ∈ tbG := mt_4 (List.mem_of_getElem? (i := 63) (by decide +kernel)) rfl
theorem mw_897 : (Jvm.Cond.selects "TaleCourt" ({ cls := "TaleCourt", name := "left", desc := "(I)I" } : Jvm.MethodName) ({ cls := "TaleCourt", name := "left", desc := "(I)I" } : Jvm.MethodName)) ∈ tbG := mt_4 (List.mem_of_getElem? (i := 64) (by decide +kernel)) rfl
theorem mw_898 : (Jvm.Cond.code ({ cls := "TaleCourt", name := "left", desc := "(I)I" } : Jvm.MethodName) prog_1_method_27_code (2 : Nat) (Option.some Jvm.ClassFile.FieldType.int)) ∈ tbG := mt_4 (List.mem_of_getElem? (i := 65) (by decide +kernel)) rfl
theorem mw_899 : (Jvm.Cond.methodLink "TaleCourt" (201 : Nat) ({ cls := "TaleCourt$Telling", name := "silencesLeft", desc := "(I)I" } : Jvm.MethodName)) ∈ tbG := mt_4 (List.mem_of_getElem? (i := 66) (by decide +kernel)) rfl
theorem mw_900 : (Jvm.Cond.methodLink "TaleCourtLaw" (121 : Nat) ({ cls := "TaleCourt", name := "longest", desc := "()I" } : Jvm.MethodName)) ∈ tbG := mt_4 (List.mem_of_getElem? (i := 67) (by decide +kernel)) rfl
theorem mw_901 : (Jvm.Cond.instanceMethod ({ cls := "TaleCourt", name := "longest", desc := "()I" } : Jvm.MethodName)) ∈ tbG := mt_4 (List.mem_of_getElem? (i := 68) (by decide +kernel)) rfl
theorem mw_902 : (Jvm.Cond.selects "TaleCourt" ({ cls := "TaleCourt", name := "longest", desc := "()I" } : Jvm.MethodName) ({ cls := "TaleCourt", name := "longest", desc := "()I" } : Jvm.MethodName)) ∈ tbG := mt_4 (List.mem_of_getElem? (i := 69) (by decide +kernel)) rfl
theorem mw_903 : (Jvm.Cond.code ({ cls := "TaleCourt", name := "longest", desc := "()I" } : Jvm.MethodName) prog_1_method_28_code (1 : Nat) (Option.some Jvm.ClassFile.FieldType.int)) ∈ tbG := mt_4 (List.mem_of_getElem? (i := 70) (by decide +kernel)) rfl
theorem mw_904 : (Jvm.Cond.methodLink "TaleCourt" (204 : Nat) ({ cls := "TaleCourt$Survey", name := "ask", desc := "(LTaleCourt$Telling;III)I" } : Jvm.MethodName)) ∈ tbG := mt_4 (List.mem_of_getElem? (i := 71) (by decide +kernel)) rfl
theorem mw_905 : (Jvm.Cond.instanceMethod ({ cls := "TaleCourt$Survey", name := "ask", desc := "(LTaleCourt$Telling;III)I" } : Jvm.MethodName)) ∈ tbG := mt_4 (List.mem_of_getElem? (i := 72) (by decide +kernel)) rfl
theorem mw_906 : (Jvm.Cond.selects "TaleCourt$Survey" ({ cls := "TaleCourt$Survey", name := "ask", desc := "(LTaleCourt$Telling;III)I" } : Jvm.MethodName) ({ cls := "TaleCourt$Survey", name := "ask", desc := "(LTaleCourt$Telling;III)I" } : Jvm.MethodName)) ∈ tbG := mt_4 (List.mem_of_getElem? (i := 73) (by decide +kernel)) rfl
theorem mw_907 : (Jvm.Cond.code ({ cls := "TaleCourt$Survey", name := "ask", desc := "(LTaleCourt$Telling;III)I" } : Jvm.MethodName) prog_8_method_2_code (5 : Nat) (Option.some Jvm.ClassFile.FieldType.int)) ∈ tbG := mt_4 (List.mem_of_getElem? (i := 74) (by decide +kernel)) rfl
theorem mw_908 : (Jvm.Cond.methodLink "TaleCourt$Survey" (32 : Nat) ({ cls := "TaleCourt$Telling", name := "copyFrom", desc := "(LTaleCourt$Telling;)V" } : Jvm.MethodName)) ∈ tbG := mt_4 (List.mem_of_getElem? (i := 75) (by decide +kernel)) rfl
theorem mw_909 : (Jvm.Cond.instanceMethod ({ cls := "TaleCourt$Telling", name := "copyFrom", desc := "(LTaleCourt$Telling;)V" } : Jvm.MethodName)) ∈ tbG := mt_4 (List.mem_of_getElem? (i := 76) (by decide +kernel)) rfl
theorem mw_910 : (Jvm.Cond.selects "TaleCourt$Telling" ({ cls := "TaleCourt$Telling", name := "copyFrom", desc := "(LTaleCourt$Telling;)V" } : Jvm.MethodName) ({ cls := "TaleCourt$Telling", name := "copyFrom", desc := "(LTaleCourt$Telling;)V" } : Jvm.MethodName)) ∈ tbG := mt_4 (List.mem_of_getElem? (i := 77) (by decide +kernel)) rfl
theorem mw_911 : (Jvm.Cond.code ({ cls := "TaleCourt$Telling", name := "copyFrom", desc := "(LTaleCourt$Telling;)V" } : Jvm.MethodName) prog_9_method_3_code (2 : Nat) (Option.none : Option Jvm.ClassFile.FieldType)) ∈ tbG := mt_4 (List.mem_of_getElem? (i := 78) (by decide +kernel)) rfl
theorem mw_912 : (Jvm.Cond.methodLink "TaleCourt$Telling" (62 : Nat) ({ cls := "java/lang/System", name := "arraycopy", desc := "(Ljava/lang/Object;ILjava/lang/Object;II)V" } : Jvm.MethodName)) ∈ tbG := mt_4 (List.mem_of_getElem? (i := 79) (by decide +kernel)) rfl
theorem mw_913 : (Jvm.Cond.methodLink "TaleCourt$Survey" (49 : Nat) ({ cls := "TaleCourt$Survey", name := "solve", desc := "(I)I" } : Jvm.MethodName)) ∈ tbG := mt_4 (List.mem_of_getElem? (i := 80) (by decide +kernel)) rfl
theorem mw_915 : (Jvm.Cond.instanceMethod ({ cls := "TaleCourt$Survey", name := "solve", desc := "(I)I" } : Jvm.MethodName)) ∈ tbG := mt_4 (List.mem_of_getElem? (i := 82) (by decide +kernel)) rfl
theorem mw_916 : (Jvm.Cond.code ({ cls := "TaleCourt$Survey", name := "solve", desc := "(I)I" } : Jvm.MethodName) prog_8_method_5_code (8 : Nat) (Option.some Jvm.ClassFile.FieldType.int)) ∈ tbG := mt_4 (List.mem_of_getElem? (i := 83) (by decide +kernel)) rfl
theorem mw_917 : (Jvm.Cond.methodLink "TaleCourt$Survey" (75 : Nat) ({ cls := "TaleCourt$Survey", name := "key", desc := "()J" } : Jvm.MethodName)) ∈ tbG := mt_4 (List.mem_of_getElem? (i := 84) (by decide +kernel)) rfl
theorem mw_919 : (Jvm.Cond.instanceMethod ({ cls := "TaleCourt$Survey", name := "key", desc := "()J" } : Jvm.MethodName)) ∈ tbG := mt_4 (List.mem_of_getElem? (i := 86) (by decide +kernel)) rfl
theorem mw_920 : (Jvm.Cond.code ({ cls := "TaleCourt$Survey", name := "key", desc := "()J" } : Jvm.MethodName) prog_8_method_6_code (3 : Nat) (Option.some Jvm.ClassFile.FieldType.long)) ∈ tbG := mt_4 (List.mem_of_getElem? (i := 87) (by decide +kernel)) rfl
theorem mw_921 : (Jvm.Cond.methodLink "TaleCourt$Survey" (90 : Nat) ({ cls := "TaleCourt$Telling", name := "debts", desc := "()J" } : Jvm.MethodName)) ∈ tbG := mt_4 (List.mem_of_getElem? (i := 88) (by decide +kernel)) rfl
theorem mw_922 : (Jvm.Cond.instanceMethod ({ cls := "TaleCourt$Telling", name := "debts", desc := "()J" } : Jvm.MethodName)) ∈ tbG := mt_4 (List.mem_of_getElem? (i := 89) (by decide +kernel)) rfl
theorem mw_923 : (Jvm.Cond.selects "TaleCourt$Telling" ({ cls := "TaleCourt$Telling", name := "debts", desc := "()J" } : Jvm.MethodName) ({ cls := "TaleCourt$Telling", name := "debts", desc := "()J" } : Jvm.MethodName)) ∈ tbG := mt_4 (List.mem_of_getElem? (i := 90) (by decide +kernel)) rfl
theorem mw_924 : (Jvm.Cond.code ({ cls := "TaleCourt$Telling", name := "debts", desc := "()J" } : Jvm.MethodName) prog_9_method_10_code (8 : Nat) (Option.some Jvm.ClassFile.FieldType.long)) ∈ tbG := mt_4 (List.mem_of_getElem? (i := 91) (by decide +kernel)) rfl
theorem mw_925 : (Jvm.Cond.methodLink "TaleCourt$Telling" (98 : Nat) ({ cls := "java/lang/Math", name := "min", desc := "(II)I" } : Jvm.MethodName)) ∈ tbG := mt_4 (List.mem_of_getElem? (i := 92) (by decide +kernel)) rfl
theorem mw_926 : (Jvm.Cond.constantLong "TaleCourt$Survey" (79 : Nat) (-7046029254386353131 : Int64)) ∈ tbG := mt_4 (List.mem_of_getElem? (i := 93) (by decide +kernel)) rfl
theorem mw_927 : (Jvm.Cond.methodLink "TaleCourt$Survey" (57 : Nat) ({ cls := "TaleCourt$Survey", name := "own", desc := "(I)I" } : Jvm.MethodName)) ∈ tbG := mt_4 (List.mem_of_getElem? (i := 94) (by decide +kernel)) rfl
theorem mw_929 : (Jvm.Cond.instanceMethod ({ cls := "TaleCourt$Survey", name := "own", desc := "(I)I" } : Jvm.MethodName)) ∈ tbG := mt_4 (List.mem_of_getElem? (i := 96) (by decide +kernel)) rfl
theorem mw_930 : (Jvm.Cond.code ({ cls := "TaleCourt$Survey", name := "own", desc := "(I)I" } : Jvm.MethodName) prog_8_method_8_code (3 : Nat) (Option.some Jvm.ClassFile.FieldType.int)) ∈ tbG := mt_4 (List.mem_of_getElem? (i := 97) (by decide +kernel)) rfl
theorem mw_931 : (Jvm.Cond.methodLink "TaleCourt$Survey" (101 : Nat) ({ cls := "TaleCourt$Telling", name := "isWhole", desc := "()Z" } : Jvm.MethodName)) ∈ tbG := mt_4 (List.mem_of_getElem? (i := 98) (by decide +kernel)) rfl
theorem mw_932 : (Jvm.Cond.methodLink "TaleCourt$Survey" (68 : Nat) ({ cls := "TaleCourt$Survey", name := "openNow", desc := "()I" } : Jvm.MethodName)) ∈ tbG := mt_4 (List.mem_of_getElem? (i := 99) (by decide +kernel)) rfl
theorem mw_934 : (Jvm.Cond.instanceMethod ({ cls := "TaleCourt$Survey", name := "openNow", desc := "()I" } : Jvm.MethodName)) ∈ tbG := mt_4 (List.mem_of_getElem? (i := 101) (by decide +kernel)) rfl
theorem mw_935 : (Jvm.Cond.code ({ cls := "TaleCourt$Survey", name := "openNow", desc := "()I" } : Jvm.MethodName) prog_8_method_7_code (2 : Nat) (Option.some Jvm.ClassFile.FieldType.int)) ∈ tbG := mt_4 (List.mem_of_getElem? (i := 102) (by decide +kernel)) rfl
theorem mw_936 : (Jvm.Cond.methodLink "TaleCourt$Survey" (93 : Nat) ({ cls := "TaleCourt$Telling", name := "tellable", desc := "()I" } : Jvm.MethodName)) ∈ tbG := mt_4 (List.mem_of_getElem? (i := 103) (by decide +kernel)) rfl
theorem mw_937 : (Jvm.Cond.methodLink "TaleCourt$Survey" (96 : Nat) ({ cls := "TaleCourt$Claims", name := "allowedOf", desc := "(II)I" } : Jvm.MethodName)) ∈ tbG := mt_4 (List.mem_of_getElem? (i := 104) (by decide +kernel)) rfl
theorem mw_938 : (Jvm.Cond.instanceMethod ({ cls := "TaleCourt$Claims", name := "allowedOf", desc := "(II)I" } : Jvm.MethodName)) ∈ tbG := mt_4 (List.mem_of_getElem? (i := 105) (by decide +kernel)) rfl
theorem mw_939 : (Jvm.Cond.selects "TaleCourt$Claims" ({ cls := "TaleCourt$Claims", name := "allowedOf", desc := "(II)I" } : Jvm.MethodName) ({ cls := "TaleCourt$Claims", name := "allowedOf", desc := "(II)I" } : Jvm.MethodName)) ∈ tbG := mt_4 (List.mem_of_getElem? (i := 106) (by decide +kernel)) rfl
theorem mw_940 : (Jvm.Cond.code ({ cls := "TaleCourt$Claims", name := "allowedOf", desc := "(II)I" } : Jvm.MethodName) prog_2_method_5_code (5 : Nat) (Option.some Jvm.ClassFile.FieldType.int)) ∈ tbG := mt_4 (List.mem_of_getElem? (i := 107) (by decide +kernel)) rfl
theorem mw_941 : (Jvm.Cond.methodLink "TaleCourt$Claims" (59 : Nat) ({ cls := "TaleCourt$Claims", name := "allows", desc := "(II)Z" } : Jvm.MethodName)) ∈ tbG := mt_4 (List.mem_of_getElem? (i := 108) (by decide +kernel)) rfl
theorem mw_943 : (Jvm.Cond.instanceMethod ({ cls := "TaleCourt$Claims", name := "allows", desc := "(II)Z" } : Jvm.MethodName)) ∈ tbG := mt_4 (List.mem_of_getElem? (i := 110) (by decide +kernel)) rfl
theorem mw_944 : (Jvm.Cond.code ({ cls := "TaleCourt$Claims", name := "allows", desc := "(II)Z" } : Jvm.MethodName) prog_2_method_4_code (3 : Nat) (Option.some Jvm.ClassFile.FieldType.boolean)) ∈ tbG := mt_4 (List.mem_of_getElem? (i := 111) (by decide +kernel)) rfl
theorem mw_945 : (Jvm.Cond.methodLink "TaleCourt$Survey" (64 : Nat) ({ cls := "TaleCourt$Telling", name := "tell", desc := "(I)V" } : Jvm.MethodName)) ∈ tbG := mt_4 (List.mem_of_getElem? (i := 112) (by decide +kernel)) rfl
theorem mw_946 : (Jvm.Cond.methodLink "TaleCourt$Survey" (81 : Nat) ({ cls := "TaleCourt$Survey", name := "merge", desc := "(II)I" } : Jvm.MethodName)) ∈ tbG := mt_4 (List.mem_of_getElem? (i := 113) (by decide +kernel)) rfl
theorem mw_948 : (Jvm.Cond.instanceMethod ({ cls := "TaleCourt$Survey", name := "merge", desc := "(II)I" } : Jvm.MethodName)) ∈ tbG := mt_4 (List.mem_of_getElem? (i := 115) (by decide +kernel)) rfl
theorem mw_949 : (Jvm.Cond.code ({ cls := "TaleCourt$Survey", name := "merge", desc := "(II)I" } : Jvm.MethodName) prog_8_method_9_code (3 : Nat) (Option.some Jvm.ClassFile.FieldType.int)) ∈ tbG := mt_4 (List.mem_of_getElem? (i := 116) (by decide +kernel)) rfl
theorem mw_950 : (Jvm.Cond.methodLink "TaleCourt$Survey" (111 : Nat) ({ cls := "java/lang/Math", name := "min", desc := "(II)I" } : Jvm.MethodName)) ∈ tbG := mt_4 (List.mem_of_getElem? (i := 117) (by decide +kernel)) rfl
theorem mw_951 : (Jvm.Cond.methodLink "TaleCourt$Survey" (116 : Nat) ({ cls := "java/lang/Math", name := "max", desc := "(II)I" } : Jvm.MethodName)) ∈ tbG := mt_4 (List.mem_of_getElem? (i := 118) (by decide +kernel)) rfl
theorem mw_952 : (Jvm.Cond.methodLink "TaleCourt$Survey" (72 : Nat) ({ cls := "TaleCourt$Telling", name := "takeBack", desc := "()V" } : Jvm.MethodName)) ∈ tbG := mt_4 (List.mem_of_getElem? (i := 119) (by decide +kernel)) rfl
theorem mw_953 : (Jvm.Cond.methodLink "TaleCourtLaw" (125 : Nat) ({ cls := "TaleCourt", name := "full", desc := "()I" } : Jvm.MethodName)) ∈ tbG := mt_4 (List.mem_of_getElem? (i := 120) (by decide +kernel)) rfl
theorem mw_954 : (Jvm.Cond.instanceMethod ({ cls := "TaleCourt", name := "full", desc := "()I" } : Jvm.MethodName)) ∈ tbG := mt_4 (List.mem_of_getElem? (i := 121) (by decide +kernel)) rfl
theorem mw_955 : (Jvm.Cond.selects "TaleCourt" ({ cls := "TaleCourt", name := "full", desc := "()I" } : Jvm.MethodName) ({ cls := "TaleCourt", name := "full", desc := "()I" } : Jvm.MethodName)) ∈ tbG := mt_4 (List.mem_of_getElem? (i := 122) (by decide +kernel)) rfl
theorem mw_956 : (Jvm.Cond.code ({ cls := "TaleCourt", name := "full", desc := "()I" } : Jvm.MethodName) prog_1_method_29_code (1 : Nat) (Option.some Jvm.ClassFile.FieldType.int)) ∈ tbG := mt_4 (List.mem_of_getElem? (i := 123) (by decide +kernel)) rfl
theorem mw_957 : (Jvm.Cond.methodLink "TaleCourtLaw" (129 : Nat) ({ cls := "TaleCourt", name := "line", desc := "(I)I" } : Jvm.MethodName)) ∈ tbG := mt_4 (List.mem_of_getElem? (i := 124) (by decide +kernel)) rfl
theorem mw_958 : (Jvm.Cond.instanceMethod ({ cls := "TaleCourt", name := "line", desc := "(I)I" } : Jvm.MethodName)) ∈ tbG := mt_4 (List.mem_of_getElem? (i := 125) (by decide +kernel)) rfl
theorem mw_959 : (Jvm.Cond.selects "TaleCourt" ({ cls := "TaleCourt", name := "line", desc := "(I)I" } : Jvm.MethodName) ({ cls := "TaleCourt", name := "line", desc := "(I)I" } : Jvm.MethodName)) ∈ tbG := mt_4 (List.mem_of_getElem? (i := 126) (by decide +kernel)) rfl
theorem mw_960 : (Jvm.Cond.code ({ cls := "TaleCourt", name := "line", desc := "(I)I" } : Jvm.MethodName) prog_1_method_30_code (2 : Nat) (Option.some Jvm.ClassFile.FieldType.int)) ∈ tbG := mt_4 (List.mem_of_getElem? (i := 127) (by decide +kernel)) rfl
theorem mw_961 : (Jvm.Cond.methodLink "TaleCourt" (208 : Nat) ({ cls := "TaleCourt$Survey", name := "askRow", desc := "(LTaleCourt$Telling;III)I" } : Jvm.MethodName)) ∈ tbG := mt_4 (List.mem_of_getElem? (i := 128) (by decide +kernel)) rfl
theorem mw_962 : (Jvm.Cond.instanceMethod ({ cls := "TaleCourt$Survey", name := "askRow", desc := "(LTaleCourt$Telling;III)I" } : Jvm.MethodName)) ∈ tbG := mt_4 (List.mem_of_getElem? (i := 129) (by decide +kernel)) rfl
theorem mw_963 : (Jvm.Cond.selects "TaleCourt$Survey" ({ cls := "TaleCourt$Survey", name := "askRow", desc := "(LTaleCourt$Telling;III)I" } : Jvm.MethodName) ({ cls := "TaleCourt$Survey", name := "askRow", desc := "(LTaleCourt$Telling;III)I" } : Jvm.MethodName)) ∈ tbG := mt_4 (List.mem_of_getElem? (i := 130) (by decide +kernel)) rfl
theorem mw_964 : (Jvm.Cond.code ({ cls := "TaleCourt$Survey", name := "askRow", desc := "(LTaleCourt$Telling;III)I" } : Jvm.MethodName) prog_8_method_3_code (8 : Nat) (Option.some Jvm.ClassFile.FieldType.int)) ∈ tbG := mt_4 (List.mem_of_getElem? (i := 131) (by decide +kernel)) rfl
theorem mw_965 : (Jvm.Cond.methodLink "TaleCourt$Survey" (53 : Nat) ({ cls := "TaleCourt$Survey", name := "ask", desc := "(LTaleCourt$Telling;III)I" } : Jvm.MethodName)) ∈ tbG := mt_4 (List.mem_of_getElem? (i := 132) (by decide +kernel)) rfl
theorem mw_966 : (Jvm.Cond.methodLink "TaleCourt$Survey" (60 : Nat) ({ cls := "TaleCourt$Survey", name := "firstWith", desc := "(II)I" } : Jvm.MethodName)) ∈ tbG := mt_4 (List.mem_of_getElem? (i := 133) (by decide +kernel)) rfl
theorem mw_968 : (Jvm.Cond.instanceMethod ({ cls := "TaleCourt$Survey", name := "firstWith", desc := "(II)I" } : Jvm.MethodName)) ∈ tbG := mt_4 (List.mem_of_getElem? (i := 135) (by decide +kernel)) rfl
theorem mw_969 : (Jvm.Cond.code ({ cls := "TaleCourt$Survey", name := "firstWith", desc := "(II)I" } : Jvm.MethodName) prog_8_method_4_code (6 : Nat) (Option.some Jvm.ClassFile.FieldType.int)) ∈ tbG := mt_4 (List.mem_of_getElem? (i := 136) (by decide +kernel)) rfl
theorem mw_970 : (Jvm.Cond.methodLink "TaleCourtLaw" (133 : Nat) ({ cls := "TaleCourt", name := "best", desc := "()I" } : Jvm.MethodName)) ∈ tbG := mt_4 (List.mem_of_getElem? (i := 137) (by decide +kernel)) rfl
theorem mw_971 : (Jvm.Cond.instanceMethod ({ cls := "TaleCourt", name := "best", desc := "()I" } : Jvm.MethodName)) ∈ tbG := mt_4 (List.mem_of_getElem? (i := 138) (by decide +kernel)) rfl
theorem mw_972 : (Jvm.Cond.selects "TaleCourt" ({ cls := "TaleCourt", name := "best", desc := "()I" } : Jvm.MethodName) ({ cls := "TaleCourt", name := "best", desc := "()I" } : Jvm.MethodName)) ∈ tbG := mt_4 (List.mem_of_getElem? (i := 139) (by decide +kernel)) rfl
theorem mw_973 : (Jvm.Cond.code ({ cls := "TaleCourt", name := "best", desc := "()I" } : Jvm.MethodName) prog_1_method_31_code (1 : Nat) (Option.some Jvm.ClassFile.FieldType.int)) ∈ tbG := mt_4 (List.mem_of_getElem? (i := 140) (by decide +kernel)) rfl
theorem mw_974 : (Jvm.Cond.methodLink "TaleCourtLaw" (137 : Nat) ({ cls := "TaleCourt", name := "tale", desc := "(I)I" } : Jvm.MethodName)) ∈ tbG := mt_4 (List.mem_of_getElem? (i := 141) (by decide +kernel)) rfl
theorem mw_975 : (Jvm.Cond.instanceMethod ({ cls := "TaleCourt", name := "tale", desc := "(I)I" } : Jvm.MethodName)) ∈ tbG := mt_4 (List.mem_of_getElem? (i := 142) (by decide +kernel)) rfl
theorem mw_976 : (Jvm.Cond.selects "TaleCourt" ({ cls := "TaleCourt", name := "tale", desc := "(I)I" } : Jvm.MethodName) ({ cls := "TaleCourt", name := "tale", desc := "(I)I" } : Jvm.MethodName)) ∈ tbG := mt_4 (List.mem_of_getElem? (i := 143) (by decide +kernel)) rfl
theorem mw_977 : (Jvm.Cond.code ({ cls := "TaleCourt", name := "tale", desc := "(I)I" } : Jvm.MethodName) prog_1_method_32_code (3 : Nat) (Option.some Jvm.ClassFile.FieldType.int)) ∈ tbG := mt_4 (List.mem_of_getElem? (i := 144) (by decide +kernel)) rfl
theorem mw_978 : (Jvm.Cond.methodLink "TaleCourtLaw" (141 : Nat) ({ cls := "TaleCourt", name := "roof", desc := "(I)I" } : Jvm.MethodName)) ∈ tbG := mt_4 (List.mem_of_getElem? (i := 145) (by decide +kernel)) rfl
theorem mw_979 : (Jvm.Cond.instanceMethod ({ cls := "TaleCourt", name := "roof", desc := "(I)I" } : Jvm.MethodName)) ∈ tbG := mt_4 (List.mem_of_getElem? (i := 146) (by decide +kernel)) rfl
theorem mw_980 : (Jvm.Cond.selects "TaleCourt" ({ cls := "TaleCourt", name := "roof", desc := "(I)I" } : Jvm.MethodName) ({ cls := "TaleCourt", name := "roof", desc := "(I)I" } : Jvm.MethodName)) ∈ tbG := mt_4 (List.mem_of_getElem? (i := 147) (by decide +kernel)) rfl
theorem mw_981 : (Jvm.Cond.code ({ cls := "TaleCourt", name := "roof", desc := "(I)I" } : Jvm.MethodName) prog_1_method_33_code (2 : Nat) (Option.some Jvm.ClassFile.FieldType.int)) ∈ tbG := mt_4 (List.mem_of_getElem? (i := 148) (by decide +kernel)) rfl
theorem mw_982 : (Jvm.Cond.methodLink "TaleCourtLaw" (145 : Nat) ({ cls := "TaleCourt", name := "beam", desc := "(II)I" } : Jvm.MethodName)) ∈ tbG := mt_4 (List.mem_of_getElem? (i := 149) (by decide +kernel)) rfl
theorem mw_983 : (Jvm.Cond.instanceMethod ({ cls := "TaleCourt", name := "beam", desc := "(II)I" } : Jvm.MethodName)) ∈ tbG := mt_4 (List.mem_of_getElem? (i := 150) (by decide +kernel)) rfl
theorem mw_984 : (Jvm.Cond.selects "TaleCourt" ({ cls := "TaleCourt", name := "beam", desc := "(II)I" } : Jvm.MethodName) ({ cls := "TaleCourt", name := "beam", desc := "(II)I" } : Jvm.MethodName)) ∈ tbG := mt_4 (List.mem_of_getElem? (i := 151) (by decide +kernel)) rfl
theorem mw_985 : (Jvm.Cond.code ({ cls := "TaleCourt", name := "beam", desc := "(II)I" } : Jvm.MethodName) prog_1_method_34_code (3 : Nat) (Option.some Jvm.ClassFile.FieldType.int)) ∈ tbG := mt_4 (List.mem_of_getElem? (i := 152) (by decide +kernel)) rfl
theorem mw_986 : (Jvm.Cond.methodLink "TaleCourtLaw" (149 : Nat) ({ cls := "TaleCourt", name := "rows", desc := "(I)I" } : Jvm.MethodName)) ∈ tbG := mt_4 (List.mem_of_getElem? (i := 153) (by decide +kernel)) rfl
theorem mw_987 : (Jvm.Cond.instanceMethod ({ cls := "TaleCourt", name := "rows", desc := "(I)I" } : Jvm.MethodName)) ∈ tbG := mt_4 (List.mem_of_getElem? (i := 154) (by decide +kernel)) rfl
theorem mw_988 : (Jvm.Cond.selects "TaleCourt" ({ cls := "TaleCourt", name := "rows", desc := "(I)I" } : Jvm.MethodName) ({ cls := "TaleCourt", name := "rows", desc := "(I)I" } : Jvm.MethodName)) ∈ tbG := mt_4 (List.mem_of_getElem? (i := 155) (by decide +kernel)) rfl
theorem mw_989 : (Jvm.Cond.code ({ cls := "TaleCourt", name := "rows", desc := "(I)I" } : Jvm.MethodName) prog_1_method_35_code (2 : Nat) (Option.some Jvm.ClassFile.FieldType.int)) ∈ tbG := mt_4 (List.mem_of_getElem? (i := 156) (by decide +kernel)) rfl
theorem mw_990 : (Jvm.Cond.methodLink "TaleCourtLaw" (153 : Nat) ({ cls := "TaleCourt", name := "wholes", desc := "()I" } : Jvm.MethodName)) ∈ tbG := mt_4 (List.mem_of_getElem? (i := 157) (by decide +kernel)) rfl
theorem mw_991 : (Jvm.Cond.instanceMethod ({ cls := "TaleCourt", name := "wholes", desc := "()I" } : Jvm.MethodName)) ∈ tbG := mt_4 (List.mem_of_getElem? (i := 158) (by decide +kernel)) rfl
theorem mw_992 : (Jvm.Cond.selects "TaleCourt" ({ cls := "TaleCourt", name := "wholes", desc := "()I" } : Jvm.MethodName) ({ cls := "TaleCourt", name := "wholes", desc := "()I" } : Jvm.MethodName)) ∈ tbG := mt_4 (List.mem_of_getElem? (i := 159) (by decide +kernel)) rfl
theorem mw_993 : (Jvm.Cond.code ({ cls := "TaleCourt", name := "wholes", desc := "()I" } : Jvm.MethodName) prog_1_method_36_code (1 : Nat) (Option.some Jvm.ClassFile.FieldType.int)) ∈ tbG := mt_4 (List.mem_of_getElem? (i := 160) (by decide +kernel)) rfl
theorem mw_994 : (Jvm.Cond.methodLink "TaleCourt" (211 : Nat) ({ cls := "TaleCourt", name := "wholesWithout", desc := "(I)I" } : Jvm.MethodName)) ∈ tbG := mt_4 (List.mem_of_getElem? (i := 161) (by decide +kernel)) rfl
theorem mw_996 : (Jvm.Cond.instanceMethod ({ cls := "TaleCourt", name := "wholesWithout", desc := "(I)I" } : Jvm.MethodName)) ∈ tbG := mt_4 (List.mem_of_getElem? (i := 163) (by decide +kernel)) rfl
theorem mw_997 : (Jvm.Cond.code ({ cls := "TaleCourt", name := "wholesWithout", desc := "(I)I" } : Jvm.MethodName) prog_1_method_37_code (2 : Nat) (Option.some Jvm.ClassFile.FieldType.int)) ∈ tbG := mt_4 (List.mem_of_getElem? (i := 164) (by decide +kernel)) rfl
theorem mw_998 : (Jvm.Cond.methodLink "TaleCourtLaw" (157 : Nat) ({ cls := "TaleCourt", name := "ends", desc := "(I)I" } : Jvm.MethodName)) ∈ tbG := mt_4 (List.mem_of_getElem? (i := 165) (by decide +kernel)) rfl
theorem mw_999 : (Jvm.Cond.instanceMethod ({ cls := "TaleCourt", name := "ends", desc := "(I)I" } : Jvm.MethodName)) ∈ tbG := mt_4 (List.mem_of_getElem? (i := 166) (by decide +kernel)) rfl
theorem mw_1000 : (Jvm.Cond.selects "TaleCourt" ({ cls := "TaleCourt", name := "ends", desc := "(I)I" } : Jvm.MethodName) ({ cls := "TaleCourt", name := "ends", desc := "(I)I" } : Jvm.MethodName)) ∈ tbG := mt_4 (List.mem_of_getElem? (i := 167) (by decide +kernel)) rfl
theorem mw_1001 : (Jvm.Cond.code ({ cls := "TaleCourt", name := "ends", desc := "(I)I" } : Jvm.MethodName) prog_1_method_38_code (2 : Nat) (Option.some Jvm.ClassFile.FieldType.int)) ∈ tbG := mt_4 (List.mem_of_getElem? (i := 168) (by decide +kernel)) rfl
theorem mw_1002 : (Jvm.Cond.methodLink "TaleCourtLaw" (161 : Nat) ({ cls := "TaleCourt", name := "always", desc := "(I)I" } : Jvm.MethodName)) ∈ tbG := mt_4 (List.mem_of_getElem? (i := 169) (by decide +kernel)) rfl
theorem mw_1003 : (Jvm.Cond.instanceMethod ({ cls := "TaleCourt", name := "always", desc := "(I)I" } : Jvm.MethodName)) ∈ tbG := mt_4 (List.mem_of_getElem? (i := 170) (by decide +kernel)) rfl
theorem mw_1004 : (Jvm.Cond.selects "TaleCourt" ({ cls := "TaleCourt", name := "always", desc := "(I)I" } : Jvm.MethodName) ({ cls := "TaleCourt", name := "always", desc := "(I)I" } : Jvm.MethodName)) ∈ tbG := mt_4 (List.mem_of_getElem? (i := 171) (by decide +kernel)) rfl
theorem mw_1005 : (Jvm.Cond.code ({ cls := "TaleCourt", name := "always", desc := "(I)I" } : Jvm.MethodName) prog_1_method_39_code (6 : Nat) (Option.some Jvm.ClassFile.FieldType.int)) ∈ tbG := mt_4 (List.mem_of_getElem? (i := 172) (by decide +kernel)) rfl
theorem mw_1006 : (Jvm.Cond.methodLink "TaleCourtLaw" (197 : Nat) ({ cls := "TaleCourt", name := "around", desc := "(I)I" } : Jvm.MethodName)) ∈ tbG := mt_4 (List.mem_of_getElem? (i := 173) (by decide +kernel)) rfl
theorem mw_1007 : (Jvm.Cond.instanceMethod ({ cls := "TaleCourt", name := "around", desc := "(I)I" } : Jvm.MethodName)) ∈ tbG := mt_4 (List.mem_of_getElem? (i := 174) (by decide +kernel)) rfl
theorem mw_1008 : (Jvm.Cond.selects "TaleCourt" ({ cls := "TaleCourt", name := "around", desc := "(I)I" } : Jvm.MethodName) ({ cls := "TaleCourt", name := "around", desc := "(I)I" } : Jvm.MethodName)) ∈ tbG := mt_4 (List.mem_of_getElem? (i := 175) (by decide +kernel)) rfl
theorem mw_1009 : (Jvm.Cond.code ({ cls := "TaleCourt", name := "around", desc := "(I)I" } : Jvm.MethodName) prog_1_method_40_code (2 : Nat) (Option.some Jvm.ClassFile.FieldType.int)) ∈ tbG := mt_4 (List.mem_of_getElem? (i := 176) (by decide +kernel)) rfl
theorem mw_1010 : (Jvm.Cond.methodLink "TaleCourt" (220 : Nat) ({ cls := "TaleCourt", name := "ends", desc := "(I)I" } : Jvm.MethodName)) ∈ tbG := mt_4 (List.mem_of_getElem? (i := 177) (by decide +kernel)) rfl
theorem mw_1011 : (Jvm.Cond.methodLink "TaleCourtLaw" (205 : Nat) ({ cls := "TaleCourt", name := "lack", desc := "(I)I" } : Jvm.MethodName)) ∈ tbG := mt_4 (List.mem_of_getElem? (i := 178) (by decide +kernel)) rfl
theorem mw_1012 : (Jvm.Cond.instanceMethod ({ cls := "TaleCourt", name := "lack", desc := "(I)I" } : Jvm.MethodName)) ∈ tbG := mt_4 (List.mem_of_getElem? (i := 179) (by decide +kernel)) rfl
theorem mw_1013 : (Jvm.Cond.selects "TaleCourt" ({ cls := "TaleCourt", name := "lack", desc := "(I)I" } : Jvm.MethodName) ({ cls := "TaleCourt", name := "lack", desc := "(I)I" } : Jvm.MethodName)) ∈ tbG := mt_4 (List.mem_of_getElem? (i := 180) (by decide +kernel)) rfl
theorem mw_1014 : (Jvm.Cond.code ({ cls := "TaleCourt", name := "lack", desc := "(I)I" } : Jvm.MethodName) prog_1_method_41_code (2 : Nat) (Option.some Jvm.ClassFile.FieldType.int)) ∈ tbG := mt_4 (List.mem_of_getElem? (i := 181) (by decide +kernel)) rfl
theorem mw_1015 : (Jvm.Cond.methodLink "TaleCourtLaw" (209 : Nat) ({ cls := "TaleCourt", name := "crux", desc := "()I" } : Jvm.MethodName)) ∈ tbG := mt_4 (List.mem_of_getElem? (i := 182) (by decide +kernel)) rfl
theorem mw_1016 : (Jvm.Cond.instanceMethod ({ cls := "TaleCourt", name := "crux", desc := "()I" } : Jvm.MethodName)) ∈ tbG := mt_4 (List.mem_of_getElem? (i := 183) (by decide +kernel)) rfl
theorem mw_1017 : (Jvm.Cond.selects "TaleCourt" ({ cls := "TaleCourt", name := "crux", desc := "()I" } : Jvm.MethodName) ({ cls := "TaleCourt", name := "crux", desc := "()I" } : Jvm.MethodName)) ∈ tbG := mt_4 (List.mem_of_getElem? (i := 184) (by decide +kernel)) rfl
theorem mw_1018 : (Jvm.Cond.code ({ cls := "TaleCourt", name := "crux", desc := "()I" } : Jvm.MethodName) prog_1_method_42_code (5 : Nat) (Option.some Jvm.ClassFile.FieldType.int)) ∈ tbG := mt_4 (List.mem_of_getElem? (i := 185) (by decide +kernel)) rfl
theorem mw_1019 : (Jvm.Cond.methodLink "TaleCourtLaw" (213 : Nat) ({ cls := "TaleCourt", name := "cost", desc := "(I)I" } : Jvm.MethodName)) ∈ tbG := mt_4 (List.mem_of_getElem? (i := 186) (by decide +kernel)) rfl
theorem mw_1020 : (Jvm.Cond.instanceMethod ({ cls := "TaleCourt", name := "cost", desc := "(I)I" } : Jvm.MethodName)) ∈ tbG := mt_4 (List.mem_of_getElem? (i := 187) (by decide +kernel)) rfl
theorem mw_1021 : (Jvm.Cond.selects "TaleCourt" ({ cls := "TaleCourt", name := "cost", desc := "(I)I" } : Jvm.MethodName) ({ cls := "TaleCourt", name := "cost", desc := "(I)I" } : Jvm.MethodName)) ∈ tbG := mt_4 (List.mem_of_getElem? (i := 188) (by decide +kernel)) rfl
theorem mw_1022 : (Jvm.Cond.code ({ cls := "TaleCourt", name := "cost", desc := "(I)I" } : Jvm.MethodName) prog_1_method_43_code (4 : Nat) (Option.some Jvm.ClassFile.FieldType.int)) ∈ tbG := mt_4 (List.mem_of_getElem? (i := 189) (by decide +kernel)) rfl
theorem mw_1023 : (Jvm.Cond.methodLink "TaleCourtLaw" (165 : Nat) ({ cls := "TaleCourt", name := "wins", desc := "()I" } : Jvm.MethodName)) ∈ tbG := mt_4 (List.mem_of_getElem? (i := 190) (by decide +kernel)) rfl
theorem mw_1024 : (Jvm.Cond.instanceMethod ({ cls := "TaleCourt", name := "wins", desc := "()I" } : Jvm.MethodName)) ∈ tbG := mt_4 (List.mem_of_getElem? (i := 191) (by decide +kernel)) rfl
theorem mw_1025 : (Jvm.Cond.selects "TaleCourt" ({ cls := "TaleCourt", name := "wins", desc := "()I" } : Jvm.MethodName) ({ cls := "TaleCourt", name := "wins", desc := "()I" } : Jvm.MethodName)) ∈ tbG := mt_4 (List.mem_of_getElem? (i := 192) (by decide +kernel)) rfl
theorem mw_1026 : (Jvm.Cond.code ({ cls := "TaleCourt", name := "wins", desc := "()I" } : Jvm.MethodName) prog_1_method_45_code (2 : Nat) (Option.some Jvm.ClassFile.FieldType.int)) ∈ tbG := mt_4 (List.mem_of_getElem? (i := 193) (by decide +kernel)) rfl
theorem mw_1027 : (Jvm.Cond.methodLink "TaleCourt" (226 : Nat) ({ cls := "TaleCourt", name := "gameBar", desc := "()I" } : Jvm.MethodName)) ∈ tbG := mt_4 (List.mem_of_getElem? (i := 194) (by decide +kernel)) rfl
theorem mw_1029 : (Jvm.Cond.instanceMethod ({ cls := "TaleCourt", name := "gameBar", desc := "()I" } : Jvm.MethodName)) ∈ tbG := mt_4 (List.mem_of_getElem? (i := 196) (by decide +kernel)) rfl
theorem mw_1030 : (Jvm.Cond.code ({ cls := "TaleCourt", name := "gameBar", desc := "()I" } : Jvm.MethodName) prog_1_method_44_code (1 : Nat) (Option.some Jvm.ClassFile.FieldType.int)) ∈ tbG := mt_4 (List.mem_of_getElem? (i := 197) (by decide +kernel)) rfl
theorem mw_1031 : (Jvm.Cond.methodLink "TaleCourt" (229 : Nat) ({ cls := "TaleCourt$Game", name := "begin", desc := "(LTaleCourt$Telling;Z)V" } : Jvm.MethodName)) ∈ tbG := mt_4 (List.mem_of_getElem? (i := 198) (by decide +kernel)) rfl
theorem mw_1032 : (Jvm.Cond.instanceMethod ({ cls := "TaleCourt$Game", name := "begin", desc := "(LTaleCourt$Telling;Z)V" } : Jvm.MethodName)) ∈ tbG := mt_4 (List.mem_of_getElem? (i := 199) (by decide +kernel)) rfl
theorem mw_1033 : (Jvm.Cond.selects "TaleCourt$Game" ({ cls := "TaleCourt$Game", name := "begin", desc := "(LTaleCourt$Telling;Z)V" } : Jvm.MethodName) ({ cls := "TaleCourt$Game", name := "begin", desc := "(LTaleCourt$Telling;Z)V" } : Jvm.MethodName)) ∈ tbG := mt_4 (List.mem_of_getElem? (i := 200) (by decide +kernel)) rfl
theorem mw_1034 : (Jvm.Cond.code ({ cls := "TaleCourt$Game", name := "begin", desc := "(LTaleCourt$Telling;Z)V" } : Jvm.MethodName) prog_4_method_2_code (3 : Nat) (Option.none : Option Jvm.ClassFile.FieldType)) ∈ tbG := mt_4 (List.mem_of_getElem? (i := 201) (by decide +kernel)) rfl
theorem mw_1035 : (Jvm.Cond.methodLink "TaleCourt$Game" (28 : Nat) ({ cls := "TaleCourt$Telling", name := "copyFrom", desc := "(LTaleCourt$Telling;)V" } : Jvm.MethodName)) ∈ tbG := mt_4 (List.mem_of_getElem? (i := 202) (by decide +kernel)) rfl
theorem mw_1036 : (Jvm.Cond.constant "TaleCourt$Game" (36 : Nat) (36880 : Int32)) ∈ tbG := mt_4 (List.mem_of_getElem? (i := 203) (by decide +kernel)) rfl
theorem mw_1037 : (Jvm.Cond.methodLink "TaleCourt" (233 : Nat) ({ cls := "TaleCourt$Game", name := "isWon", desc := "()Z" } : Jvm.MethodName)) ∈ tbG := mt_4 (List.mem_of_getElem? (i := 204) (by decide +kernel)) rfl
theorem mw_1038 : (Jvm.Cond.instanceMethod ({ cls := "TaleCourt$Game", name := "isWon", desc := "()Z" } : Jvm.MethodName)) ∈ tbG := mt_4 (List.mem_of_getElem? (i := 205) (by decide +kernel)) rfl
theorem mw_1039 : (Jvm.Cond.selects "TaleCourt$Game" ({ cls := "TaleCourt$Game", name := "isWon", desc := "()Z" } : Jvm.MethodName) ({ cls := "TaleCourt$Game", name := "isWon", desc := "()Z" } : Jvm.MethodName)) ∈ tbG := mt_4 (List.mem_of_getElem? (i := 206) (by decide +kernel)) rfl
theorem mw_1040 : (Jvm.Cond.code ({ cls := "TaleCourt$Game", name := "isWon", desc := "()Z" } : Jvm.MethodName) prog_4_method_3_code (1 : Nat) (Option.some Jvm.ClassFile.FieldType.boolean)) ∈ tbG := mt_4 (List.mem_of_getElem? (i := 207) (by decide +kernel)) rfl
theorem mw_1041 : (Jvm.Cond.methodLink "TaleCourt$Game" (41 : Nat) ({ cls := "TaleCourt$Game", name := "solve", desc := "(I)I" } : Jvm.MethodName)) ∈ tbG := mt_4 (List.mem_of_getElem? (i := 208) (by decide +kernel)) rfl
theorem mw_1043 : (Jvm.Cond.instanceMethod ({ cls := "TaleCourt$Game", name := "solve", desc := "(I)I" } : Jvm.MethodName)) ∈ tbG := mt_4 (List.mem_of_getElem? (i := 210) (by decide +kernel)) rfl
theorem mw_1044 : (Jvm.Cond.code ({ cls := "TaleCourt$Game", name := "solve", desc := "(I)I" } : Jvm.MethodName) prog_4_method_10_code (9 : Nat) (Option.some Jvm.ClassFile.FieldType.int)) ∈ tbG := mt_4 (List.mem_of_getElem? (i := 211) (by decide +kernel)) rfl
theorem mw_1045 : (Jvm.Cond.methodLink "TaleCourt$Game" (99 : Nat) ({ cls := "TaleCourt$Game", name := "position", desc := "()I" } : Jvm.MethodName)) ∈ tbG := mt_4 (List.mem_of_getElem? (i := 212) (by decide +kernel)) rfl
theorem mw_1047 : (Jvm.Cond.instanceMethod ({ cls := "TaleCourt$Game", name := "position", desc := "()I" } : Jvm.MethodName)) ∈ tbG := mt_4 (List.mem_of_getElem? (i := 214) (by decide +kernel)) rfl
theorem mw_1048 : (Jvm.Cond.code ({ cls := "TaleCourt$Game", name := "position", desc := "()I" } : Jvm.MethodName) prog_4_method_9_code (5 : Nat) (Option.some Jvm.ClassFile.FieldType.int)) ∈ tbG := mt_4 (List.mem_of_getElem? (i := 215) (by decide +kernel)) rfl
theorem mw_1049 : (Jvm.Cond.methodLink "TaleCourt$Game" (96 : Nat) ({ cls := "TaleCourt$Telling", name := "silencesLeft", desc := "(I)I" } : Jvm.MethodName)) ∈ tbG := mt_4 (List.mem_of_getElem? (i := 216) (by decide +kernel)) rfl
theorem mw_1050 : (Jvm.Cond.methodLink "TaleCourt$Game" (45 : Nat) ({ cls := "TaleCourt$Game", name := "movesNow", desc := "()I" } : Jvm.MethodName)) ∈ tbG := mt_4 (List.mem_of_getElem? (i := 217) (by decide +kernel)) rfl
theorem mw_1052 : (Jvm.Cond.instanceMethod ({ cls := "TaleCourt$Game", name := "movesNow", desc := "()I" } : Jvm.MethodName)) ∈ tbG := mt_4 (List.mem_of_getElem? (i := 219) (by decide +kernel)) rfl
theorem mw_1053 : (Jvm.Cond.code ({ cls := "TaleCourt$Game", name := "movesNow", desc := "()I" } : Jvm.MethodName) prog_4_method_7_code (1 : Nat) (Option.some Jvm.ClassFile.FieldType.int)) ∈ tbG := mt_4 (List.mem_of_getElem? (i := 220) (by decide +kernel)) rfl
theorem mw_1054 : (Jvm.Cond.methodLink "TaleCourt$Game" (73 : Nat) ({ cls := "TaleCourt$Telling", name := "playable", desc := "()I" } : Jvm.MethodName)) ∈ tbG := mt_4 (List.mem_of_getElem? (i := 221) (by decide +kernel)) rfl
theorem mw_1055 : (Jvm.Cond.methodLink "TaleCourt$Game" (76 : Nat) ({ cls := "TaleCourt$Telling", name := "hasSilence", desc := "()Z" } : Jvm.MethodName)) ∈ tbG := mt_4 (List.mem_of_getElem? (i := 222) (by decide +kernel)) rfl
theorem mw_1056 : (Jvm.Cond.methodLink "TaleCourt$Game" (49 : Nat) ({ cls := "TaleCourt$Game", name := "play", desc := "(I)V" } : Jvm.MethodName)) ∈ tbG := mt_4 (List.mem_of_getElem? (i := 223) (by decide +kernel)) rfl
theorem mw_1058 : (Jvm.Cond.instanceMethod ({ cls := "TaleCourt$Game", name := "play", desc := "(I)V" } : Jvm.MethodName)) ∈ tbG := mt_4 (List.mem_of_getElem? (i := 225) (by decide +kernel)) rfl
theorem mw_1059 : (Jvm.Cond.code ({ cls := "TaleCourt$Game", name := "play", desc := "(I)V" } : Jvm.MethodName) prog_4_method_8_code (2 : Nat) (Option.none : Option Jvm.ClassFile.FieldType)) ∈ tbG := mt_4 (List.mem_of_getElem? (i := 226) (by decide +kernel)) rfl
theorem mw_1060 : (Jvm.Cond.methodLink "TaleCourt$Game" (79 : Nat) ({ cls := "TaleCourt$Telling", name := "pass", desc := "()V" } : Jvm.MethodName)) ∈ tbG := mt_4 (List.mem_of_getElem? (i := 227) (by decide +kernel)) rfl
theorem mw_1061 : (Jvm.Cond.methodLink "TaleCourt$Game" (82 : Nat) ({ cls := "TaleCourt$Telling", name := "tell", desc := "(I)V" } : Jvm.MethodName)) ∈ tbG := mt_4 (List.mem_of_getElem? (i := 228) (by decide +kernel)) rfl
theorem mw_1062 : (Jvm.Cond.methodLink "TaleCourt$Game" (57 : Nat) ({ cls := "TaleCourt$Telling", name := "takeBack", desc := "()V" } : Jvm.MethodName)) ∈ tbG := mt_4 (List.mem_of_getElem? (i := 229) (by decide +kernel)) rfl
theorem mw_1063 : (Jvm.Cond.methodLink "TaleCourt$Game" (102 : Nat) ({ cls := "java/lang/Math", name := "max", desc := "(II)I" } : Jvm.MethodName)) ∈ tbG := mt_4 (List.mem_of_getElem? (i := 230) (by decide +kernel)) rfl
theorem mw_1064 : (Jvm.Cond.methodLink "TaleCourtLaw" (169 : Nat) ({ cls := "TaleCourt", name := "move", desc := "()I" } : Jvm.MethodName)) ∈ tbG := mt_4 (List.mem_of_getElem? (i := 231) (by decide +kernel)) rfl
theorem mw_1065 : (Jvm.Cond.instanceMethod ({ cls := "TaleCourt", name := "move", desc := "()I" } : Jvm.MethodName)) ∈ tbG := mt_4 (List.mem_of_getElem? (i := 232) (by decide +kernel)) rfl
theorem mw_1066 : (Jvm.Cond.selects "TaleCourt" ({ cls := "TaleCourt", name := "move", desc := "()I" } : Jvm.MethodName) ({ cls := "TaleCourt", name := "move", desc := "()I" } : Jvm.MethodName)) ∈ tbG := mt_4 (List.mem_of_getElem? (i := 233) (by decide +kernel)) rfl
theorem mw_1067 : (Jvm.Cond.code ({ cls := "TaleCourt", name := "move", desc := "()I" } : Jvm.MethodName) prog_1_method_46_code (4 : Nat) (Option.some Jvm.ClassFile.FieldType.int)) ∈ tbG := mt_4 (List.mem_of_getElem? (i := 234) (by decide +kernel)) rfl
theorem mw_1068 : (Jvm.Cond.methodLink "TaleCourt" (236 : Nat) ({ cls := "TaleCourt$Game", name := "winningMoves", desc := "()I" } : Jvm.MethodName)) ∈ tbG := mt_4 (List.mem_of_getElem? (i := 235) (by decide +kernel)) rfl
theorem mw_1069 : (Jvm.Cond.instanceMethod ({ cls := "TaleCourt$Game", name := "winningMoves", desc := "()I" } : Jvm.MethodName)) ∈ tbG := mt_4 (List.mem_of_getElem? (i := 236) (by decide +kernel)) rfl
theorem mw_1070 : (Jvm.Cond.selects "TaleCourt$Game" ({ cls := "TaleCourt$Game", name := "winningMoves", desc := "()I" } : Jvm.MethodName) ({ cls := "TaleCourt$Game", name := "winningMoves", desc := "()I" } : Jvm.MethodName)) ∈ tbG := mt_4 (List.mem_of_getElem? (i := 237) (by decide +kernel)) rfl
theorem mw_1071 : (Jvm.Cond.code ({ cls := "TaleCourt$Game", name := "winningMoves", desc := "()I" } : Jvm.MethodName) prog_4_method_5_code (4 : Nat) (Option.some Jvm.ClassFile.FieldType.int)) ∈ tbG := mt_4 (List.mem_of_getElem? (i := 238) (by decide +kernel)) rfl
theorem mw_1072 : (Jvm.Cond.methodLink "TaleCourt$Game" (53 : Nat) ({ cls := "TaleCourt$Game", name := "isWon", desc := "()Z" } : Jvm.MethodName)) ∈ tbG := mt_4 (List.mem_of_getElem? (i := 239) (by decide +kernel)) rfl
theorem mw_1073 : (Jvm.Cond.methodLink "TaleCourtLaw" (173 : Nat) ({ cls := "TaleCourt", name := "lasts", desc := "()I" } : Jvm.MethodName)) ∈ tbG := mt_5 (List.mem_of_getElem? (i := 0) (by decide +kernel)) rfl
theorem mw_1074 : (Jvm.Cond.instanceMethod ({ cls := "TaleCourt", name := "lasts", desc := "()I" } : Jvm.MethodName)) ∈ tbG := mt_5 (List.mem_of_getElem? (i := 1) (by decide +kernel)) rfl
theorem mw_1075 : (Jvm.Cond.selects "TaleCourt" ({ cls := "TaleCourt", name := "lasts", desc := "()I" } : Jvm.MethodName) ({ cls := "TaleCourt", name := "lasts", desc := "()I" } : Jvm.MethodName)) ∈ tbG := mt_5 (List.mem_of_getElem? (i := 2) (by decide +kernel)) rfl
theorem mw_1076 : (Jvm.Cond.code ({ cls := "TaleCourt", name := "lasts", desc := "()I" } : Jvm.MethodName) prog_1_method_47_code (2 : Nat) (Option.some Jvm.ClassFile.FieldType.int)) ∈ tbG := mt_5 (List.mem_of_getElem? (i := 3) (by decide +kernel)) rfl
theorem mw_1077 : (Jvm.Cond.methodLink "TaleCourt" (239 : Nat) ({ cls := "TaleCourt$Game", name := "turnsToEnd", desc := "()I" } : Jvm.MethodName)) ∈ tbG := mt_5 (List.mem_of_getElem? (i := 4) (by decide +kernel)) rfl
theorem mw_1078 : (Jvm.Cond.instanceMethod ({ cls := "TaleCourt$Game", name := "turnsToEnd", desc := "()I" } : Jvm.MethodName)) ∈ tbG := mt_5 (List.mem_of_getElem? (i := 5) (by decide +kernel)) rfl
theorem mw_1079 : (Jvm.Cond.selects "TaleCourt$Game" ({ cls := "TaleCourt$Game", name := "turnsToEnd", desc := "()I" } : Jvm.MethodName) ({ cls := "TaleCourt$Game", name := "turnsToEnd", desc := "()I" } : Jvm.MethodName)) ∈ tbG := mt_5 (List.mem_of_getElem? (i := 6) (by decide +kernel)) rfl
theorem mw_1080 : (Jvm.Cond.code ({ cls := "TaleCourt$Game", name := "turnsToEnd", desc := "()I" } : Jvm.MethodName) prog_4_method_4_code (1 : Nat) (Option.some Jvm.ClassFile.FieldType.int)) ∈ tbG := mt_5 (List.mem_of_getElem? (i := 7) (by decide +kernel)) rfl
theorem mw_1081 : (Jvm.Cond.methodLink "TaleCourtLaw" (177 : Nat) ({ cls := "TaleCourt", name := "good", desc := "()I" } : Jvm.MethodName)) ∈ tbG := mt_5 (List.mem_of_getElem? (i := 8) (by decide +kernel)) rfl
theorem mw_1082 : (Jvm.Cond.instanceMethod ({ cls := "TaleCourt", name := "good", desc := "()I" } : Jvm.MethodName)) ∈ tbG := mt_5 (List.mem_of_getElem? (i := 9) (by decide +kernel)) rfl
theorem mw_1083 : (Jvm.Cond.selects "TaleCourt" ({ cls := "TaleCourt", name := "good", desc := "()I" } : Jvm.MethodName) ({ cls := "TaleCourt", name := "good", desc := "()I" } : Jvm.MethodName)) ∈ tbG := mt_5 (List.mem_of_getElem? (i := 10) (by decide +kernel)) rfl
theorem mw_1084 : (Jvm.Cond.code ({ cls := "TaleCourt", name := "good", desc := "()I" } : Jvm.MethodName) prog_1_method_48_code (2 : Nat) (Option.some Jvm.ClassFile.FieldType.int)) ∈ tbG := mt_5 (List.mem_of_getElem? (i := 11) (by decide +kernel)) rfl
theorem mw_1085 : (Jvm.Cond.methodLink "TaleCourtLaw" (181 : Nat) ({ cls := "TaleCourt", name := "kept", desc := "(II)I" } : Jvm.MethodName)) ∈ tbG := mt_5 (List.mem_of_getElem? (i := 12) (by decide +kernel)) rfl
theorem mw_1086 : (Jvm.Cond.instanceMethod ({ cls := "TaleCourt", name := "kept", desc := "(II)I" } : Jvm.MethodName)) ∈ tbG := mt_5 (List.mem_of_getElem? (i := 13) (by decide +kernel)) rfl
theorem mw_1087 : (Jvm.Cond.selects "TaleCourt" ({ cls := "TaleCourt", name := "kept", desc := "(II)I" } : Jvm.MethodName) ({ cls := "TaleCourt", name := "kept", desc := "(II)I" } : Jvm.MethodName)) ∈ tbG := mt_5 (List.mem_of_getElem? (i := 14) (by decide +kernel)) rfl
theorem mw_1088 : (Jvm.Cond.code ({ cls := "TaleCourt", name := "kept", desc := "(II)I" } : Jvm.MethodName) prog_1_method_49_code (6 : Nat) (Option.some Jvm.ClassFile.FieldType.int)) ∈ tbG := mt_5 (List.mem_of_getElem? (i := 15) (by decide +kernel)) rfl
theorem mw_1089 : (Jvm.Cond.methodLink "TaleCourt" (242 : Nat) ({ cls := "TaleCourt$Court", name := "mayKeep", desc := "(I)Z" } : Jvm.MethodName)) ∈ tbG := mt_5 (List.mem_of_getElem? (i := 16) (by decide +kernel)) rfl
theorem mw_1090 : (Jvm.Cond.instanceMethod ({ cls := "TaleCourt$Court", name := "mayKeep", desc := "(I)Z" } : Jvm.MethodName)) ∈ tbG := mt_5 (List.mem_of_getElem? (i := 17) (by decide +kernel)) rfl
theorem mw_1091 : (Jvm.Cond.selects "TaleCourt$Court" ({ cls := "TaleCourt$Court", name := "mayKeep", desc := "(I)Z" } : Jvm.MethodName) ({ cls := "TaleCourt$Court", name := "mayKeep", desc := "(I)Z" } : Jvm.MethodName)) ∈ tbG := mt_5 (List.mem_of_getElem? (i := 18) (by decide +kernel)) rfl
theorem mw_1092 : (Jvm.Cond.code ({ cls := "TaleCourt$Court", name := "mayKeep", desc := "(I)Z" } : Jvm.MethodName) prog_3_method_8_code (2 : Nat) (Option.some Jvm.ClassFile.FieldType.boolean)) ∈ tbG := mt_5 (List.mem_of_getElem? (i := 19) (by decide +kernel)) rfl
theorem mw_1093 : (Jvm.Cond.methodLink "TaleCourt$Court" (87 : Nat) ({ cls := "TaleCourt$Court", name := "hasTeller", desc := "(I)Z" } : Jvm.MethodName)) ∈ tbG := mt_5 (List.mem_of_getElem? (i := 20) (by decide +kernel)) rfl
theorem mw_1094 : (Jvm.Cond.methodLink "TaleCourt" (245 : Nat) ({ cls := "TaleCourt$Court", name := "setKeeper", desc := "(II)V" } : Jvm.MethodName)) ∈ tbG := mt_5 (List.mem_of_getElem? (i := 21) (by decide +kernel)) rfl
theorem mw_1095 : (Jvm.Cond.methodLink "TaleCourtLaw" (185 : Nat) ({ cls := "TaleCourt", name := "trade", desc := "()I" } : Jvm.MethodName)) ∈ tbG := mt_5 (List.mem_of_getElem? (i := 22) (by decide +kernel)) rfl
theorem mw_1096 : (Jvm.Cond.instanceMethod ({ cls := "TaleCourt", name := "trade", desc := "()I" } : Jvm.MethodName)) ∈ tbG := mt_5 (List.mem_of_getElem? (i := 23) (by decide +kernel)) rfl
theorem mw_1097 : (Jvm.Cond.selects "TaleCourt" ({ cls := "TaleCourt", name := "trade", desc := "()I" } : Jvm.MethodName) ({ cls := "TaleCourt", name := "trade", desc := "()I" } : Jvm.MethodName)) ∈ tbG := mt_5 (List.mem_of_getElem? (i := 24) (by decide +kernel)) rfl
theorem mw_1098 : (Jvm.Cond.code ({ cls := "TaleCourt", name := "trade", desc := "()I" } : Jvm.MethodName) prog_1_method_50_code (4 : Nat) (Option.some Jvm.ClassFile.FieldType.int)) ∈ tbG := mt_5 (List.mem_of_getElem? (i := 25) (by decide +kernel)) rfl
theorem mw_1099 : (Jvm.Cond.methodLink "TaleCourt" (249 : Nat) ({ cls := "TaleCourt", name := "tradeWins", desc := "(II)Z" } : Jvm.MethodName)) ∈ tbG := mt_5 (List.mem_of_getElem? (i := 26) (by decide +kernel)) rfl
theorem mw_1101 : (Jvm.Cond.instanceMethod ({ cls := "TaleCourt", name := "tradeWins", desc := "(II)Z" } : Jvm.MethodName)) ∈ tbG := mt_5 (List.mem_of_getElem? (i := 28) (by decide +kernel)) rfl
theorem mw_1102 : (Jvm.Cond.code ({ cls := "TaleCourt", name := "tradeWins", desc := "(II)Z" } : Jvm.MethodName) prog_1_method_51_code (6 : Nat) (Option.some Jvm.ClassFile.FieldType.boolean)) ∈ tbG := mt_5 (List.mem_of_getElem? (i := 29) (by decide +kernel)) rfl
theorem mw_1103 : (Jvm.Cond.methodLink "TaleCourt" (253 : Nat) ({ cls := "TaleCourt$Court", name := "keeperOf", desc := "(I)I" } : Jvm.MethodName)) ∈ tbG := mt_5 (List.mem_of_getElem? (i := 30) (by decide +kernel)) rfl
theorem mw_1104 : (Jvm.Cond.instanceMethod ({ cls := "TaleCourt$Court", name := "keeperOf", desc := "(I)I" } : Jvm.MethodName)) ∈ tbG := mt_5 (List.mem_of_getElem? (i := 31) (by decide +kernel)) rfl
theorem mw_1105 : (Jvm.Cond.selects "TaleCourt$Court" ({ cls := "TaleCourt$Court", name := "keeperOf", desc := "(I)I" } : Jvm.MethodName) ({ cls := "TaleCourt$Court", name := "keeperOf", desc := "(I)I" } : Jvm.MethodName)) ∈ tbG := mt_5 (List.mem_of_getElem? (i := 32) (by decide +kernel)) rfl
theorem mw_1106 : (Jvm.Cond.code ({ cls := "TaleCourt$Court", name := "keeperOf", desc := "(I)I" } : Jvm.MethodName) prog_3_method_10_code (2 : Nat) (Option.some Jvm.ClassFile.FieldType.int)) ∈ tbG := mt_5 (List.mem_of_getElem? (i := 33) (by decide +kernel)) rfl
theorem mw_1107 : (Jvm.Cond.methodLink "TaleCourt$Court" (91 : Nat) ({ cls := "TaleCourt$Court", name := "hasMotif", desc := "(I)Z" } : Jvm.MethodName)) ∈ tbG := mt_5 (List.mem_of_getElem? (i := 34) (by decide +kernel)) rfl
theorem mw_1108 : (Jvm.Cond.methodLink "TaleCourtLaw" (201 : Nat) ({ cls := "TaleCourt", name := "blunder", desc := "()I" } : Jvm.MethodName)) ∈ tbG := mt_5 (List.mem_of_getElem? (i := 35) (by decide +kernel)) rfl
theorem mw_1109 : (Jvm.Cond.instanceMethod ({ cls := "TaleCourt", name := "blunder", desc := "()I" } : Jvm.MethodName)) ∈ tbG := mt_5 (List.mem_of_getElem? (i := 36) (by decide +kernel)) rfl
theorem mw_1110 : (Jvm.Cond.selects "TaleCourt" ({ cls := "TaleCourt", name := "blunder", desc := "()I" } : Jvm.MethodName) ({ cls := "TaleCourt", name := "blunder", desc := "()I" } : Jvm.MethodName)) ∈ tbG := mt_5 (List.mem_of_getElem? (i := 37) (by decide +kernel)) rfl
theorem mw_1111 : (Jvm.Cond.code ({ cls := "TaleCourt", name := "blunder", desc := "()I" } : Jvm.MethodName) prog_1_method_52_code (2 : Nat) (Option.some Jvm.ClassFile.FieldType.int)) ∈ tbG := mt_5 (List.mem_of_getElem? (i := 38) (by decide +kernel)) rfl
theorem mw_1112 : (Jvm.Cond.methodLink "TaleCourt" (256 : Nat) ({ cls := "TaleCourt$Game", name := "firstBlunder", desc := "(LTaleCourt$Telling;)I" } : Jvm.MethodName)) ∈ tbG := mt_5 (List.mem_of_getElem? (i := 39) (by decide +kernel)) rfl
theorem mw_1113 : (Jvm.Cond.instanceMethod ({ cls := "TaleCourt$Game", name := "firstBlunder", desc := "(LTaleCourt$Telling;)I" } : Jvm.MethodName)) ∈ tbG := mt_5 (List.mem_of_getElem? (i := 40) (by decide +kernel)) rfl
theorem mw_1114 : (Jvm.Cond.selects "TaleCourt$Game" ({ cls := "TaleCourt$Game", name := "firstBlunder", desc := "(LTaleCourt$Telling;)I" } : Jvm.MethodName) ({ cls := "TaleCourt$Game", name := "firstBlunder", desc := "(LTaleCourt$Telling;)I" } : Jvm.MethodName)) ∈ tbG := mt_5 (List.mem_of_getElem? (i := 41) (by decide +kernel)) rfl
theorem mw_1115 : (Jvm.Cond.code ({ cls := "TaleCourt$Game", name := "firstBlunder", desc := "(LTaleCourt$Telling;)I" } : Jvm.MethodName) prog_4_method_6_code (5 : Nat) (Option.some Jvm.ClassFile.FieldType.int)) ∈ tbG := mt_5 (List.mem_of_getElem? (i := 42) (by decide +kernel)) rfl
theorem mw_1116 : (Jvm.Cond.methodLink "TaleCourt$Game" (60 : Nat) ({ cls := "TaleCourt$Game", name := "begin", desc := "(LTaleCourt$Telling;Z)V" } : Jvm.MethodName)) ∈ tbG := mt_5 (List.mem_of_getElem? (i := 43) (by decide +kernel)) rfl
theorem mw_1117 : (Jvm.Cond.methodLink "TaleCourt$Game" (64 : Nat) ({ cls := "TaleCourt$Telling", name := "clear", desc := "()V" } : Jvm.MethodName)) ∈ tbG := mt_5 (List.mem_of_getElem? (i := 44) (by decide +kernel)) rfl
theorem mw_1118 : (Jvm.Cond.methodLink "TaleCourtLaw" (189 : Nat) ({ cls := "TaleCourt", name := "keeps", desc := "(II)I" } : Jvm.MethodName)) ∈ tbG := mt_5 (List.mem_of_getElem? (i := 45) (by decide +kernel)) rfl
theorem mw_1119 : (Jvm.Cond.instanceMethod ({ cls := "TaleCourt", name := "keeps", desc := "(II)I" } : Jvm.MethodName)) ∈ tbG := mt_5 (List.mem_of_getElem? (i := 46) (by decide +kernel)) rfl
theorem mw_1120 : (Jvm.Cond.selects "TaleCourt" ({ cls := "TaleCourt", name := "keeps", desc := "(II)I" } : Jvm.MethodName) ({ cls := "TaleCourt", name := "keeps", desc := "(II)I" } : Jvm.MethodName)) ∈ tbG := mt_5 (List.mem_of_getElem? (i := 47) (by decide +kernel)) rfl
theorem mw_1121 : (Jvm.Cond.code ({ cls := "TaleCourt", name := "keeps", desc := "(II)I" } : Jvm.MethodName) prog_1_method_53_code (4 : Nat) (Option.some Jvm.ClassFile.FieldType.int)) ∈ tbG := mt_5 (List.mem_of_getElem? (i := 48) (by decide +kernel)) rfl
theorem mw_1122 : (Jvm.Cond.methodLink "TaleCourtLaw" (193 : Nat) ({ cls := "TaleCourt", name := "forbid", desc := "(II)I" } : Jvm.MethodName)) ∈ tbG := mt_5 (List.mem_of_getElem? (i := 49) (by decide +kernel)) rfl
theorem mw_1123 : (Jvm.Cond.instanceMethod ({ cls := "TaleCourt", name := "forbid", desc := "(II)I" } : Jvm.MethodName)) ∈ tbG := mt_5 (List.mem_of_getElem? (i := 50) (by decide +kernel)) rfl
theorem mw_1124 : (Jvm.Cond.selects "TaleCourt" ({ cls := "TaleCourt", name := "forbid", desc := "(II)I" } : Jvm.MethodName) ({ cls := "TaleCourt", name := "forbid", desc := "(II)I" } : Jvm.MethodName)) ∈ tbG := mt_5 (List.mem_of_getElem? (i := 51) (by decide +kernel)) rfl
theorem mw_1125 : (Jvm.Cond.code ({ cls := "TaleCourt", name := "forbid", desc := "(II)I" } : Jvm.MethodName) prog_1_method_54_code (4 : Nat) (Option.some Jvm.ClassFile.FieldType.int)) ∈ tbG := mt_5 (List.mem_of_getElem? (i := 52) (by decide +kernel)) rfl
theorem mw_1126 : (Jvm.Cond.methodLink "TaleCourtLaw" (217 : Nat) ({ cls := "TaleCourt", name := "judge", desc := "(I)I" } : Jvm.MethodName)) ∈ tbG := mt_5 (List.mem_of_getElem? (i := 53) (by decide +kernel)) rfl
theorem mw_1127 : (Jvm.Cond.instanceMethod ({ cls := "TaleCourt", name := "judge", desc := "(I)I" } : Jvm.MethodName)) ∈ tbG := mt_5 (List.mem_of_getElem? (i := 54) (by decide +kernel)) rfl
theorem mw_1128 : (Jvm.Cond.selects "TaleCourt" ({ cls := "TaleCourt", name := "judge", desc := "(I)I" } : Jvm.MethodName) ({ cls := "TaleCourt", name := "judge", desc := "(I)I" } : Jvm.MethodName)) ∈ tbG := mt_5 (List.mem_of_getElem? (i := 55) (by decide +kernel)) rfl
theorem mw_1129 : (Jvm.Cond.code ({ cls := "TaleCourt", name := "judge", desc := "(I)I" } : Jvm.MethodName) prog_1_method_57_code (3 : Nat) (Option.some Jvm.ClassFile.FieldType.int)) ∈ tbG := mt_5 (List.mem_of_getElem? (i := 56) (by decide +kernel)) rfl
theorem mw_1130 : (Jvm.Cond.methodLink "TaleCourt" (264 : Nat) ({ cls := "TaleCourt", name := "slotBar", desc := "(I)I" } : Jvm.MethodName)) ∈ tbG := mt_5 (List.mem_of_getElem? (i := 57) (by decide +kernel)) rfl
theorem mw_1132 : (Jvm.Cond.instanceMethod ({ cls := "TaleCourt", name := "slotBar", desc := "(I)I" } : Jvm.MethodName)) ∈ tbG := mt_5 (List.mem_of_getElem? (i := 59) (by decide +kernel)) rfl
theorem mw_1133 : (Jvm.Cond.code ({ cls := "TaleCourt", name := "slotBar", desc := "(I)I" } : Jvm.MethodName) prog_1_method_56_code (2 : Nat) (Option.some Jvm.ClassFile.FieldType.int)) ∈ tbG := mt_5 (List.mem_of_getElem? (i := 60) (by decide +kernel)) rfl
theorem mw_1134 : (Jvm.Cond.methodLink "TaleCourt" (260 : Nat) ({ cls := "TaleCourt", name := "isSlot", desc := "(I)Z" } : Jvm.MethodName)) ∈ tbG := mt_5 (List.mem_of_getElem? (i := 61) (by decide +kernel)) rfl
theorem mw_1135 : (Jvm.Cond.static ({ cls := "TaleCourt", name := "isSlot", desc := "(I)Z" } : Jvm.MethodName)) ∈ tbG := mt_5 (List.mem_of_getElem? (i := 62) (by decide +kernel)) rfl
theorem mw_1136 : (Jvm.Cond.code ({ cls := "TaleCourt", name := "isSlot", desc := "(I)Z" } : Jvm.MethodName) prog_1_method_55_code (1 : Nat) (Option.some Jvm.ClassFile.FieldType.boolean)) ∈ tbG := mt_5 (List.mem_of_getElem? (i := 63) (by decide +kernel)) rfl
theorem mw_1137 : (Jvm.Cond.methodLink "TaleCourt" (267 : Nat) ({ cls := "TaleCourt", name := "retell", desc := "(LTaleCourt$Row;)I" } : Jvm.MethodName)) ∈ tbG := mt_5 (List.mem_of_getElem? (i := 64) (by decide +kernel)) rfl
theorem mw_1139 : (Jvm.Cond.instanceMethod ({ cls := "TaleCourt", name := "retell", desc := "(LTaleCourt$Row;)I" } : Jvm.MethodName)) ∈ tbG := mt_5 (List.mem_of_getElem? (i := 66) (by decide +kernel)) rfl
theorem mw_1140 : (Jvm.Cond.code ({ cls := "TaleCourt", name := "retell", desc := "(LTaleCourt$Row;)I" } : Jvm.MethodName) prog_1_method_59_code (4 : Nat) (Option.some Jvm.ClassFile.FieldType.int)) ∈ tbG := mt_5 (List.mem_of_getElem? (i := 67) (by decide +kernel)) rfl
theorem mw_1141 : (Jvm.Cond.methodLink "TaleCourt" (275 : Nat) ({ cls := "TaleCourt", name := "retellTurn", desc := "(J)I" } : Jvm.MethodName)) ∈ tbG := mt_5 (List.mem_of_getElem? (i := 68) (by decide +kernel)) rfl
theorem mw_1143 : (Jvm.Cond.instanceMethod ({ cls := "TaleCourt", name := "retellTurn", desc := "(J)I" } : Jvm.MethodName)) ∈ tbG := mt_5 (List.mem_of_getElem? (i := 70) (by decide +kernel)) rfl
theorem mw_1144 : (Jvm.Cond.code ({ cls := "TaleCourt", name := "retellTurn", desc := "(J)I" } : Jvm.MethodName) prog_1_method_60_code (5 : Nat) (Option.some Jvm.ClassFile.FieldType.int)) ∈ tbG := mt_5 (List.mem_of_getElem? (i := 71) (by decide +kernel)) rfl
theorem mw_1145 : (Jvm.Cond.constantLong "TaleCourt" (279 : Nat) (9 : Int64)) ∈ tbG := mt_5 (List.mem_of_getElem? (i := 72) (by decide +kernel)) rfl
theorem mw_1146 : (Jvm.Cond.methodLink "TaleCourt" (281 : Nat) ({ cls := "TaleCourt$Court", name := "hasNumber", desc := "(J)Z" } : Jvm.MethodName)) ∈ tbG := mt_5 (List.mem_of_getElem? (i := 73) (by decide +kernel)) rfl
theorem mw_1147 : (Jvm.Cond.instanceMethod ({ cls := "TaleCourt$Court", name := "hasNumber", desc := "(J)Z" } : Jvm.MethodName)) ∈ tbG := mt_5 (List.mem_of_getElem? (i := 74) (by decide +kernel)) rfl
theorem mw_1148 : (Jvm.Cond.selects "TaleCourt$Court" ({ cls := "TaleCourt$Court", name := "hasNumber", desc := "(J)Z" } : Jvm.MethodName) ({ cls := "TaleCourt$Court", name := "hasNumber", desc := "(J)Z" } : Jvm.MethodName)) ∈ tbG := mt_5 (List.mem_of_getElem? (i := 75) (by decide +kernel)) rfl
theorem mw_1149 : (Jvm.Cond.code ({ cls := "TaleCourt$Court", name := "hasNumber", desc := "(J)Z" } : Jvm.MethodName) prog_3_method_6_code (3 : Nat) (Option.some Jvm.ClassFile.FieldType.boolean)) ∈ tbG := mt_5 (List.mem_of_getElem? (i := 76) (by decide +kernel)) rfl
theorem mw_1150 : (Jvm.Cond.constantLong "TaleCourt$Court" (85 : Nat) (9 : Int64)) ∈ tbG := mt_5 (List.mem_of_getElem? (i := 77) (by decide +kernel)) rfl
theorem mw_1151 : (Jvm.Cond.methodLink "TaleCourtLaw" (221 : Nat) ({ cls := "TaleCourt", name := "verdict", desc := "(I)I" } : Jvm.MethodName)) ∈ tbG := mt_5 (List.mem_of_getElem? (i := 78) (by decide +kernel)) rfl
theorem mw_1152 : (Jvm.Cond.instanceMethod ({ cls := "TaleCourt", name := "verdict", desc := "(I)I" } : Jvm.MethodName)) ∈ tbG := mt_5 (List.mem_of_getElem? (i := 79) (by decide +kernel)) rfl
theorem mw_1153 : (Jvm.Cond.selects "TaleCourt" ({ cls := "TaleCourt", name := "verdict", desc := "(I)I" } : Jvm.MethodName) ({ cls := "TaleCourt", name := "verdict", desc := "(I)I" } : Jvm.MethodName)) ∈ tbG := mt_5 (List.mem_of_getElem? (i := 80) (by decide +kernel)) rfl
theorem mw_1154 : (Jvm.Cond.code ({ cls := "TaleCourt", name := "verdict", desc := "(I)I" } : Jvm.MethodName) prog_1_method_58_code (3 : Nat) (Option.some Jvm.ClassFile.FieldType.int)) ∈ tbG := mt_5 (List.mem_of_getElem? (i := 81) (by decide +kernel)) rfl
theorem mw_1155 : (Jvm.Cond.methodLink "TaleCourtLaw" (225 : Nat) ({ cls := "TaleCourt", name := "lies", desc := "(I)I" } : Jvm.MethodName)) ∈ tbG := mt_5 (List.mem_of_getElem? (i := 82) (by decide +kernel)) rfl
theorem mw_1156 : (Jvm.Cond.instanceMethod ({ cls := "TaleCourt", name := "lies", desc := "(I)I" } : Jvm.MethodName)) ∈ tbG := mt_5 (List.mem_of_getElem? (i := 83) (by decide +kernel)) rfl
theorem mw_1157 : (Jvm.Cond.selects "TaleCourt" ({ cls := "TaleCourt", name := "lies", desc := "(I)I" } : Jvm.MethodName) ({ cls := "TaleCourt", name := "lies", desc := "(I)I" } : Jvm.MethodName)) ∈ tbG := mt_5 (List.mem_of_getElem? (i := 84) (by decide +kernel)) rfl
theorem mw_1158 : (Jvm.Cond.code ({ cls := "TaleCourt", name := "lies", desc := "(I)I" } : Jvm.MethodName) prog_1_method_62_code (3 : Nat) (Option.some Jvm.ClassFile.FieldType.int)) ∈ tbG := mt_5 (List.mem_of_getElem? (i := 85) (by decide +kernel)) rfl
theorem mw_1159 : (Jvm.Cond.methodLink "TaleCourt" (289 : Nat) ({ cls := "TaleCourt", name := "claimsBar", desc := "(II)I" } : Jvm.MethodName)) ∈ tbG := mt_5 (List.mem_of_getElem? (i := 86) (by decide +kernel)) rfl
theorem mw_1161 : (Jvm.Cond.instanceMethod ({ cls := "TaleCourt", name := "claimsBar", desc := "(II)I" } : Jvm.MethodName)) ∈ tbG := mt_5 (List.mem_of_getElem? (i := 88) (by decide +kernel)) rfl
theorem mw_1162 : (Jvm.Cond.code ({ cls := "TaleCourt", name := "claimsBar", desc := "(II)I" } : Jvm.MethodName) prog_1_method_61_code (4 : Nat) (Option.some Jvm.ClassFile.FieldType.int)) ∈ tbG := mt_5 (List.mem_of_getElem? (i := 89) (by decide +kernel)) rfl
theorem mw_1163 : (Jvm.Cond.methodLink "TaleCourt" (285 : Nat) ({ cls := "TaleCourt$Claims", name := "take", desc := "(LTaleCourt$Row;ILTaleCourt$Court;)Z" } : Jvm.MethodName)) ∈ tbG := mt_5 (List.mem_of_getElem? (i := 90) (by decide +kernel)) rfl
theorem mw_1164 : (Jvm.Cond.instanceMethod ({ cls := "TaleCourt$Claims", name := "take", desc := "(LTaleCourt$Row;ILTaleCourt$Court;)Z" } : Jvm.MethodName)) ∈ tbG := mt_5 (List.mem_of_getElem? (i := 91) (by decide +kernel)) rfl
theorem mw_1165 : (Jvm.Cond.selects "TaleCourt$Claims" ({ cls := "TaleCourt$Claims", name := "take", desc := "(LTaleCourt$Row;ILTaleCourt$Court;)Z" } : Jvm.MethodName) ({ cls := "TaleCourt$Claims", name := "take", desc := "(LTaleCourt$Row;ILTaleCourt$Court;)Z" } : Jvm.MethodName)) ∈ tbG := mt_5 (List.mem_of_getElem? (i := 92) (by decide +kernel)) rfl
theorem mw_1166 : (Jvm.Cond.code ({ cls := "TaleCourt$Claims", name := "take", desc := "(LTaleCourt$Row;ILTaleCourt$Court;)Z" } : Jvm.MethodName) prog_2_method_2_code (12 : Nat) (Option.some Jvm.ClassFile.FieldType.boolean)) ∈ tbG := mt_5 (List.mem_of_getElem? (i := 93) (by decide +kernel)) rfl
theorem mw_1167 : (Jvm.Cond.methodLink "TaleCourt$Claims" (31 : Nat) ({ cls := "java/util/Arrays", name := "fill", desc := "([II)V" } : Jvm.MethodName)) ∈ tbG := mt_5 (List.mem_of_getElem? (i := 94) (by decide +kernel)) rfl
theorem mw_1168 : (Jvm.Cond.methodLink "TaleCourt$Claims" (42 : Nat) ({ cls := "TaleCourt$Row", name := "numberAt", desc := "(I)J" } : Jvm.MethodName)) ∈ tbG := mt_5 (List.mem_of_getElem? (i := 95) (by decide +kernel)) rfl
theorem mw_1169 : (Jvm.Cond.instanceMethod ({ cls := "TaleCourt$Row", name := "numberAt", desc := "(I)J" } : Jvm.MethodName)) ∈ tbG := mt_5 (List.mem_of_getElem? (i := 96) (by decide +kernel)) rfl
theorem mw_1170 : (Jvm.Cond.selects "TaleCourt$Row" ({ cls := "TaleCourt$Row", name := "numberAt", desc := "(I)J" } : Jvm.MethodName) ({ cls := "TaleCourt$Row", name := "numberAt", desc := "(I)J" } : Jvm.MethodName)) ∈ tbG := mt_5 (List.mem_of_getElem? (i := 97) (by decide +kernel)) rfl
theorem mw_1171 : (Jvm.Cond.code ({ cls := "TaleCourt$Row", name := "numberAt", desc := "(I)J" } : Jvm.MethodName) prog_7_method_4_code (2 : Nat) (Option.some Jvm.ClassFile.FieldType.long)) ∈ tbG := mt_5 (List.mem_of_getElem? (i := 98) (by decide +kernel)) rfl
theorem mw_1172 : (Jvm.Cond.constantLong "TaleCourt$Row" (28 : Nat) (-1 : Int64)) ∈ tbG := mt_5 (List.mem_of_getElem? (i := 99) (by decide +kernel)) rfl
theorem mw_1173 : (Jvm.Cond.methodLink "TaleCourt$Claims" (51 : Nat) ({ cls := "TaleCourt$Court", name := "hasNumber", desc := "(J)Z" } : Jvm.MethodName)) ∈ tbG := mt_5 (List.mem_of_getElem? (i := 100) (by decide +kernel)) rfl
theorem mw_1174 : (Jvm.Cond.methodLink "TaleCourt$Claims" (55 : Nat) ({ cls := "TaleCourt$Claims", name := "note", desc := "(III)V" } : Jvm.MethodName)) ∈ tbG := mt_5 (List.mem_of_getElem? (i := 101) (by decide +kernel)) rfl
theorem mw_1176 : (Jvm.Cond.instanceMethod ({ cls := "TaleCourt$Claims", name := "note", desc := "(III)V" } : Jvm.MethodName)) ∈ tbG := mt_5 (List.mem_of_getElem? (i := 103) (by decide +kernel)) rfl
theorem mw_1177 : (Jvm.Cond.code ({ cls := "TaleCourt$Claims", name := "note", desc := "(III)V" } : Jvm.MethodName) prog_2_method_3_code (4 : Nat) (Option.none : Option Jvm.ClassFile.FieldType)) ∈ tbG := mt_5 (List.mem_of_getElem? (i := 104) (by decide +kernel)) rfl
theorem mw_1178 : (Jvm.Cond.methodLink "TaleCourt" (292 : Nat) ({ cls := "TaleCourt$Claims", name := "order", desc := "(I)V" } : Jvm.MethodName)) ∈ tbG := mt_5 (List.mem_of_getElem? (i := 105) (by decide +kernel)) rfl
theorem mw_1179 : (Jvm.Cond.instanceMethod ({ cls := "TaleCourt$Claims", name := "order", desc := "(I)V" } : Jvm.MethodName)) ∈ tbG := mt_5 (List.mem_of_getElem? (i := 106) (by decide +kernel)) rfl
theorem mw_1180 : (Jvm.Cond.selects "TaleCourt$Claims" ({ cls := "TaleCourt$Claims", name := "order", desc := "(I)V" } : Jvm.MethodName) ({ cls := "TaleCourt$Claims", name := "order", desc := "(I)V" } : Jvm.MethodName)) ∈ tbG := mt_5 (List.mem_of_getElem? (i := 107) (by decide +kernel)) rfl
theorem mw_1181 : (Jvm.Cond.code ({ cls := "TaleCourt$Claims", name := "order", desc := "(I)V" } : Jvm.MethodName) prog_2_method_7_code (6 : Nat) (Option.none : Option Jvm.ClassFile.FieldType)) ∈ tbG := mt_5 (List.mem_of_getElem? (i := 108) (by decide +kernel)) rfl
theorem mw_1182 : (Jvm.Cond.methodLink "TaleCourt$Claims" (71 : Nat) ({ cls := "TaleCourt$Claims", name := "setsOf", desc := "(I)I" } : Jvm.MethodName)) ∈ tbG := mt_5 (List.mem_of_getElem? (i := 109) (by decide +kernel)) rfl
theorem mw_1183 : (Jvm.Cond.static ({ cls := "TaleCourt$Claims", name := "setsOf", desc := "(I)I" } : Jvm.MethodName)) ∈ tbG := mt_5 (List.mem_of_getElem? (i := 110) (by decide +kernel)) rfl
theorem mw_1184 : (Jvm.Cond.code ({ cls := "TaleCourt$Claims", name := "setsOf", desc := "(I)I" } : Jvm.MethodName) prog_2_method_10_code (1 : Nat) (Option.some Jvm.ClassFile.FieldType.int)) ∈ tbG := mt_5 (List.mem_of_getElem? (i := 111) (by decide +kernel)) rfl
theorem mw_1185 : (Jvm.Cond.methodLink "TaleCourt$Claims" (75 : Nat) ({ cls := "TaleCourt$Claims", name := "untrueBehind", desc := "(II)I" } : Jvm.MethodName)) ∈ tbG := mt_5 (List.mem_of_getElem? (i := 112) (by decide +kernel)) rfl
theorem mw_1187 : (Jvm.Cond.instanceMethod ({ cls := "TaleCourt$Claims", name := "untrueBehind", desc := "(II)I" } : Jvm.MethodName)) ∈ tbG := mt_5 (List.mem_of_getElem? (i := 114) (by decide +kernel)) rfl
theorem mw_1188 : (Jvm.Cond.code ({ cls := "TaleCourt$Claims", name := "untrueBehind", desc := "(II)I" } : Jvm.MethodName) prog_2_method_9_code (5 : Nat) (Option.some Jvm.ClassFile.FieldType.int)) ∈ tbG := mt_5 (List.mem_of_getElem? (i := 115) (by decide +kernel)) rfl
theorem mw_1189 : (Jvm.Cond.methodLink "TaleCourt$Claims" (79 : Nat) ({ cls := "TaleCourt$Claims", name := "reach", desc := "(III)V" } : Jvm.MethodName)) ∈ tbG := mt_5 (List.mem_of_getElem? (i := 116) (by decide +kernel)) rfl
theorem mw_1191 : (Jvm.Cond.instanceMethod ({ cls := "TaleCourt$Claims", name := "reach", desc := "(III)V" } : Jvm.MethodName)) ∈ tbG := mt_5 (List.mem_of_getElem? (i := 118) (by decide +kernel)) rfl
theorem mw_1192 : (Jvm.Cond.code ({ cls := "TaleCourt$Claims", name := "reach", desc := "(III)V" } : Jvm.MethodName) prog_2_method_8_code (4 : Nat) (Option.none : Option Jvm.ClassFile.FieldType)) ∈ tbG := mt_5 (List.mem_of_getElem? (i := 119) (by decide +kernel)) rfl
theorem mw_1193 : (Jvm.Cond.methodLink "TaleCourt" (295 : Nat) ({ cls := "TaleCourt$Claims", name := "fewestUntrue", desc := "(I)I" } : Jvm.MethodName)) ∈ tbG := mt_5 (List.mem_of_getElem? (i := 120) (by decide +kernel)) rfl
theorem mw_1194 : (Jvm.Cond.instanceMethod ({ cls := "TaleCourt$Claims", name := "fewestUntrue", desc := "(I)I" } : Jvm.MethodName)) ∈ tbG := mt_5 (List.mem_of_getElem? (i := 121) (by decide +kernel)) rfl
theorem mw_1195 : (Jvm.Cond.selects "TaleCourt$Claims" ({ cls := "TaleCourt$Claims", name := "fewestUntrue", desc := "(I)I" } : Jvm.MethodName) ({ cls := "TaleCourt$Claims", name := "fewestUntrue", desc := "(I)I" } : Jvm.MethodName)) ∈ tbG := mt_5 (List.mem_of_getElem? (i := 122) (by decide +kernel)) rfl
theorem mw_1196 : (Jvm.Cond.code ({ cls := "TaleCourt$Claims", name := "fewestUntrue", desc := "(I)I" } : Jvm.MethodName) prog_2_method_11_code (2 : Nat) (Option.some Jvm.ClassFile.FieldType.int)) ∈ tbG := mt_5 (List.mem_of_getElem? (i := 123) (by decide +kernel)) rfl
theorem mw_1197 : (Jvm.Cond.methodLink "TaleCourtLaw" (229 : Nat) ({ cls := "TaleCourt", name := "orders", desc := "(I)I" } : Jvm.MethodName)) ∈ tbG := mt_5 (List.mem_of_getElem? (i := 124) (by decide +kernel)) rfl
theorem mw_1198 : (Jvm.Cond.instanceMethod ({ cls := "TaleCourt", name := "orders", desc := "(I)I" } : Jvm.MethodName)) ∈ tbG := mt_5 (List.mem_of_getElem? (i := 125) (by decide +kernel)) rfl
theorem mw_1199 : (Jvm.Cond.selects "TaleCourt" ({ cls := "TaleCourt", name := "orders", desc := "(I)I" } : Jvm.MethodName) ({ cls := "TaleCourt", name := "orders", desc := "(I)I" } : Jvm.MethodName)) ∈ tbG := mt_5 (List.mem_of_getElem? (i := 126) (by decide +kernel)) rfl
theorem mw_1200 : (Jvm.Cond.code ({ cls := "TaleCourt", name := "orders", desc := "(I)I" } : Jvm.MethodName) prog_1_method_63_code (3 : Nat) (Option.some Jvm.ClassFile.FieldType.int)) ∈ tbG := mt_5 (List.mem_of_getElem? (i := 127) (by decide +kernel)) rfl
theorem mw_1201 : (Jvm.Cond.methodLink "TaleCourt" (298 : Nat) ({ cls := "TaleCourt$Claims", name := "ordersSoFew", desc := "(I)I" } : Jvm.MethodName)) ∈ tbG := mt_5 (List.mem_of_getElem? (i := 128) (by decide +kernel)) rfl
theorem mw_1202 : (Jvm.Cond.instanceMethod ({ cls := "TaleCourt$Claims", name := "ordersSoFew", desc := "(I)I" } : Jvm.MethodName)) ∈ tbG := mt_5 (List.mem_of_getElem? (i := 129) (by decide +kernel)) rfl
theorem mw_1203 : (Jvm.Cond.selects "TaleCourt$Claims" ({ cls := "TaleCourt$Claims", name := "ordersSoFew", desc := "(I)I" } : Jvm.MethodName) ({ cls := "TaleCourt$Claims", name := "ordersSoFew", desc := "(I)I" } : Jvm.MethodName)) ∈ tbG := mt_5 (List.mem_of_getElem? (i := 130) (by decide +kernel)) rfl
theorem mw_1204 : (Jvm.Cond.code ({ cls := "TaleCourt$Claims", name := "ordersSoFew", desc := "(I)I" } : Jvm.MethodName) prog_2_method_12_code (2 : Nat) (Option.some Jvm.ClassFile.FieldType.int)) ∈ tbG := mt_5 (List.mem_of_getElem? (i := 131) (by decide +kernel)) rfl
theorem mw_1205 : (Jvm.Cond.methodLink "TaleCourtLaw" (233 : Nat) ({ cls := "TaleCourt", name := "fits", desc := "(I)I" } : Jvm.MethodName)) ∈ tbG := mt_5 (List.mem_of_getElem? (i := 132) (by decide +kernel)) rfl
theorem mw_1206 : (Jvm.Cond.instanceMethod ({ cls := "TaleCourt", name := "fits", desc := "(I)I" } : Jvm.MethodName)) ∈ tbG := mt_5 (List.mem_of_getElem? (i := 133) (by decide +kernel)) rfl
theorem mw_1207 : (Jvm.Cond.selects "TaleCourt" ({ cls := "TaleCourt", name := "fits", desc := "(I)I" } : Jvm.MethodName) ({ cls := "TaleCourt", name := "fits", desc := "(I)I" } : Jvm.MethodName)) ∈ tbG := mt_5 (List.mem_of_getElem? (i := 134) (by decide +kernel)) rfl
theorem mw_1208 : (Jvm.Cond.code ({ cls := "TaleCourt", name := "fits", desc := "(I)I" } : Jvm.MethodName) prog_1_method_64_code (3 : Nat) (Option.some Jvm.ClassFile.FieldType.int)) ∈ tbG := mt_5 (List.mem_of_getElem? (i := 135) (by decide +kernel)) rfl
theorem mw_1209 : (Jvm.Cond.methodLink "TaleCourt" (301 : Nat) ({ cls := "TaleCourt$Claims", name := "allowTale", desc := "(LTaleCourt$Telling;)Z" } : Jvm.MethodName)) ∈ tbG := mt_5 (List.mem_of_getElem? (i := 136) (by decide +kernel)) rfl
theorem mw_1210 : (Jvm.Cond.instanceMethod ({ cls := "TaleCourt$Claims", name := "allowTale", desc := "(LTaleCourt$Telling;)Z" } : Jvm.MethodName)) ∈ tbG := mt_5 (List.mem_of_getElem? (i := 137) (by decide +kernel)) rfl
theorem mw_1211 : (Jvm.Cond.selects "TaleCourt$Claims" ({ cls := "TaleCourt$Claims", name := "allowTale", desc := "(LTaleCourt$Telling;)Z" } : Jvm.MethodName) ({ cls := "TaleCourt$Claims", name := "allowTale", desc := "(LTaleCourt$Telling;)Z" } : Jvm.MethodName)) ∈ tbG := mt_5 (List.mem_of_getElem? (i := 138) (by decide +kernel)) rfl
theorem mw_1212 : (Jvm.Cond.code ({ cls := "TaleCourt$Claims", name := "allowTale", desc := "(LTaleCourt$Telling;)Z" } : Jvm.MethodName) prog_2_method_6_code (5 : Nat) (Option.some Jvm.ClassFile.FieldType.boolean)) ∈ tbG := mt_5 (List.mem_of_getElem? (i := 139) (by decide +kernel)) rfl
theorem mw_1213 : (Jvm.Cond.methodLink "TaleCourtLaw" (237 : Nat) ({ cls := "TaleCourt", name := "liars", desc := "(I)I" } : Jvm.MethodName)) ∈ tbG := mt_5 (List.mem_of_getElem? (i := 140) (by decide +kernel)) rfl
theorem mw_1214 : (Jvm.Cond.instanceMethod ({ cls := "TaleCourt", name := "liars", desc := "(I)I" } : Jvm.MethodName)) ∈ tbG := mt_5 (List.mem_of_getElem? (i := 141) (by decide +kernel)) rfl
theorem mw_1215 : (Jvm.Cond.selects "TaleCourt" ({ cls := "TaleCourt", name := "liars", desc := "(I)I" } : Jvm.MethodName) ({ cls := "TaleCourt", name := "liars", desc := "(I)I" } : Jvm.MethodName)) ∈ tbG := mt_5 (List.mem_of_getElem? (i := 142) (by decide +kernel)) rfl
theorem mw_1216 : (Jvm.Cond.code ({ cls := "TaleCourt", name := "liars", desc := "(I)I" } : Jvm.MethodName) prog_1_method_65_code (3 : Nat) (Option.some Jvm.ClassFile.FieldType.int)) ∈ tbG := mt_5 (List.mem_of_getElem? (i := 143) (by decide +kernel)) rfl
theorem mw_1217 : (Jvm.Cond.methodLink "TaleCourt" (308 : Nat) ({ cls := "TaleCourt$Claims", name := "fewestLiars", desc := "(I)I" } : Jvm.MethodName)) ∈ tbG := mt_5 (List.mem_of_getElem? (i := 144) (by decide +kernel)) rfl
theorem mw_1218 : (Jvm.Cond.instanceMethod ({ cls := "TaleCourt$Claims", name := "fewestLiars", desc := "(I)I" } : Jvm.MethodName)) ∈ tbG := mt_5 (List.mem_of_getElem? (i := 145) (by decide +kernel)) rfl
theorem mw_1219 : (Jvm.Cond.selects "TaleCourt$Claims" ({ cls := "TaleCourt$Claims", name := "fewestLiars", desc := "(I)I" } : Jvm.MethodName) ({ cls := "TaleCourt$Claims", name := "fewestLiars", desc := "(I)I" } : Jvm.MethodName)) ∈ tbG := mt_5 (List.mem_of_getElem? (i := 146) (by decide +kernel)) rfl
theorem mw_1220 : (Jvm.Cond.code ({ cls := "TaleCourt$Claims", name := "fewestLiars", desc := "(I)I" } : Jvm.MethodName) prog_2_method_13_code (4 : Nat) (Option.some Jvm.ClassFile.FieldType.int)) ∈ tbG := mt_5 (List.mem_of_getElem? (i := 147) (by decide +kernel)) rfl
theorem mw_1221 : (Jvm.Cond.methodLink "TaleCourt$Claims" (82 : Nat) ({ cls := "java/lang/Integer", name := "bitCount", desc := "(I)I" } : Jvm.MethodName)) ∈ tbG := mt_5 (List.mem_of_getElem? (i := 148) (by decide +kernel)) rfl
theorem mw_1222 : (Jvm.Cond.methodLink "TaleCourt$Claims" (87 : Nat) ({ cls := "TaleCourt$Claims", name := "canBeTrueWithout", desc := "(I)Z" } : Jvm.MethodName)) ∈ tbG := mt_5 (List.mem_of_getElem? (i := 149) (by decide +kernel)) rfl
theorem mw_1224 : (Jvm.Cond.instanceMethod ({ cls := "TaleCourt$Claims", name := "canBeTrueWithout", desc := "(I)Z" } : Jvm.MethodName)) ∈ tbG := mt_5 (List.mem_of_getElem? (i := 151) (by decide +kernel)) rfl
theorem mw_1225 : (Jvm.Cond.code ({ cls := "TaleCourt$Claims", name := "canBeTrueWithout", desc := "(I)Z" } : Jvm.MethodName) prog_2_method_14_code (5 : Nat) (Option.some Jvm.ClassFile.FieldType.boolean)) ∈ tbG := mt_5 (List.mem_of_getElem? (i := 152) (by decide +kernel)) rfl
theorem mw_1226 : (Jvm.Cond.methodLink "TaleCourt" (311 : Nat) ({ cls := "java/lang/Integer", name := "bitCount", desc := "(I)I" } : Jvm.MethodName)) ∈ tbG := mt_5 (List.mem_of_getElem? (i := 153) (by decide +kernel)) rfl
theorem mw_1227 : (Jvm.Cond.methodLink "TaleCourtLaw" (241 : Nat) ({ cls := "TaleCourt", name := "who", desc := "(I)I" } : Jvm.MethodName)) ∈ tbG := mt_5 (List.mem_of_getElem? (i := 154) (by decide +kernel)) rfl
theorem mw_1228 : (Jvm.Cond.instanceMethod ({ cls := "TaleCourt", name := "who", desc := "(I)I" } : Jvm.MethodName)) ∈ tbG := mt_5 (List.mem_of_getElem? (i := 155) (by decide +kernel)) rfl
theorem mw_1229 : (Jvm.Cond.selects "TaleCourt" ({ cls := "TaleCourt", name := "who", desc := "(I)I" } : Jvm.MethodName) ({ cls := "TaleCourt", name := "who", desc := "(I)I" } : Jvm.MethodName)) ∈ tbG := mt_5 (List.mem_of_getElem? (i := 156) (by decide +kernel)) rfl
theorem mw_1230 : (Jvm.Cond.code ({ cls := "TaleCourt", name := "who", desc := "(I)I" } : Jvm.MethodName) prog_1_method_66_code (3 : Nat) (Option.some Jvm.ClassFile.FieldType.int)) ∈ tbG := mt_5 (List.mem_of_getElem? (i := 157) (by decide +kernel)) rfl
theorem mw_1231 : (Jvm.Cond.methodLink "TaleCourtLaw" (245 : Nat) ({ cls := "TaleCourt", name := "votes", desc := "(II)I" } : Jvm.MethodName)) ∈ tbG := mt_5 (List.mem_of_getElem? (i := 158) (by decide +kernel)) rfl
theorem mw_1232 : (Jvm.Cond.instanceMethod ({ cls := "TaleCourt", name := "votes", desc := "(II)I" } : Jvm.MethodName)) ∈ tbG := mt_5 (List.mem_of_getElem? (i := 159) (by decide +kernel)) rfl
theorem mw_1233 : (Jvm.Cond.selects "TaleCourt" ({ cls := "TaleCourt", name := "votes", desc := "(II)I" } : Jvm.MethodName) ({ cls := "TaleCourt", name := "votes", desc := "(II)I" } : Jvm.MethodName)) ∈ tbG := mt_5 (List.mem_of_getElem? (i := 160) (by decide +kernel)) rfl
theorem mw_1234 : (Jvm.Cond.code ({ cls := "TaleCourt", name := "votes", desc := "(II)I" } : Jvm.MethodName) prog_1_method_67_code (7 : Nat) (Option.some Jvm.ClassFile.FieldType.int)) ∈ tbG := mt_5 (List.mem_of_getElem? (i := 161) (by decide +kernel)) rfl
theorem mw_1235 : (Jvm.Cond.methodLink "TaleCourt" (316 : Nat) ({ cls := "TaleCourt$Row", name := "isOfMotifs", desc := "(LTaleCourt$Court;)Z" } : Jvm.MethodName)) ∈ tbG := mt_5 (List.mem_of_getElem? (i := 162) (by decide +kernel)) rfl
theorem mw_1236 : (Jvm.Cond.instanceMethod ({ cls := "TaleCourt$Row", name := "isOfMotifs", desc := "(LTaleCourt$Court;)Z" } : Jvm.MethodName)) ∈ tbG := mt_5 (List.mem_of_getElem? (i := 163) (by decide +kernel)) rfl
theorem mw_1237 : (Jvm.Cond.selects "TaleCourt$Row" ({ cls := "TaleCourt$Row", name := "isOfMotifs", desc := "(LTaleCourt$Court;)Z" } : Jvm.MethodName) ({ cls := "TaleCourt$Row", name := "isOfMotifs", desc := "(LTaleCourt$Court;)Z" } : Jvm.MethodName)) ∈ tbG := mt_5 (List.mem_of_getElem? (i := 164) (by decide +kernel)) rfl
theorem mw_1238 : (Jvm.Cond.code ({ cls := "TaleCourt$Row", name := "isOfMotifs", desc := "(LTaleCourt$Court;)Z" } : Jvm.MethodName) prog_7_method_6_code (3 : Nat) (Option.some Jvm.ClassFile.FieldType.boolean)) ∈ tbG := mt_5 (List.mem_of_getElem? (i := 165) (by decide +kernel)) rfl
theorem mw_1239 : (Jvm.Cond.methodLink "TaleCourt$Row" (30 : Nat) ({ cls := "TaleCourt$Court", name := "hasNumber", desc := "(J)Z" } : Jvm.MethodName)) ∈ tbG := mt_5 (List.mem_of_getElem? (i := 166) (by decide +kernel)) rfl
theorem mw_1240 : (Jvm.Cond.methodLink "TaleCourt" (319 : Nat) ({ cls := "TaleCourt$Row", name := "tasteFor", desc := "(LTaleCourt$Court;I)I" } : Jvm.MethodName)) ∈ tbG := mt_5 (List.mem_of_getElem? (i := 167) (by decide +kernel)) rfl
theorem mw_1241 : (Jvm.Cond.instanceMethod ({ cls := "TaleCourt$Row", name := "tasteFor", desc := "(LTaleCourt$Court;I)I" } : Jvm.MethodName)) ∈ tbG := mt_5 (List.mem_of_getElem? (i := 168) (by decide +kernel)) rfl
theorem mw_1242 : (Jvm.Cond.selects "TaleCourt$Row" ({ cls := "TaleCourt$Row", name := "tasteFor", desc := "(LTaleCourt$Court;I)I" } : Jvm.MethodName) ({ cls := "TaleCourt$Row", name := "tasteFor", desc := "(LTaleCourt$Court;I)I" } : Jvm.MethodName)) ∈ tbG := mt_5 (List.mem_of_getElem? (i := 169) (by decide +kernel)) rfl
theorem mw_1243 : (Jvm.Cond.code ({ cls := "TaleCourt$Row", name := "tasteFor", desc := "(LTaleCourt$Court;I)I" } : Jvm.MethodName) prog_7_method_7_code (6 : Nat) (Option.some Jvm.ClassFile.FieldType.int)) ∈ tbG := mt_5 (List.mem_of_getElem? (i := 170) (by decide +kernel)) rfl
theorem mw_1244 : (Jvm.Cond.methodLink "TaleCourt$Row" (36 : Nat) ({ cls := "TaleCourt$Court", name := "hasListener", desc := "(I)Z" } : Jvm.MethodName)) ∈ tbG := mt_5 (List.mem_of_getElem? (i := 171) (by decide +kernel)) rfl
theorem mw_1245 : (Jvm.Cond.instanceMethod ({ cls := "TaleCourt$Court", name := "hasListener", desc := "(I)Z" } : Jvm.MethodName)) ∈ tbG := mt_5 (List.mem_of_getElem? (i := 172) (by decide +kernel)) rfl
theorem mw_1246 : (Jvm.Cond.selects "TaleCourt$Court" ({ cls := "TaleCourt$Court", name := "hasListener", desc := "(I)Z" } : Jvm.MethodName) ({ cls := "TaleCourt$Court", name := "hasListener", desc := "(I)Z" } : Jvm.MethodName)) ∈ tbG := mt_5 (List.mem_of_getElem? (i := 173) (by decide +kernel)) rfl
theorem mw_1247 : (Jvm.Cond.code ({ cls := "TaleCourt$Court", name := "hasListener", desc := "(I)Z" } : Jvm.MethodName) prog_3_method_9_code (2 : Nat) (Option.some Jvm.ClassFile.FieldType.boolean)) ∈ tbG := mt_5 (List.mem_of_getElem? (i := 174) (by decide +kernel)) rfl
theorem mw_1248 : (Jvm.Cond.methodLink "TaleCourt$Row" (40 : Nat) ({ cls := "TaleCourt$Court", name := "value", desc := "(I)I" } : Jvm.MethodName)) ∈ tbG := mt_5 (List.mem_of_getElem? (i := 175) (by decide +kernel)) rfl
theorem mw_1249 : (Jvm.Cond.methodLink "TaleCourtLaw" (249 : Nat) ({ cls := "TaleCourt", name := "taste", desc := "(II)I" } : Jvm.MethodName)) ∈ tbG := mt_5 (List.mem_of_getElem? (i := 176) (by decide +kernel)) rfl
theorem mw_1250 : (Jvm.Cond.instanceMethod ({ cls := "TaleCourt", name := "taste", desc := "(II)I" } : Jvm.MethodName)) ∈ tbG := mt_5 (List.mem_of_getElem? (i := 177) (by decide +kernel)) rfl
theorem mw_1251 : (Jvm.Cond.selects "TaleCourt" ({ cls := "TaleCourt", name := "taste", desc := "(II)I" } : Jvm.MethodName) ({ cls := "TaleCourt", name := "taste", desc := "(II)I" } : Jvm.MethodName)) ∈ tbG := mt_5 (List.mem_of_getElem? (i := 178) (by decide +kernel)) rfl
theorem mw_1252 : (Jvm.Cond.code ({ cls := "TaleCourt", name := "taste", desc := "(II)I" } : Jvm.MethodName) prog_1_method_68_code (4 : Nat) (Option.some Jvm.ClassFile.FieldType.int)) ∈ tbG := mt_5 (List.mem_of_getElem? (i := 179) (by decide +kernel)) rfl
theorem mw_1253 : (Jvm.Cond.methodLink "TaleCourt" (323 : Nat) ({ cls := "TaleCourt$Court", name := "hasListener", desc := "(I)Z" } : Jvm.MethodName)) ∈ tbG := mt_5 (List.mem_of_getElem? (i := 180) (by decide +kernel)) rfl
theorem mw_1254 : (Jvm.Cond.methodLink "TaleCourtLaw" (253 : Nat) ({ cls := "TaleCourt", name := "drawn", desc := "(II)I" } : Jvm.MethodName)) ∈ tbG := mt_5 (List.mem_of_getElem? (i := 181) (by decide +kernel)) rfl
theorem mw_1255 : (Jvm.Cond.instanceMethod ({ cls := "TaleCourt", name := "drawn", desc := "(II)I" } : Jvm.MethodName)) ∈ tbG := mt_5 (List.mem_of_getElem? (i := 182) (by decide +kernel)) rfl
theorem mw_1256 : (Jvm.Cond.selects "TaleCourt" ({ cls := "TaleCourt", name := "drawn", desc := "(II)I" } : Jvm.MethodName) ({ cls := "TaleCourt", name := "drawn", desc := "(II)I" } : Jvm.MethodName)) ∈ tbG := mt_5 (List.mem_of_getElem? (i := 183) (by decide +kernel)) rfl
theorem mw_1257 : (Jvm.Cond.code ({ cls := "TaleCourt", name := "drawn", desc := "(II)I" } : Jvm.MethodName) prog_1_method_72_code (3 : Nat) (Option.some Jvm.ClassFile.FieldType.int)) ∈ tbG := mt_5 (List.mem_of_getElem? (i := 184) (by decide +kernel)) rfl
theorem mw_1258 : (Jvm.Cond.methodLink "TaleCourt" (341 : Nat) ({ cls := "TaleCourt", name := "mayDraw", desc := "(I)Z" } : Jvm.MethodName)) ∈ tbG := mt_5 (List.mem_of_getElem? (i := 185) (by decide +kernel)) rfl
theorem mw_1260 : (Jvm.Cond.instanceMethod ({ cls := "TaleCourt", name := "mayDraw", desc := "(I)Z" } : Jvm.MethodName)) ∈ tbG := mt_5 (List.mem_of_getElem? (i := 187) (by decide +kernel)) rfl
theorem mw_1261 : (Jvm.Cond.code ({ cls := "TaleCourt", name := "mayDraw", desc := "(I)Z" } : Jvm.MethodName) prog_1_method_69_code (2 : Nat) (Option.some Jvm.ClassFile.FieldType.boolean)) ∈ tbG := mt_5 (List.mem_of_getElem? (i := 188) (by decide +kernel)) rfl
theorem mw_1262 : (Jvm.Cond.constant "TaleCourt" (326 : Nat) (2000000000 : Int32)) ∈ tbG := mt_5 (List.mem_of_getElem? (i := 189) (by decide +kernel)) rfl
theorem mw_1263 : (Jvm.Cond.methodLink "TaleCourt" (344 : Nat) ({ cls := "TaleCourt", name := "drawFrom", desc := "(I)V" } : Jvm.MethodName)) ∈ tbG := mt_5 (List.mem_of_getElem? (i := 190) (by decide +kernel)) rfl
theorem mw_1265 : (Jvm.Cond.instanceMethod ({ cls := "TaleCourt", name := "drawFrom", desc := "(I)V" } : Jvm.MethodName)) ∈ tbG := mt_5 (List.mem_of_getElem? (i := 192) (by decide +kernel)) rfl
theorem mw_1266 : (Jvm.Cond.code ({ cls := "TaleCourt", name := "drawFrom", desc := "(I)V" } : Jvm.MethodName) prog_1_method_70_code (7 : Nat) (Option.none : Option Jvm.ClassFile.FieldType)) ∈ tbG := mt_5 (List.mem_of_getElem? (i := 193) (by decide +kernel)) rfl
theorem mw_1267 : (Jvm.Cond.methodLink "TaleCourt" (327 : Nat) ({ cls := "TaleCourt$Telling", name := "copyFrom", desc := "(LTaleCourt$Telling;)V" } : Jvm.MethodName)) ∈ tbG := mt_5 (List.mem_of_getElem? (i := 194) (by decide +kernel)) rfl
theorem mw_1268 : (Jvm.Cond.constantLong "TaleCourt" (330 : Nat) (1103515245 : Int64)) ∈ tbG := mt_5 (List.mem_of_getElem? (i := 195) (by decide +kernel)) rfl
theorem mw_1269 : (Jvm.Cond.constantLong "TaleCourt" (332 : Nat) (12345 : Int64)) ∈ tbG := mt_5 (List.mem_of_getElem? (i := 196) (by decide +kernel)) rfl
theorem mw_1270 : (Jvm.Cond.constantLong "TaleCourt" (334 : Nat) (2147483647 : Int64)) ∈ tbG := mt_5 (List.mem_of_getElem? (i := 197) (by decide +kernel)) rfl
theorem mw_1271 : (Jvm.Cond.constantLong "TaleCourt" (336 : Nat) (65536 : Int64)) ∈ tbG := mt_5 (List.mem_of_getElem? (i := 198) (by decide +kernel)) rfl
theorem mw_1272 : (Jvm.Cond.methodLink "TaleCourt" (338 : Nat) ({ cls := "TaleCourt", name := "bitAt", desc := "(II)I" } : Jvm.MethodName)) ∈ tbG := mt_5 (List.mem_of_getElem? (i := 199) (by decide +kernel)) rfl
theorem mw_1273 : (Jvm.Cond.static ({ cls := "TaleCourt", name := "bitAt", desc := "(II)I" } : Jvm.MethodName)) ∈ tbG := mt_5 (List.mem_of_getElem? (i := 200) (by decide +kernel)) rfl
theorem mw_1274 : (Jvm.Cond.code ({ cls := "TaleCourt", name := "bitAt", desc := "(II)I" } : Jvm.MethodName) prog_1_method_71_code (4 : Nat) (Option.some Jvm.ClassFile.FieldType.int)) ∈ tbG := mt_5 (List.mem_of_getElem? (i := 201) (by decide +kernel)) rfl
theorem mw_1275 : (Jvm.Cond.methodLink "TaleCourtLaw" (257 : Nat) ({ cls := "TaleCourt", name := "lot", desc := "(II)I" } : Jvm.MethodName)) ∈ tbG := mt_5 (List.mem_of_getElem? (i := 202) (by decide +kernel)) rfl
theorem mw_1276 : (Jvm.Cond.instanceMethod ({ cls := "TaleCourt", name := "lot", desc := "(II)I" } : Jvm.MethodName)) ∈ tbG := mt_5 (List.mem_of_getElem? (i := 203) (by decide +kernel)) rfl
theorem mw_1277 : (Jvm.Cond.selects "TaleCourt" ({ cls := "TaleCourt", name := "lot", desc := "(II)I" } : Jvm.MethodName) ({ cls := "TaleCourt", name := "lot", desc := "(II)I" } : Jvm.MethodName)) ∈ tbG := mt_5 (List.mem_of_getElem? (i := 204) (by decide +kernel)) rfl
theorem mw_1278 : (Jvm.Cond.code ({ cls := "TaleCourt", name := "lot", desc := "(II)I" } : Jvm.MethodName) prog_1_method_73_code (3 : Nat) (Option.some Jvm.ClassFile.FieldType.int)) ∈ tbG := mt_5 (List.mem_of_getElem? (i := 205) (by decide +kernel)) rfl
theorem mw_1279 : (Jvm.Cond.methodLink "TaleCourtLaw" (261 : Nat) ({ cls := "TaleCourt", name := "nights", desc := "(II)I" } : Jvm.MethodName)) ∈ tbG := mt_5 (List.mem_of_getElem? (i := 206) (by decide +kernel)) rfl
theorem mw_1280 : (Jvm.Cond.instanceMethod ({ cls := "TaleCourt", name := "nights", desc := "(II)I" } : Jvm.MethodName)) ∈ tbG := mt_5 (List.mem_of_getElem? (i := 207) (by decide +kernel)) rfl
theorem mw_1281 : (Jvm.Cond.selects "TaleCourt" ({ cls := "TaleCourt", name := "nights", desc := "(II)I" } : Jvm.MethodName) ({ cls := "TaleCourt", name := "nights", desc := "(II)I" } : Jvm.MethodName)) ∈ tbG := mt_5 (List.mem_of_getElem? (i := 208) (by decide +kernel)) rfl
theorem mw_1282 : (Jvm.Cond.code ({ cls := "TaleCourt", name := "nights", desc := "(II)I" } : Jvm.MethodName) prog_1_method_74_code (5 : Nat) (Option.some Jvm.ClassFile.FieldType.int)) ∈ tbG := mt_5 (List.mem_of_getElem? (i := 209) (by decide +kernel)) rfl
theorem mw_1283 : (Jvm.Cond.methodLink "TaleCourtLaw" (265 : Nat) ({ cls := "TaleCourt", name := "count", desc := "(I)I" } : Jvm.MethodName)) ∈ tbG := mt_5 (List.mem_of_getElem? (i := 210) (by decide +kernel)) rfl
theorem mw_1284 : (Jvm.Cond.instanceMethod ({ cls := "TaleCourt", name := "count", desc := "(I)I" } : Jvm.MethodName)) ∈ tbG := mt_5 (List.mem_of_getElem? (i := 211) (by decide +kernel)) rfl
theorem mw_1285 : (Jvm.Cond.selects "TaleCourt" ({ cls := "TaleCourt", name := "count", desc := "(I)I" } : Jvm.MethodName) ({ cls := "TaleCourt", name := "count", desc := "(I)I" } : Jvm.MethodName)) ∈ tbG := mt_5 (List.mem_of_getElem? (i := 212) (by decide +kernel)) rfl
theorem mw_1286 : (Jvm.Cond.code ({ cls := "TaleCourt", name := "count", desc := "(I)I" } : Jvm.MethodName) prog_1_method_75_code (2 : Nat) (Option.some Jvm.ClassFile.FieldType.int)) ∈ tbG := mt_5 (List.mem_of_getElem? (i := 213) (by decide +kernel)) rfl
theorem mw_1287 : (Jvm.Cond.methodLink "TaleCourt" (356 : Nat) ({ cls := "TaleCourt", name := "slotsInUse", desc := "()I" } : Jvm.MethodName)) ∈ tbG := mt_5 (List.mem_of_getElem? (i := 214) (by decide +kernel)) rfl
theorem mw_1289 : (Jvm.Cond.instanceMethod ({ cls := "TaleCourt", name := "slotsInUse", desc := "()I" } : Jvm.MethodName)) ∈ tbG := mt_5 (List.mem_of_getElem? (i := 216) (by decide +kernel)) rfl
theorem mw_1290 : (Jvm.Cond.code ({ cls := "TaleCourt", name := "slotsInUse", desc := "()I" } : Jvm.MethodName) prog_1_method_76_code (3 : Nat) (Option.some Jvm.ClassFile.FieldType.int)) ∈ tbG := mt_5 (List.mem_of_getElem? (i := 217) (by decide +kernel)) rfl
theorem mw_1291 : (Jvm.Cond.methodLink "TaleCourtLaw" (269 : Nat) ({ cls := "TaleCourt", name := "keep", desc := "(I)I" } : Jvm.MethodName)) ∈ tbG := mt_5 (List.mem_of_getElem? (i := 218) (by decide +kernel)) rfl
theorem mw_1292 : (Jvm.Cond.instanceMethod ({ cls := "TaleCourt", name := "keep", desc := "(I)I" } : Jvm.MethodName)) ∈ tbG := mt_5 (List.mem_of_getElem? (i := 219) (by decide +kernel)) rfl
theorem mw_1293 : (Jvm.Cond.selects "TaleCourt" ({ cls := "TaleCourt", name := "keep", desc := "(I)I" } : Jvm.MethodName) ({ cls := "TaleCourt", name := "keep", desc := "(I)I" } : Jvm.MethodName)) ∈ tbG := mt_5 (List.mem_of_getElem? (i := 220) (by decide +kernel)) rfl
theorem mw_1294 : (Jvm.Cond.code ({ cls := "TaleCourt", name := "keep", desc := "(I)I" } : Jvm.MethodName) prog_1_method_77_code (3 : Nat) (Option.some Jvm.ClassFile.FieldType.int)) ∈ tbG := mt_5 (List.mem_of_getElem? (i := 221) (by decide +kernel)) rfl
theorem mw_1295 : (Jvm.Cond.methodLink "TaleCourtLaw" (273 : Nat) ({ cls := "TaleCourt", name := "back", desc := "(I)I" } : Jvm.MethodName)) ∈ tbG := mt_5 (List.mem_of_getElem? (i := 222) (by decide +kernel)) rfl
theorem mw_1296 : (Jvm.Cond.instanceMethod ({ cls := "TaleCourt", name := "back", desc := "(I)I" } : Jvm.MethodName)) ∈ tbG := mt_5 (List.mem_of_getElem? (i := 223) (by decide +kernel)) rfl
theorem mw_1297 : (Jvm.Cond.selects "TaleCourt" ({ cls := "TaleCourt", name := "back", desc := "(I)I" } : Jvm.MethodName) ({ cls := "TaleCourt", name := "back", desc := "(I)I" } : Jvm.MethodName)) ∈ tbG := mt_5 (List.mem_of_getElem? (i := 224) (by decide +kernel)) rfl
theorem mw_1298 : (Jvm.Cond.code ({ cls := "TaleCourt", name := "back", desc := "(I)I" } : Jvm.MethodName) prog_1_method_78_code (3 : Nat) (Option.some Jvm.ClassFile.FieldType.int)) ∈ tbG := mt_5 (List.mem_of_getElem? (i := 225) (by decide +kernel)) rfl
theorem mw_1299 : (Jvm.Cond.methodLink "TaleCourtLaw" (277 : Nat) ({ cls := "TaleCourt", name := "row", desc := "(III)I" } : Jvm.MethodName)) ∈ tbG := mt_5 (List.mem_of_getElem? (i := 226) (by decide +kernel)) rfl
theorem mw_1300 : (Jvm.Cond.instanceMethod ({ cls := "TaleCourt", name := "row", desc := "(III)I" } : Jvm.MethodName)) ∈ tbG := mt_5 (List.mem_of_getElem? (i := 227) (by decide +kernel)) rfl
theorem mw_1301 : (Jvm.Cond.selects "TaleCourt" ({ cls := "TaleCourt", name := "row", desc := "(III)I" } : Jvm.MethodName) ({ cls := "TaleCourt", name := "row", desc := "(III)I" } : Jvm.MethodName)) ∈ tbG := mt_5 (List.mem_of_getElem? (i := 228) (by decide +kernel)) rfl
theorem mw_1302 : (Jvm.Cond.code ({ cls := "TaleCourt", name := "row", desc := "(III)I" } : Jvm.MethodName) prog_1_method_79_code (4 : Nat) (Option.some Jvm.ClassFile.FieldType.int)) ∈ tbG := mt_5 (List.mem_of_getElem? (i := 229) (by decide +kernel)) rfl
theorem mw_1303 : (Jvm.Cond.methodLink "TaleCourt" (367 : Nat) ({ cls := "TaleCourt$Row", name := "begin", desc := "(II)V" } : Jvm.MethodName)) ∈ tbG := mt_5 (List.mem_of_getElem? (i := 230) (by decide +kernel)) rfl
theorem mw_1304 : (Jvm.Cond.instanceMethod ({ cls := "TaleCourt$Row", name := "begin", desc := "(II)V" } : Jvm.MethodName)) ∈ tbG := mt_5 (List.mem_of_getElem? (i := 231) (by decide +kernel)) rfl
theorem mw_1305 : (Jvm.Cond.selects "TaleCourt$Row" ({ cls := "TaleCourt$Row", name := "begin", desc := "(II)V" } : Jvm.MethodName) ({ cls := "TaleCourt$Row", name := "begin", desc := "(II)V" } : Jvm.MethodName)) ∈ tbG := mt_5 (List.mem_of_getElem? (i := 232) (by decide +kernel)) rfl
theorem mw_1306 : (Jvm.Cond.code ({ cls := "TaleCourt$Row", name := "begin", desc := "(II)V" } : Jvm.MethodName) prog_7_method_2_code (3 : Nat) (Option.none : Option Jvm.ClassFile.FieldType)) ∈ tbG := mt_5 (List.mem_of_getElem? (i := 233) (by decide +kernel)) rfl
theorem mw_1307 : (Jvm.Cond.methodLink "TaleCourt$Row" (22 : Nat) ({ cls := "java/util/Arrays", name := "fill", desc := "([JJ)V" } : Jvm.MethodName)) ∈ tbG := mt_5 (List.mem_of_getElem? (i := 234) (by decide +kernel)) rfl
theorem mw_1308 : (Jvm.Cond.static ({ cls := "java/util/Arrays", name := "fill", desc := "([JJ)V" } : Jvm.MethodName)) ∈ tbG := mt_5 (List.mem_of_getElem? (i := 235) (by decide +kernel)) rfl
theorem mw_1309 : (Jvm.Cond.code ({ cls := "java/util/Arrays", name := "fill", desc := "([JJ)V" } : Jvm.MethodName) prog_18_method_101_code (5 : Nat) (Option.none : Option Jvm.ClassFile.FieldType)) ∈ tbG := mt_5 (List.mem_of_getElem? (i := 236) (by decide +kernel)) rfl
theorem mw_1310 : (Jvm.Cond.methodLink "TaleCourtLaw" (284 : Nat) ({ cls := "TaleCourt", name := "write", desc := "(IIJ)I" } : Jvm.MethodName)) ∈ tbG := mt_5 (List.mem_of_getElem? (i := 237) (by decide +kernel)) rfl
theorem mw_1311 : (Jvm.Cond.instanceMethod ({ cls := "TaleCourt", name := "write", desc := "(IIJ)I" } : Jvm.MethodName)) ∈ tbG := mt_5 (List.mem_of_getElem? (i := 238) (by decide +kernel)) rfl
theorem mw_1312 : (Jvm.Cond.selects "TaleCourt" ({ cls := "TaleCourt", name := "write", desc := "(IIJ)I" } : Jvm.MethodName) ({ cls := "TaleCourt", name := "write", desc := "(IIJ)I" } : Jvm.MethodName)) ∈ tbG := mt_5 (List.mem_of_getElem? (i := 239) (by decide +kernel)) rfl
theorem mw_1313 : (Jvm.Cond.code ({ cls := "TaleCourt", name := "write", desc := "(IIJ)I" } : Jvm.MethodName) prog_1_method_80_code (6 : Nat) (Option.some Jvm.ClassFile.FieldType.int)) ∈ tbG := mt_6 (List.mem_of_getElem? (i := 0) (by decide +kernel)) rfl
theorem mw_1314 : (Jvm.Cond.methodLink "TaleCourt" (369 : Nat) ({ cls := "TaleCourt$Row", name := "put", desc := "(IJ)V" } : Jvm.MethodName)) ∈ tbG := mt_6 (List.mem_of_getElem? (i := 1) (by decide +kernel)) rfl
theorem mw_1315 : (Jvm.Cond.instanceMethod ({ cls := "TaleCourt$Row", name := "put", desc := "(IJ)V" } : Jvm.MethodName)) ∈ tbG := mt_6 (List.mem_of_getElem? (i := 2) (by decide +kernel)) rfl
theorem mw_1316 : (Jvm.Cond.selects "TaleCourt$Row" ({ cls := "TaleCourt$Row", name := "put", desc := "(IJ)V" } : Jvm.MethodName) ({ cls := "TaleCourt$Row", name := "put", desc := "(IJ)V" } : Jvm.MethodName)) ∈ tbG := mt_6 (List.mem_of_getElem? (i := 3) (by decide +kernel)) rfl
theorem mw_1317 : (Jvm.Cond.code ({ cls := "TaleCourt$Row", name := "put", desc := "(IJ)V" } : Jvm.MethodName) prog_7_method_3_code (4 : Nat) (Option.none : Option Jvm.ClassFile.FieldType)) ∈ tbG := mt_6 (List.mem_of_getElem? (i := 4) (by decide +kernel)) rfl
theorem mw_1318 : (Jvm.Cond.methodLink "TaleCourtLaw" (289 : Nat) ({ cls := "TaleCourt", name := "paste", desc := "(IIIII)I" } : Jvm.MethodName)) ∈ tbG := mt_6 (List.mem_of_getElem? (i := 5) (by decide +kernel)) rfl
theorem mw_1319 : (Jvm.Cond.instanceMethod ({ cls := "TaleCourt", name := "paste", desc := "(IIIII)I" } : Jvm.MethodName)) ∈ tbG := mt_6 (List.mem_of_getElem? (i := 6) (by decide +kernel)) rfl
theorem mw_1320 : (Jvm.Cond.selects "TaleCourt" ({ cls := "TaleCourt", name := "paste", desc := "(IIIII)I" } : Jvm.MethodName) ({ cls := "TaleCourt", name := "paste", desc := "(IIIII)I" } : Jvm.MethodName)) ∈ tbG := mt_6 (List.mem_of_getElem? (i := 7) (by decide +kernel)) rfl
theorem mw_1321 : (Jvm.Cond.code ({ cls := "TaleCourt", name := "paste", desc := "(IIIII)I" } : Jvm.MethodName) prog_1_method_81_code (8 : Nat) (Option.some Jvm.ClassFile.FieldType.int)) ∈ tbG := mt_6 (List.mem_of_getElem? (i := 8) (by decide +kernel)) rfl
theorem mw_1322 : (Jvm.Cond.methodLink "TaleCourt" (376 : Nat) ({ cls := "TaleCourt$Row", name := "holds", desc := "(II)Z" } : Jvm.MethodName)) ∈ tbG := mt_6 (List.mem_of_getElem? (i := 9) (by decide +kernel)) rfl
theorem mw_1323 : (Jvm.Cond.instanceMethod ({ cls := "TaleCourt$Row", name := "holds", desc := "(II)Z" } : Jvm.MethodName)) ∈ tbG := mt_6 (List.mem_of_getElem? (i := 10) (by decide +kernel)) rfl
theorem mw_1324 : (Jvm.Cond.selects "TaleCourt$Row" ({ cls := "TaleCourt$Row", name := "holds", desc := "(II)Z" } : Jvm.MethodName) ({ cls := "TaleCourt$Row", name := "holds", desc := "(II)Z" } : Jvm.MethodName)) ∈ tbG := mt_6 (List.mem_of_getElem? (i := 11) (by decide +kernel)) rfl
theorem mw_1325 : (Jvm.Cond.code ({ cls := "TaleCourt$Row", name := "holds", desc := "(II)Z" } : Jvm.MethodName) prog_7_method_5_code (3 : Nat) (Option.some Jvm.ClassFile.FieldType.boolean)) ∈ tbG := mt_6 (List.mem_of_getElem? (i := 12) (by decide +kernel)) rfl
theorem mw_1326 : (Jvm.Cond.methodLink "TaleCourt" (379 : Nat) ({ cls := "java/lang/System", name := "arraycopy", desc := "(Ljava/lang/Object;ILjava/lang/Object;II)V" } : Jvm.MethodName)) ∈ tbG := mt_6 (List.mem_of_getElem? (i := 13) (by decide +kernel)) rfl
theorem mw_1327 : (Jvm.Cond.classLink "TaleCourtLaw" (10 : Nat) "TaleCourtModel") ∈ tbG := mt_6 (List.mem_of_getElem? (i := 14) (by decide +kernel)) rfl
theorem mw_1328 : (Jvm.Cond.instantiable "TaleCourtModel" (50 : Nat)) ∈ tbG := mt_6 (List.mem_of_getElem? (i := 15) (by decide +kernel)) rfl
theorem mw_1329 : (Jvm.Cond.methodLink "TaleCourtLaw" (12 : Nat) ({ cls := "TaleCourtModel", name := "<init>", desc := "()V" } : Jvm.MethodName)) ∈ tbG := mt_6 (List.mem_of_getElem? (i := 16) (by decide +kernel)) rfl
theorem mw_1330 : (Jvm.Cond.instanceMethod ({ cls := "TaleCourtModel", name := "<init>", desc := "()V" } : Jvm.MethodName)) ∈ tbG := mt_6 (List.mem_of_getElem? (i := 17) (by decide +kernel)) rfl
theorem mw_1331 : (Jvm.Cond.code ({ cls := "TaleCourtModel", name := "<init>", desc := "()V" } : Jvm.MethodName) prog_11_method_1_code (2 : Nat) (Option.none : Option Jvm.ClassFile.FieldType)) ∈ tbG := mt_6 (List.mem_of_getElem? (i := 18) (by decide +kernel)) rfl
theorem mw_1332 : (Jvm.Cond.methodLink "TaleCourtModel" (1 : Nat) ({ cls := "java/lang/Object", name := "<init>", desc := "()V" } : Jvm.MethodName)) ∈ tbG := mt_6 (List.mem_of_getElem? (i := 19) (by decide +kernel)) rfl
theorem mw_1333 : (Jvm.Cond.constant "TaleCourtModel" (71 : Nat) (163840 : Int32)) ∈ tbG := mt_6 (List.mem_of_getElem? (i := 20) (by decide +kernel)) rfl
theorem mw_1334 : (Jvm.Cond.fieldLink "TaleCourtModel" (81 : Nat) "TaleCourtModel" "thrown" "I") ∈ tbG := mt_6 (List.mem_of_getElem? (i := 21) (by decide +kernel)) rfl
theorem mw_1335 : (Jvm.Cond.fieldLink "TaleCourtModel" (7 : Nat) "TaleCourtModel" "width" "[I") ∈ tbG := mt_6 (List.mem_of_getElem? (i := 22) (by decide +kernel)) rfl
theorem mw_1336 : (Jvm.Cond.fieldLink "TaleCourtModel" (13 : Nat) "TaleCourtModel" "many" "[I") ∈ tbG := mt_6 (List.mem_of_getElem? (i := 23) (by decide +kernel)) rfl
theorem mw_1337 : (Jvm.Cond.fieldLink "TaleCourtModel" (16 : Nat) "TaleCourtModel" "cells" "[J") ∈ tbG := mt_6 (List.mem_of_getElem? (i := 24) (by decide +kernel)) rfl
theorem mw_1338 : (Jvm.Cond.fieldLink "TaleCourtModel" (20 : Nat) "TaleCourtModel" "moved" "[J") ∈ tbG := mt_6 (List.mem_of_getElem? (i := 25) (by decide +kernel)) rfl
theorem mw_1339 : (Jvm.Cond.fieldLink "TaleCourtModel" (23 : Nat) "TaleCourtModel" "tape" "[B") ∈ tbG := mt_6 (List.mem_of_getElem? (i := 26) (by decide +kernel)) rfl
theorem mw_1340 : (Jvm.Cond.fieldLink "TaleCourtModel" (98 : Nat) "TaleCourtModel" "taped" "I") ∈ tbG := mt_6 (List.mem_of_getElem? (i := 27) (by decide +kernel)) rfl
theorem mw_1341 : (Jvm.Cond.fieldLink "TaleCourtModel" (105 : Nat) "TaleCourtModel" "at" "I") ∈ tbG := mt_6 (List.mem_of_getElem? (i := 28) (by decide +kernel)) rfl
theorem mw_1342 : (Jvm.Cond.fieldLink "TaleCourtModel" (122 : Nat) "TaleCourtModel" "token" "I") ∈ tbG := mt_6 (List.mem_of_getElem? (i := 29) (by decide +kernel)) rfl
theorem mw_1343 : (Jvm.Cond.fieldLink "TaleCourtModel" (112 : Nat) "TaleCourtModel" "place" "I") ∈ tbG := mt_6 (List.mem_of_getElem? (i := 30) (by decide +kernel)) rfl
theorem mw_1344 : (Jvm.Cond.fieldLink "TaleCourtModel" (115 : Nat) "TaleCourtModel" "value" "I") ∈ tbG := mt_6 (List.mem_of_getElem? (i := 31) (by decide +kernel)) rfl
theorem mw_1345 : (Jvm.Cond.fieldLink "TaleCourtModel" (118 : Nat) "TaleCourtModel" "word" "J") ∈ tbG := mt_6 (List.mem_of_getElem? (i := 32) (by decide +kernel)) rfl
theorem mw_1346 : (Jvm.Cond.fieldLink "TaleCourtModel" (133 : Nat) "TaleCourtModel" "bad" "I") ∈ tbG := mt_6 (List.mem_of_getElem? (i := 33) (by decide +kernel)) rfl
theorem mw_1347 : (Jvm.Cond.fieldLink "TaleCourtModel" (136 : Nat) "TaleCourtModel" "badPlace" "I") ∈ tbG := mt_6 (List.mem_of_getElem? (i := 34) (by decide +kernel)) rfl
theorem mw_1348 : (Jvm.Cond.fieldLink "TaleCourtModel" (160 : Nat) "TaleCourtModel" "fault" "I") ∈ tbG := mt_6 (List.mem_of_getElem? (i := 35) (by decide +kernel)) rfl
theorem mw_1349 : (Jvm.Cond.fieldLink "TaleCourtModel" (27 : Nat) "TaleCourtModel" "faultPlace" "I") ∈ tbG := mt_6 (List.mem_of_getElem? (i := 36) (by decide +kernel)) rfl
theorem mw_1350 : (Jvm.Cond.fieldLink "TaleCourtModel" (31 : Nat) "TaleCourtModel" "lines" "[I") ∈ tbG := mt_6 (List.mem_of_getElem? (i := 37) (by decide +kernel)) rfl
theorem mw_1351 : (Jvm.Cond.fieldLink "TaleCourtModel" (34 : Nat) "TaleCourtModel" "has" "[I") ∈ tbG := mt_6 (List.mem_of_getElem? (i := 38) (by decide +kernel)) rfl
theorem mw_1352 : (Jvm.Cond.fieldLink "TaleCourtModel" (37 : Nat) "TaleCourtModel" "motif" "[I") ∈ tbG := mt_6 (List.mem_of_getElem? (i := 39) (by decide +kernel)) rfl
theorem mw_1353 : (Jvm.Cond.fieldLink "TaleCourtModel" (40 : Nat) "TaleCourtModel" "listener" "[I") ∈ tbG := mt_6 (List.mem_of_getElem? (i := 40) (by decide +kernel)) rfl
theorem mw_1354 : (Jvm.Cond.fieldLink "TaleCourtModel" (43 : Nat) "TaleCourtModel" "turn" "[I") ∈ tbG := mt_6 (List.mem_of_getElem? (i := 41) (by decide +kernel)) rfl
theorem mw_1355 : (Jvm.Cond.fieldLink "TaleCourtModel" (46 : Nat) "TaleCourtModel" "isKept" "[Z") ∈ tbG := mt_6 (List.mem_of_getElem? (i := 42) (by decide +kernel)) rfl
theorem mw_1356 : (Jvm.Cond.fieldLink "TaleCourtModel" (50 : Nat) "TaleCourtModel" "now" "[I") ∈ tbG := mt_6 (List.mem_of_getElem? (i := 43) (by decide +kernel)) rfl
theorem mw_1357 : (Jvm.Cond.fieldLink "TaleCourtModel" (53 : Nat) "TaleCourtModel" "when" "[I") ∈ tbG := mt_6 (List.mem_of_getElem? (i := 44) (by decide +kernel)) rfl
theorem mw_1358 : (Jvm.Cond.fieldLink "TaleCourtModel" (265 : Nat) "TaleCourtModel" "turns" "I") ∈ tbG := mt_6 (List.mem_of_getElem? (i := 45) (by decide +kernel)) rfl
theorem mw_1359 : (Jvm.Cond.fieldLink "TaleCourtModel" (268 : Nat) "TaleCourtModel" "told" "I") ∈ tbG := mt_6 (List.mem_of_getElem? (i := 46) (by decide +kernel)) rfl
theorem mw_1360 : (Jvm.Cond.fieldLink "TaleCourtModel" (277 : Nat) "TaleCourtModel" "latest" "I") ∈ tbG := mt_6 (List.mem_of_getElem? (i := 47) (by decide +kernel)) rfl
theorem mw_1361 : (Jvm.Cond.fieldLink "TaleCourtModel" (271 : Nat) "TaleCourtModel" "sum" "I") ∈ tbG := mt_6 (List.mem_of_getElem? (i := 48) (by decide +kernel)) rfl
theorem mw_1362 : (Jvm.Cond.fieldLink "TaleCourtModel" (56 : Nat) "TaleCourtModel" "silences" "[I") ∈ tbG := mt_6 (List.mem_of_getElem? (i := 49) (by decide +kernel)) rfl
theorem mw_1363 : (Jvm.Cond.fieldLink "TaleCourtModel" (337 : Nat) "TaleCourtModel" "asked" "I") ∈ tbG := mt_6 (List.mem_of_getElem? (i := 50) (by decide +kernel)) rfl
theorem mw_1364 : (Jvm.Cond.fieldLink "TaleCourtModel" (340 : Nat) "TaleCourtModel" "floor" "I") ∈ tbG := mt_6 (List.mem_of_getElem? (i := 51) (by decide +kernel)) rfl
theorem mw_1365 : (Jvm.Cond.fieldLink "TaleCourtModel" (316 : Nat) "TaleCourtModel" "from" "I") ∈ tbG := mt_6 (List.mem_of_getElem? (i := 52) (by decide +kernel)) rfl
theorem mw_1366 : (Jvm.Cond.fieldLink "TaleCourtModel" (346 : Nat) "TaleCourtModel" "most" "I") ∈ tbG := mt_6 (List.mem_of_getElem? (i := 53) (by decide +kernel)) rfl
theorem mw_1367 : (Jvm.Cond.fieldLink "TaleCourtModel" (343 : Nat) "TaleCourtModel" "bestMany" "I") ∈ tbG := mt_6 (List.mem_of_getElem? (i := 54) (by decide +kernel)) rfl
theorem mw_1368 : (Jvm.Cond.fieldLink "TaleCourtModel" (59 : Nat) "TaleCourtModel" "best" "[I") ∈ tbG := mt_6 (List.mem_of_getElem? (i := 55) (by decide +kernel)) rfl
theorem mw_1369 : (Jvm.Cond.fieldLink "TaleCourtModel" (62 : Nat) "TaleCourtModel" "rowsOf" "[I") ∈ tbG := mt_6 (List.mem_of_getElem? (i := 56) (by decide +kernel)) rfl
theorem mw_1370 : (Jvm.Cond.fieldLink "TaleCourtModel" (65 : Nat) "TaleCourtModel" "endsOf" "[I") ∈ tbG := mt_6 (List.mem_of_getElem? (i := 57) (by decide +kernel)) rfl
theorem mw_1371 : (Jvm.Cond.fieldLink "TaleCourtModel" (319 : Nat) "TaleCourtModel" "wholeMany" "I") ∈ tbG := mt_6 (List.mem_of_getElem? (i := 58) (by decide +kernel)) rfl
theorem mw_1372 : (Jvm.Cond.fieldLink "TaleCourtModel" (322 : Nat) "TaleCourtModel" "inAll" "I") ∈ tbG := mt_6 (List.mem_of_getElem? (i := 59) (by decide +kernel)) rfl
theorem mw_1373 : (Jvm.Cond.fieldLink "TaleCourtModel" (325 : Nat) "TaleCourtModel" "inSome" "I") ∈ tbG := mt_6 (List.mem_of_getElem? (i := 60) (by decide +kernel)) rfl
theorem mw_1374 : (Jvm.Cond.fieldLink "TaleCourtModel" (328 : Nat) "TaleCourtModel" "fitMany" "I") ∈ tbG := mt_6 (List.mem_of_getElem? (i := 61) (by decide +kernel)) rfl
theorem mw_1375 : (Jvm.Cond.fieldLink "TaleCourtModel" (331 : Nat) "TaleCourtModel" "fitSlot" "I") ∈ tbG := mt_6 (List.mem_of_getElem? (i := 62) (by decide +kernel)) rfl
theorem mw_1376 : (Jvm.Cond.fieldLink "TaleCourtModel" (68 : Nat) "TaleCourtModel" "barred" "I") ∈ tbG := mt_6 (List.mem_of_getElem? (i := 63) (by decide +kernel)) rfl
theorem mw_1377 : (Jvm.Cond.fieldLink "TaleCourtModel" (72 : Nat) "TaleCourtModel" "outcome" "[I") ∈ tbG := mt_6 (List.mem_of_getElem? (i := 64) (by decide +kernel)) rfl
theorem mw_1378 : (Jvm.Cond.fieldLink "TaleCourtModel" (394 : Nat) "TaleCourtModel" "leftFirst" "I") ∈ tbG := mt_6 (List.mem_of_getElem? (i := 65) (by decide +kernel)) rfl
theorem mw_1379 : (Jvm.Cond.fieldLink "TaleCourtModel" (397 : Nat) "TaleCourtModel" "leftSecond" "I") ∈ tbG := mt_6 (List.mem_of_getElem? (i := 66) (by decide +kernel)) rfl
theorem mw_1380 : (Jvm.Cond.fieldLink "TaleCourtModel" (415 : Nat) "TaleCourtModel" "verdictOf" "I") ∈ tbG := mt_6 (List.mem_of_getElem? (i := 67) (by decide +kernel)) rfl
theorem mw_1381 : (Jvm.Cond.fieldLink "TaleCourtModel" (75 : Nat) "TaleCourtModel" "untrue" "[I") ∈ tbG := mt_6 (List.mem_of_getElem? (i := 68) (by decide +kernel)) rfl
theorem mw_1382 : (Jvm.Cond.fieldLink "TaleCourtModel" (78 : Nat) "TaleCourtModel" "ordersOf" "[I") ∈ tbG := mt_6 (List.mem_of_getElem? (i := 69) (by decide +kernel)) rfl
theorem mw_1383 : (Jvm.Cond.fieldLink "TaleCourtModel" (445 : Nat) "TaleCourtModel" "drawnFrom" "I") ∈ tbG := mt_6 (List.mem_of_getElem? (i := 70) (by decide +kernel)) rfl
theorem mw_1384 : (Jvm.Cond.lays "TaleCourtModel" "TaleCourtModel" "thrown" "I") ∈ tbG := mt_6 (List.mem_of_getElem? (i := 71) (by decide +kernel)) rfl
theorem mw_1386 : (Jvm.Cond.laysFinal "TaleCourtModel" "TaleCourtModel" "width" "[I") ∈ tbG := mt_6 (List.mem_of_getElem? (i := 73) (by decide +kernel)) rfl
theorem mw_1388 : (Jvm.Cond.laysFinal "TaleCourtModel" "TaleCourtModel" "many" "[I") ∈ tbG := mt_6 (List.mem_of_getElem? (i := 75) (by decide +kernel)) rfl
theorem mw_1390 : (Jvm.Cond.laysFinal "TaleCourtModel" "TaleCourtModel" "cells" "[J") ∈ tbG := mt_6 (List.mem_of_getElem? (i := 77) (by decide +kernel)) rfl
theorem mw_1392 : (Jvm.Cond.laysFinal "TaleCourtModel" "TaleCourtModel" "moved" "[J") ∈ tbG := mt_6 (List.mem_of_getElem? (i := 79) (by decide +kernel)) rfl
theorem mw_1394 : (Jvm.Cond.laysFinal "TaleCourtModel" "TaleCourtModel" "tape" "[B") ∈ tbG := mt_6 (List.mem_of_getElem? (i := 81) (by decide +kernel)) rfl
theorem mw_1396 : (Jvm.Cond.lays "TaleCourtModel" "TaleCourtModel" "taped" "I") ∈ tbG := mt_6 (List.mem_of_getElem? (i := 83) (by decide +kernel)) rfl
theorem mw_1398 : (Jvm.Cond.lays "TaleCourtModel" "TaleCourtModel" "at" "I") ∈ tbG := mt_6 (List.mem_of_getElem? (i := 85) (by decide +kernel)) rfl
theorem mw_1400 : (Jvm.Cond.lays "TaleCourtModel" "TaleCourtModel" "token" "I") ∈ tbG := mt_6 (List.mem_of_getElem? (i := 87) (by decide +kernel)) rfl
theorem mw_1402 : (Jvm.Cond.lays "TaleCourtModel" "TaleCourtModel" "place" "I") ∈ tbG := mt_6 (List.mem_of_getElem? (i := 89) (by decide +kernel)) rfl
theorem mw_1404 : (Jvm.Cond.lays "TaleCourtModel" "TaleCourtModel" "value" "I") ∈ tbG := mt_6 (List.mem_of_getElem? (i := 91) (by decide +kernel)) rfl
theorem mw_1406 : (Jvm.Cond.lays "TaleCourtModel" "TaleCourtModel" "word" "J") ∈ tbG := mt_6 (List.mem_of_getElem? (i := 93) (by decide +kernel)) rfl
theorem mw_1408 : (Jvm.Cond.lays "TaleCourtModel" "TaleCourtModel" "bad" "I") ∈ tbG := mt_6 (List.mem_of_getElem? (i := 95) (by decide +kernel)) rfl
theorem mw_1410 : (Jvm.Cond.lays "TaleCourtModel" "TaleCourtModel" "badPlace" "I") ∈ tbG := mt_6 (List.mem_of_getElem? (i := 97) (by decide +kernel)) rfl
theorem mw_1412 : (Jvm.Cond.lays "TaleCourtModel" "TaleCourtModel" "fault" "I") ∈ tbG := mt_6 (List.mem_of_getElem? (i := 99) (by decide +kernel)) rfl
theorem mw_1414 : (Jvm.Cond.lays "TaleCourtModel" "TaleCourtModel" "faultPlace" "I") ∈ tbG := mt_6 (List.mem_of_getElem? (i := 101) (by decide +kernel)) rfl
theorem mw_1416 : (Jvm.Cond.laysFinal "TaleCourtModel" "TaleCourtModel" "lines" "[I") ∈ tbG := mt_6 (List.mem_of_getElem? (i := 103) (by decide +kernel)) rfl
theorem mw_1418 : (Jvm.Cond.laysFinal "TaleCourtModel" "TaleCourtModel" "has" "[I") ∈ tbG := mt_6 (List.mem_of_getElem? (i := 105) (by decide +kernel)) rfl
theorem mw_1420 : (Jvm.Cond.laysFinal "TaleCourtModel" "TaleCourtModel" "motif" "[I") ∈ tbG := mt_6 (List.mem_of_getElem? (i := 107) (by decide +kernel)) rfl
theorem mw_1422 : (Jvm.Cond.laysFinal "TaleCourtModel" "TaleCourtModel" "listener" "[I") ∈ tbG := mt_6 (List.mem_of_getElem? (i := 109) (by decide +kernel)) rfl
theorem mw_1424 : (Jvm.Cond.laysFinal "TaleCourtModel" "TaleCourtModel" "turn" "[I") ∈ tbG := mt_6 (List.mem_of_getElem? (i := 111) (by decide +kernel)) rfl
theorem mw_1426 : (Jvm.Cond.laysFinal "TaleCourtModel" "TaleCourtModel" "isKept" "[Z") ∈ tbG := mt_6 (List.mem_of_getElem? (i := 113) (by decide +kernel)) rfl
theorem mw_1428 : (Jvm.Cond.laysFinal "TaleCourtModel" "TaleCourtModel" "now" "[I") ∈ tbG := mt_6 (List.mem_of_getElem? (i := 115) (by decide +kernel)) rfl
theorem mw_1430 : (Jvm.Cond.laysFinal "TaleCourtModel" "TaleCourtModel" "when" "[I") ∈ tbG := mt_6 (List.mem_of_getElem? (i := 117) (by decide +kernel)) rfl
theorem mw_1432 : (Jvm.Cond.lays "TaleCourtModel" "TaleCourtModel" "turns" "I") ∈ tbG := mt_6 (List.mem_of_getElem? (i := 119) (by decide +kernel)) rfl
theorem mw_1434 : (Jvm.Cond.lays "TaleCourtModel" "TaleCourtModel" "told" "I") ∈ tbG := mt_6 (List.mem_of_getElem? (i := 121) (by decide +kernel)) rfl
theorem mw_1436 : (Jvm.Cond.lays "TaleCourtModel" "TaleCourtModel" "latest" "I") ∈ tbG := mt_6 (List.mem_of_getElem? (i := 123) (by decide +kernel)) rfl
theorem mw_1438 : (Jvm.Cond.lays "TaleCourtModel" "TaleCourtModel" "sum" "I") ∈ tbG := mt_6 (List.mem_of_getElem? (i := 125) (by decide +kernel)) rfl
theorem mw_1440 : (Jvm.Cond.laysFinal "TaleCourtModel" "TaleCourtModel" "silences" "[I") ∈ tbG := mt_6 (List.mem_of_getElem? (i := 127) (by decide +kernel)) rfl
theorem mw_1442 : (Jvm.Cond.lays "TaleCourtModel" "TaleCourtModel" "asked" "I") ∈ tbG := mt_6 (List.mem_of_getElem? (i := 129) (by decide +kernel)) rfl
theorem mw_1444 : (Jvm.Cond.lays "TaleCourtModel" "TaleCourtModel" "floor" "I") ∈ tbG := mt_6 (List.mem_of_getElem? (i := 131) (by decide +kernel)) rfl
theorem mw_1446 : (Jvm.Cond.lays "TaleCourtModel" "TaleCourtModel" "from" "I") ∈ tbG := mt_6 (List.mem_of_getElem? (i := 133) (by decide +kernel)) rfl
theorem mw_1448 : (Jvm.Cond.lays "TaleCourtModel" "TaleCourtModel" "most" "I") ∈ tbG := mt_6 (List.mem_of_getElem? (i := 135) (by decide +kernel)) rfl
theorem mw_1450 : (Jvm.Cond.lays "TaleCourtModel" "TaleCourtModel" "bestMany" "I") ∈ tbG := mt_6 (List.mem_of_getElem? (i := 137) (by decide +kernel)) rfl
theorem mw_1452 : (Jvm.Cond.laysFinal "TaleCourtModel" "TaleCourtModel" "best" "[I") ∈ tbG := mt_6 (List.mem_of_getElem? (i := 139) (by decide +kernel)) rfl
theorem mw_1454 : (Jvm.Cond.laysFinal "TaleCourtModel" "TaleCourtModel" "rowsOf" "[I") ∈ tbG := mt_6 (List.mem_of_getElem? (i := 141) (by decide +kernel)) rfl
theorem mw_1456 : (Jvm.Cond.laysFinal "TaleCourtModel" "TaleCourtModel" "endsOf" "[I") ∈ tbG := mt_6 (List.mem_of_getElem? (i := 143) (by decide +kernel)) rfl
theorem mw_1458 : (Jvm.Cond.lays "TaleCourtModel" "TaleCourtModel" "wholeMany" "I") ∈ tbG := mt_6 (List.mem_of_getElem? (i := 145) (by decide +kernel)) rfl
theorem mw_1460 : (Jvm.Cond.lays "TaleCourtModel" "TaleCourtModel" "inAll" "I") ∈ tbG := mt_6 (List.mem_of_getElem? (i := 147) (by decide +kernel)) rfl
theorem mw_1462 : (Jvm.Cond.lays "TaleCourtModel" "TaleCourtModel" "inSome" "I") ∈ tbG := mt_6 (List.mem_of_getElem? (i := 149) (by decide +kernel)) rfl
theorem mw_1464 : (Jvm.Cond.lays "TaleCourtModel" "TaleCourtModel" "fitMany" "I") ∈ tbG := mt_6 (List.mem_of_getElem? (i := 151) (by decide +kernel)) rfl
theorem mw_1466 : (Jvm.Cond.lays "TaleCourtModel" "TaleCourtModel" "fitSlot" "I") ∈ tbG := mt_6 (List.mem_of_getElem? (i := 153) (by decide +kernel)) rfl
theorem mw_1468 : (Jvm.Cond.lays "TaleCourtModel" "TaleCourtModel" "barred" "I") ∈ tbG := mt_6 (List.mem_of_getElem? (i := 155) (by decide +kernel)) rfl
theorem mw_1470 : (Jvm.Cond.laysFinal "TaleCourtModel" "TaleCourtModel" "outcome" "[I") ∈ tbG := mt_6 (List.mem_of_getElem? (i := 157) (by decide +kernel)) rfl
theorem mw_1472 : (Jvm.Cond.lays "TaleCourtModel" "TaleCourtModel" "leftFirst" "I") ∈ tbG := mt_6 (List.mem_of_getElem? (i := 159) (by decide +kernel)) rfl
theorem mw_1474 : (Jvm.Cond.lays "TaleCourtModel" "TaleCourtModel" "leftSecond" "I") ∈ tbG := mt_6 (List.mem_of_getElem? (i := 161) (by decide +kernel)) rfl
theorem mw_1476 : (Jvm.Cond.lays "TaleCourtModel" "TaleCourtModel" "verdictOf" "I") ∈ tbG := mt_6 (List.mem_of_getElem? (i := 163) (by decide +kernel)) rfl
theorem mw_1478 : (Jvm.Cond.laysFinal "TaleCourtModel" "TaleCourtModel" "untrue" "[I") ∈ tbG := mt_6 (List.mem_of_getElem? (i := 165) (by decide +kernel)) rfl
theorem mw_1480 : (Jvm.Cond.laysFinal "TaleCourtModel" "TaleCourtModel" "ordersOf" "[I") ∈ tbG := mt_6 (List.mem_of_getElem? (i := 167) (by decide +kernel)) rfl
theorem mw_1482 : (Jvm.Cond.lays "TaleCourtModel" "TaleCourtModel" "drawnFrom" "I") ∈ tbG := mt_6 (List.mem_of_getElem? (i := 169) (by decide +kernel)) rfl
theorem mw_1485 : (Jvm.Cond.arrayClass Jvm.ClassFile.FieldType.boolean) ∈ tbG := mt_6 (List.mem_of_getElem? (i := 172) (by decide +kernel)) rfl
theorem mw_1486 : (Jvm.Cond.methodLink "TaleCourtLaw" (281 : Nat) ({ cls := "TaleCourtModel", name := "row", desc := "(III)I" } : Jvm.MethodName)) ∈ tbG := mt_6 (List.mem_of_getElem? (i := 173) (by decide +kernel)) rfl
theorem mw_1487 : (Jvm.Cond.instanceMethod ({ cls := "TaleCourtModel", name := "row", desc := "(III)I" } : Jvm.MethodName)) ∈ tbG := mt_6 (List.mem_of_getElem? (i := 174) (by decide +kernel)) rfl
theorem mw_1488 : (Jvm.Cond.selects "TaleCourtModel" ({ cls := "TaleCourtModel", name := "row", desc := "(III)I" } : Jvm.MethodName) ({ cls := "TaleCourtModel", name := "row", desc := "(III)I" } : Jvm.MethodName)) ∈ tbG := mt_6 (List.mem_of_getElem? (i := 175) (by decide +kernel)) rfl
theorem mw_1489 : (Jvm.Cond.code ({ cls := "TaleCourtModel", name := "row", desc := "(III)I" } : Jvm.MethodName) prog_11_method_5_code (5 : Nat) (Option.some Jvm.ClassFile.FieldType.int)) ∈ tbG := mt_6 (List.mem_of_getElem? (i := 176) (by decide +kernel)) rfl
theorem mw_1490 : (Jvm.Cond.methodLink "TaleCourtModel" (90 : Nat) ({ cls := "TaleCourtModel", name := "isSlot", desc := "(I)Z" } : Jvm.MethodName)) ∈ tbG := mt_6 (List.mem_of_getElem? (i := 177) (by decide +kernel)) rfl
theorem mw_1491 : (Jvm.Cond.static ({ cls := "TaleCourtModel", name := "isSlot", desc := "(I)Z" } : Jvm.MethodName)) ∈ tbG := mt_6 (List.mem_of_getElem? (i := 178) (by decide +kernel)) rfl
theorem mw_1492 : (Jvm.Cond.code ({ cls := "TaleCourtModel", name := "isSlot", desc := "(I)Z" } : Jvm.MethodName) prog_11_method_4_code (1 : Nat) (Option.some Jvm.ClassFile.FieldType.boolean)) ∈ tbG := mt_6 (List.mem_of_getElem? (i := 179) (by decide +kernel)) rfl
theorem mw_1493 : (Jvm.Cond.constantLong "TaleCourtModel" (84 : Nat) (3 : Int64)) ∈ tbG := mt_6 (List.mem_of_getElem? (i := 180) (by decide +kernel)) rfl
theorem mw_1494 : (Jvm.Cond.methodLink "TaleCourtModel" (86 : Nat) ({ cls := "TaleCourtModel", name := "in", desc := "(JJJ)Z" } : Jvm.MethodName)) ∈ tbG := mt_6 (List.mem_of_getElem? (i := 181) (by decide +kernel)) rfl
theorem mw_1495 : (Jvm.Cond.static ({ cls := "TaleCourtModel", name := "in", desc := "(JJJ)Z" } : Jvm.MethodName)) ∈ tbG := mt_6 (List.mem_of_getElem? (i := 182) (by decide +kernel)) rfl
theorem mw_1496 : (Jvm.Cond.code ({ cls := "TaleCourtModel", name := "in", desc := "(JJJ)Z" } : Jvm.MethodName) prog_11_method_3_code (6 : Nat) (Option.some Jvm.ClassFile.FieldType.boolean)) ∈ tbG := mt_6 (List.mem_of_getElem? (i := 183) (by decide +kernel)) rfl
theorem mw_1497 : (Jvm.Cond.methodLink "TaleCourtLaw" (288 : Nat) ({ cls := "TaleCourtModel", name := "write", desc := "(IIJ)I" } : Jvm.MethodName)) ∈ tbG := mt_6 (List.mem_of_getElem? (i := 184) (by decide +kernel)) rfl
theorem mw_1498 : (Jvm.Cond.instanceMethod ({ cls := "TaleCourtModel", name := "write", desc := "(IIJ)I" } : Jvm.MethodName)) ∈ tbG := mt_6 (List.mem_of_getElem? (i := 185) (by decide +kernel)) rfl
theorem mw_1499 : (Jvm.Cond.selects "TaleCourtModel" ({ cls := "TaleCourtModel", name := "write", desc := "(IIJ)I" } : Jvm.MethodName) ({ cls := "TaleCourtModel", name := "write", desc := "(IIJ)I" } : Jvm.MethodName)) ∈ tbG := mt_6 (List.mem_of_getElem? (i := 186) (by decide +kernel)) rfl
theorem mw_1500 : (Jvm.Cond.code ({ cls := "TaleCourtModel", name := "write", desc := "(IIJ)I" } : Jvm.MethodName) prog_11_method_7_code (5 : Nat) (Option.some Jvm.ClassFile.FieldType.int)) ∈ tbG := mt_6 (List.mem_of_getElem? (i := 187) (by decide +kernel)) rfl
theorem mw_1501 : (Jvm.Cond.methodLink "TaleCourtModel" (94 : Nat) ({ cls := "TaleCourtModel", name := "cut", desc := "(JI)J" } : Jvm.MethodName)) ∈ tbG := mt_6 (List.mem_of_getElem? (i := 188) (by decide +kernel)) rfl
theorem mw_1502 : (Jvm.Cond.static ({ cls := "TaleCourtModel", name := "cut", desc := "(JI)J" } : Jvm.MethodName)) ∈ tbG := mt_6 (List.mem_of_getElem? (i := 189) (by decide +kernel)) rfl
theorem mw_1503 : (Jvm.Cond.code ({ cls := "TaleCourtModel", name := "cut", desc := "(JI)J" } : Jvm.MethodName) prog_11_method_6_code (3 : Nat) (Option.some Jvm.ClassFile.FieldType.long)) ∈ tbG := mt_6 (List.mem_of_getElem? (i := 190) (by decide +kernel)) rfl
theorem mw_1504 : (Jvm.Cond.methodLink "TaleCourtLaw" (292 : Nat) ({ cls := "TaleCourtModel", name := "paste", desc := "(IIIII)I" } : Jvm.MethodName)) ∈ tbG := mt_6 (List.mem_of_getElem? (i := 191) (by decide +kernel)) rfl
theorem mw_1505 : (Jvm.Cond.instanceMethod ({ cls := "TaleCourtModel", name := "paste", desc := "(IIIII)I" } : Jvm.MethodName)) ∈ tbG := mt_6 (List.mem_of_getElem? (i := 192) (by decide +kernel)) rfl
theorem mw_1506 : (Jvm.Cond.selects "TaleCourtModel" ({ cls := "TaleCourtModel", name := "paste", desc := "(IIIII)I" } : Jvm.MethodName) ({ cls := "TaleCourtModel", name := "paste", desc := "(IIIII)I" } : Jvm.MethodName)) ∈ tbG := mt_6 (List.mem_of_getElem? (i := 193) (by decide +kernel)) rfl
theorem mw_1507 : (Jvm.Cond.code ({ cls := "TaleCourtModel", name := "paste", desc := "(IIIII)I" } : Jvm.MethodName) prog_11_method_8_code (7 : Nat) (Option.some Jvm.ClassFile.FieldType.int)) ∈ tbG := mt_6 (List.mem_of_getElem? (i := 194) (by decide +kernel)) rfl
theorem mw_1508 : (Jvm.Cond.methodLink "TaleCourtLaw" (17 : Nat) ({ cls := "TaleCourtModel", name := "feed", desc := "(IIIII)I" } : Jvm.MethodName)) ∈ tbG := mt_6 (List.mem_of_getElem? (i := 195) (by decide +kernel)) rfl
theorem mw_1509 : (Jvm.Cond.instanceMethod ({ cls := "TaleCourtModel", name := "feed", desc := "(IIIII)I" } : Jvm.MethodName)) ∈ tbG := mt_6 (List.mem_of_getElem? (i := 196) (by decide +kernel)) rfl
theorem mw_1510 : (Jvm.Cond.selects "TaleCourtModel" ({ cls := "TaleCourtModel", name := "feed", desc := "(IIIII)I" } : Jvm.MethodName) ({ cls := "TaleCourtModel", name := "feed", desc := "(IIIII)I" } : Jvm.MethodName)) ∈ tbG := mt_6 (List.mem_of_getElem? (i := 197) (by decide +kernel)) rfl
theorem mw_1511 : (Jvm.Cond.code ({ cls := "TaleCourtModel", name := "feed", desc := "(IIIII)I" } : Jvm.MethodName) prog_11_method_9_code (6 : Nat) (Option.some Jvm.ClassFile.FieldType.int)) ∈ tbG := mt_6 (List.mem_of_getElem? (i := 198) (by decide +kernel)) rfl
theorem mw_1512 : (Jvm.Cond.methodLink "TaleCourtModel" (101 : Nat) ({ cls := "TaleCourtModel", name := "four", desc := "(I)V" } : Jvm.MethodName)) ∈ tbG := mt_6 (List.mem_of_getElem? (i := 199) (by decide +kernel)) rfl
theorem mw_1514 : (Jvm.Cond.instanceMethod ({ cls := "TaleCourtModel", name := "four", desc := "(I)V" } : Jvm.MethodName)) ∈ tbG := mt_6 (List.mem_of_getElem? (i := 201) (by decide +kernel)) rfl
theorem mw_1515 : (Jvm.Cond.code ({ cls := "TaleCourtModel", name := "four", desc := "(I)V" } : Jvm.MethodName) prog_11_method_10_code (3 : Nat) (Option.none : Option Jvm.ClassFile.FieldType)) ∈ tbG := mt_6 (List.mem_of_getElem? (i := 202) (by decide +kernel)) rfl
theorem mw_1516 : (Jvm.Cond.methodLink "TaleCourtLaw" (22 : Nat) ({ cls := "TaleCourtModel", name := "end", desc := "(I)I" } : Jvm.MethodName)) ∈ tbG := mt_6 (List.mem_of_getElem? (i := 203) (by decide +kernel)) rfl
theorem mw_1517 : (Jvm.Cond.instanceMethod ({ cls := "TaleCourtModel", name := "end", desc := "(I)I" } : Jvm.MethodName)) ∈ tbG := mt_6 (List.mem_of_getElem? (i := 204) (by decide +kernel)) rfl
theorem mw_1518 : (Jvm.Cond.selects "TaleCourtModel" ({ cls := "TaleCourtModel", name := "end", desc := "(I)I" } : Jvm.MethodName) ({ cls := "TaleCourtModel", name := "end", desc := "(I)I" } : Jvm.MethodName)) ∈ tbG := mt_6 (List.mem_of_getElem? (i := 205) (by decide +kernel)) rfl
theorem mw_1519 : (Jvm.Cond.code ({ cls := "TaleCourtModel", name := "end", desc := "(I)I" } : Jvm.MethodName) prog_11_method_11_code (2 : Nat) (Option.some Jvm.ClassFile.FieldType.int)) ∈ tbG := mt_6 (List.mem_of_getElem? (i := 206) (by decide +kernel)) rfl
theorem mw_1520 : (Jvm.Cond.methodLink "TaleCourtLaw" (31 : Nat) ({ cls := "TaleCourtModel", name := "fault", desc := "(I)I" } : Jvm.MethodName)) ∈ tbG := mt_6 (List.mem_of_getElem? (i := 207) (by decide +kernel)) rfl
theorem mw_1521 : (Jvm.Cond.instanceMethod ({ cls := "TaleCourtModel", name := "fault", desc := "(I)I" } : Jvm.MethodName)) ∈ tbG := mt_6 (List.mem_of_getElem? (i := 208) (by decide +kernel)) rfl
theorem mw_1522 : (Jvm.Cond.selects "TaleCourtModel" ({ cls := "TaleCourtModel", name := "fault", desc := "(I)I" } : Jvm.MethodName) ({ cls := "TaleCourtModel", name := "fault", desc := "(I)I" } : Jvm.MethodName)) ∈ tbG := mt_6 (List.mem_of_getElem? (i := 209) (by decide +kernel)) rfl
theorem mw_1523 : (Jvm.Cond.code ({ cls := "TaleCourtModel", name := "fault", desc := "(I)I" } : Jvm.MethodName) prog_11_method_24_code (2 : Nat) (Option.some Jvm.ClassFile.FieldType.int)) ∈ tbG := mt_6 (List.mem_of_getElem? (i := 210) (by decide +kernel)) rfl
theorem mw_1524 : (Jvm.Cond.methodLink "TaleCourtLaw" (27 : Nat) ({ cls := "TaleCourtModel", name := "court", desc := "()I" } : Jvm.MethodName)) ∈ tbG := mt_6 (List.mem_of_getElem? (i := 211) (by decide +kernel)) rfl
theorem mw_1525 : (Jvm.Cond.instanceMethod ({ cls := "TaleCourtModel", name := "court", desc := "()I" } : Jvm.MethodName)) ∈ tbG := mt_6 (List.mem_of_getElem? (i := 212) (by decide +kernel)) rfl
theorem mw_1526 : (Jvm.Cond.selects "TaleCourtModel" ({ cls := "TaleCourtModel", name := "court", desc := "()I" } : Jvm.MethodName) ({ cls := "TaleCourtModel", name := "court", desc := "()I" } : Jvm.MethodName)) ∈ tbG := mt_6 (List.mem_of_getElem? (i := 213) (by decide +kernel)) rfl
theorem mw_1527 : (Jvm.Cond.code ({ cls := "TaleCourtModel", name := "court", desc := "()I" } : Jvm.MethodName) prog_11_method_33_code (1 : Nat) (Option.some Jvm.ClassFile.FieldType.int)) ∈ tbG := mt_6 (List.mem_of_getElem? (i := 214) (by decide +kernel)) rfl
theorem mw_1528 : (Jvm.Cond.methodLink "TaleCourtModel" (221 : Nat) ({ cls := "TaleCourtModel", name := "clears", desc := "()V" } : Jvm.MethodName)) ∈ tbG := mt_6 (List.mem_of_getElem? (i := 215) (by decide +kernel)) rfl
theorem mw_1530 : (Jvm.Cond.instanceMethod ({ cls := "TaleCourtModel", name := "clears", desc := "()V" } : Jvm.MethodName)) ∈ tbG := mt_6 (List.mem_of_getElem? (i := 217) (by decide +kernel)) rfl
theorem mw_1531 : (Jvm.Cond.code ({ cls := "TaleCourtModel", name := "clears", desc := "()V" } : Jvm.MethodName) prog_11_method_32_code (2 : Nat) (Option.none : Option Jvm.ClassFile.FieldType)) ∈ tbG := mt_6 (List.mem_of_getElem? (i := 218) (by decide +kernel)) rfl
theorem mw_1532 : (Jvm.Cond.methodLink "TaleCourtModel" (224 : Nat) ({ cls := "TaleCourtModel", name := "begins", desc := "()V" } : Jvm.MethodName)) ∈ tbG := mt_6 (List.mem_of_getElem? (i := 219) (by decide +kernel)) rfl
theorem mw_1534 : (Jvm.Cond.instanceMethod ({ cls := "TaleCourtModel", name := "begins", desc := "()V" } : Jvm.MethodName)) ∈ tbG := mt_6 (List.mem_of_getElem? (i := 221) (by decide +kernel)) rfl
theorem mw_1535 : (Jvm.Cond.code ({ cls := "TaleCourtModel", name := "begins", desc := "()V" } : Jvm.MethodName) prog_11_method_22_code (1 : Nat) (Option.none : Option Jvm.ClassFile.FieldType)) ∈ tbG := mt_6 (List.mem_of_getElem? (i := 222) (by decide +kernel)) rfl
theorem mw_1536 : (Jvm.Cond.methodLink "TaleCourtModel" (143 : Nat) ({ cls := "TaleCourtModel", name := "next", desc := "()V" } : Jvm.MethodName)) ∈ tbG := mt_6 (List.mem_of_getElem? (i := 223) (by decide +kernel)) rfl
theorem mw_1538 : (Jvm.Cond.instanceMethod ({ cls := "TaleCourtModel", name := "next", desc := "()V" } : Jvm.MethodName)) ∈ tbG := mt_6 (List.mem_of_getElem? (i := 225) (by decide +kernel)) rfl
theorem mw_1539 : (Jvm.Cond.code ({ cls := "TaleCourtModel", name := "next", desc := "()V" } : Jvm.MethodName) prog_11_method_13_code (2 : Nat) (Option.none : Option Jvm.ClassFile.FieldType)) ∈ tbG := mt_6 (List.mem_of_getElem? (i := 226) (by decide +kernel)) rfl
theorem mw_1540 : (Jvm.Cond.methodLink "TaleCourtModel" (108 : Nat) ({ cls := "TaleCourtModel", name := "isByte", desc := "(III)Z" } : Jvm.MethodName)) ∈ tbG := mt_6 (List.mem_of_getElem? (i := 227) (by decide +kernel)) rfl
theorem mw_1542 : (Jvm.Cond.instanceMethod ({ cls := "TaleCourtModel", name := "isByte", desc := "(III)Z" } : Jvm.MethodName)) ∈ tbG := mt_6 (List.mem_of_getElem? (i := 229) (by decide +kernel)) rfl
theorem mw_1543 : (Jvm.Cond.code ({ cls := "TaleCourtModel", name := "isByte", desc := "(III)Z" } : Jvm.MethodName) prog_11_method_12_code (4 : Nat) (Option.some Jvm.ClassFile.FieldType.boolean)) ∈ tbG := mt_6 (List.mem_of_getElem? (i := 230) (by decide +kernel)) rfl
theorem mw_1544 : (Jvm.Cond.constantLong "TaleCourtModel" (125 : Nat) (-1 : Int64)) ∈ tbG := mt_6 (List.mem_of_getElem? (i := 231) (by decide +kernel)) rfl
theorem mw_1545 : (Jvm.Cond.constantLong "TaleCourtModel" (127 : Nat) (27 : Int64)) ∈ tbG := mt_6 (List.mem_of_getElem? (i := 232) (by decide +kernel)) rfl
theorem mw_1546 : (Jvm.Cond.constantLong "TaleCourtModel" (129 : Nat) (96 : Int64)) ∈ tbG := mt_6 (List.mem_of_getElem? (i := 233) (by decide +kernel)) rfl
theorem mw_1547 : (Jvm.Cond.constant "TaleCourtModel" (131 : Nat) (100000 : Int32)) ∈ tbG := mt_6 (List.mem_of_getElem? (i := 234) (by decide +kernel)) rfl
theorem mw_1548 : (Jvm.Cond.constant "TaleCourtModel" (132 : Nat) (1000000 : Int32)) ∈ tbG := mt_6 (List.mem_of_getElem? (i := 235) (by decide +kernel)) rfl
theorem mw_1549 : (Jvm.Cond.methodLink "TaleCourtModel" (175 : Nat) ({ cls := "TaleCourtModel", name := "isGood", desc := "()Z" } : Jvm.MethodName)) ∈ tbG := mt_6 (List.mem_of_getElem? (i := 236) (by decide +kernel)) rfl
theorem mw_1551 : (Jvm.Cond.instanceMethod ({ cls := "TaleCourtModel", name := "isGood", desc := "()Z" } : Jvm.MethodName)) ∈ tbG := mt_6 (List.mem_of_getElem? (i := 238) (by decide +kernel)) rfl
theorem mw_1552 : (Jvm.Cond.code ({ cls := "TaleCourtModel", name := "isGood", desc := "()Z" } : Jvm.MethodName) prog_11_method_14_code (1 : Nat) (Option.some Jvm.ClassFile.FieldType.boolean)) ∈ tbG := mt_6 (List.mem_of_getElem? (i := 239) (by decide +kernel)) rfl
theorem mw_1553 : (Jvm.Cond.constantLong "TaleCourtModel" (227 : Nat) (1905383 : Int64)) ∈ tbG := mt_7 (List.mem_of_getElem? (i := 0) (by decide +kernel)) rfl
theorem mw_1554 : (Jvm.Cond.methodLink "TaleCourtModel" (152 : Nat) ({ cls := "TaleCourtModel", name := "asks", desc := "(J)V" } : Jvm.MethodName)) ∈ tbG := mt_7 (List.mem_of_getElem? (i := 1) (by decide +kernel)) rfl
theorem mw_1556 : (Jvm.Cond.instanceMethod ({ cls := "TaleCourtModel", name := "asks", desc := "(J)V" } : Jvm.MethodName)) ∈ tbG := mt_7 (List.mem_of_getElem? (i := 3) (by decide +kernel)) rfl
theorem mw_1557 : (Jvm.Cond.code ({ cls := "TaleCourtModel", name := "asks", desc := "(J)V" } : Jvm.MethodName) prog_11_method_18_code (3 : Nat) (Option.none : Option Jvm.ClassFile.FieldType)) ∈ tbG := mt_7 (List.mem_of_getElem? (i := 4) (by decide +kernel)) rfl
theorem mw_1558 : (Jvm.Cond.methodLink "TaleCourtModel" (146 : Nat) ({ cls := "TaleCourtModel", name := "takes", desc := "(J)Z" } : Jvm.MethodName)) ∈ tbG := mt_7 (List.mem_of_getElem? (i := 5) (by decide +kernel)) rfl
theorem mw_1560 : (Jvm.Cond.instanceMethod ({ cls := "TaleCourtModel", name := "takes", desc := "(J)Z" } : Jvm.MethodName)) ∈ tbG := mt_7 (List.mem_of_getElem? (i := 7) (by decide +kernel)) rfl
theorem mw_1561 : (Jvm.Cond.code ({ cls := "TaleCourtModel", name := "takes", desc := "(J)Z" } : Jvm.MethodName) prog_11_method_17_code (3 : Nat) (Option.some Jvm.ClassFile.FieldType.boolean)) ∈ tbG := mt_7 (List.mem_of_getElem? (i := 8) (by decide +kernel)) rfl
theorem mw_1562 : (Jvm.Cond.methodLink "TaleCourtModel" (139 : Nat) ({ cls := "TaleCourtModel", name := "is", desc := "(J)Z" } : Jvm.MethodName)) ∈ tbG := mt_7 (List.mem_of_getElem? (i := 9) (by decide +kernel)) rfl
theorem mw_1564 : (Jvm.Cond.instanceMethod ({ cls := "TaleCourtModel", name := "is", desc := "(J)Z" } : Jvm.MethodName)) ∈ tbG := mt_7 (List.mem_of_getElem? (i := 11) (by decide +kernel)) rfl
theorem mw_1565 : (Jvm.Cond.code ({ cls := "TaleCourtModel", name := "is", desc := "(J)Z" } : Jvm.MethodName) prog_11_method_16_code (3 : Nat) (Option.some Jvm.ClassFile.FieldType.boolean)) ∈ tbG := mt_7 (List.mem_of_getElem? (i := 12) (by decide +kernel)) rfl
theorem mw_1566 : (Jvm.Cond.methodLink "TaleCourtModel" (149 : Nat) ({ cls := "TaleCourtModel", name := "fails", desc := "(I)V" } : Jvm.MethodName)) ∈ tbG := mt_7 (List.mem_of_getElem? (i := 13) (by decide +kernel)) rfl
theorem mw_1568 : (Jvm.Cond.instanceMethod ({ cls := "TaleCourtModel", name := "fails", desc := "(I)V" } : Jvm.MethodName)) ∈ tbG := mt_7 (List.mem_of_getElem? (i := 15) (by decide +kernel)) rfl
theorem mw_1569 : (Jvm.Cond.code ({ cls := "TaleCourtModel", name := "fails", desc := "(I)V" } : Jvm.MethodName) prog_11_method_15_code (2 : Nat) (Option.none : Option Jvm.ClassFile.FieldType)) ∈ tbG := mt_7 (List.mem_of_getElem? (i := 16) (by decide +kernel)) rfl
theorem mw_1570 : (Jvm.Cond.constantLong "TaleCourtModel" (229 : Nat) (7826771953 : Int64)) ∈ tbG := mt_7 (List.mem_of_getElem? (i := 17) (by decide +kernel)) rfl
theorem mw_1571 : (Jvm.Cond.methodLink "TaleCourtModel" (172 : Nat) ({ cls := "TaleCourtModel", name := "number", desc := "(JII)I" } : Jvm.MethodName)) ∈ tbG := mt_7 (List.mem_of_getElem? (i := 18) (by decide +kernel)) rfl
theorem mw_1573 : (Jvm.Cond.instanceMethod ({ cls := "TaleCourtModel", name := "number", desc := "(JII)I" } : Jvm.MethodName)) ∈ tbG := mt_7 (List.mem_of_getElem? (i := 20) (by decide +kernel)) rfl
theorem mw_1574 : (Jvm.Cond.code ({ cls := "TaleCourtModel", name := "number", desc := "(JII)I" } : Jvm.MethodName) prog_11_method_20_code (5 : Nat) (Option.some Jvm.ClassFile.FieldType.int)) ∈ tbG := mt_7 (List.mem_of_getElem? (i := 21) (by decide +kernel)) rfl
theorem mw_1575 : (Jvm.Cond.methodLink "TaleCourtModel" (156 : Nat) ({ cls := "TaleCourtModel", name := "number", desc := "(II)I" } : Jvm.MethodName)) ∈ tbG := mt_7 (List.mem_of_getElem? (i := 22) (by decide +kernel)) rfl
theorem mw_1577 : (Jvm.Cond.instanceMethod ({ cls := "TaleCourtModel", name := "number", desc := "(II)I" } : Jvm.MethodName)) ∈ tbG := mt_7 (List.mem_of_getElem? (i := 24) (by decide +kernel)) rfl
theorem mw_1578 : (Jvm.Cond.code ({ cls := "TaleCourtModel", name := "number", desc := "(II)I" } : Jvm.MethodName) prog_11_method_19_code (4 : Nat) (Option.some Jvm.ClassFile.FieldType.int)) ∈ tbG := mt_7 (List.mem_of_getElem? (i := 25) (by decide +kernel)) rfl
theorem mw_1579 : (Jvm.Cond.constantLong "TaleCourtModel" (231 : Nat) (277652441 : Int64)) ∈ tbG := mt_7 (List.mem_of_getElem? (i := 26) (by decide +kernel)) rfl
theorem mw_1580 : (Jvm.Cond.methodLink "TaleCourtModel" (233 : Nat) ({ cls := "TaleCourtModel", name := "line", desc := "()V" } : Jvm.MethodName)) ∈ tbG := mt_7 (List.mem_of_getElem? (i := 27) (by decide +kernel)) rfl
theorem mw_1582 : (Jvm.Cond.instanceMethod ({ cls := "TaleCourtModel", name := "line", desc := "()V" } : Jvm.MethodName)) ∈ tbG := mt_7 (List.mem_of_getElem? (i := 29) (by decide +kernel)) rfl
theorem mw_1583 : (Jvm.Cond.code ({ cls := "TaleCourtModel", name := "line", desc := "()V" } : Jvm.MethodName) prog_11_method_31_code (5 : Nat) (Option.none : Option Jvm.ClassFile.FieldType)) ∈ tbG := mt_7 (List.mem_of_getElem? (i := 30) (by decide +kernel)) rfl
theorem mw_1584 : (Jvm.Cond.constantLong "TaleCourtModel" (199 : Nat) (7218807 : Int64)) ∈ tbG := mt_7 (List.mem_of_getElem? (i := 31) (by decide +kernel)) rfl
theorem mw_1585 : (Jvm.Cond.constantLong "TaleCourtModel" (201 : Nat) (129294389664 : Int64)) ∈ tbG := mt_7 (List.mem_of_getElem? (i := 32) (by decide +kernel)) rfl
theorem mw_1586 : (Jvm.Cond.methodLink "TaleCourtModel" (163 : Nat) ({ cls := "TaleCourtModel", name := "hasRead", desc := "(I)I" } : Jvm.MethodName)) ∈ tbG := mt_7 (List.mem_of_getElem? (i := 33) (by decide +kernel)) rfl
theorem mw_1588 : (Jvm.Cond.instanceMethod ({ cls := "TaleCourtModel", name := "hasRead", desc := "(I)I" } : Jvm.MethodName)) ∈ tbG := mt_7 (List.mem_of_getElem? (i := 35) (by decide +kernel)) rfl
theorem mw_1589 : (Jvm.Cond.code ({ cls := "TaleCourtModel", name := "hasRead", desc := "(I)I" } : Jvm.MethodName) prog_11_method_25_code (2 : Nat) (Option.some Jvm.ClassFile.FieldType.int)) ∈ tbG := mt_7 (List.mem_of_getElem? (i := 36) (by decide +kernel)) rfl
theorem mw_1590 : (Jvm.Cond.methodLink "TaleCourtModel" (203 : Nat) ({ cls := "TaleCourtModel", name := "motifLine", desc := "()V" } : Jvm.MethodName)) ∈ tbG := mt_7 (List.mem_of_getElem? (i := 37) (by decide +kernel)) rfl
theorem mw_1592 : (Jvm.Cond.instanceMethod ({ cls := "TaleCourtModel", name := "motifLine", desc := "()V" } : Jvm.MethodName)) ∈ tbG := mt_7 (List.mem_of_getElem? (i := 39) (by decide +kernel)) rfl
theorem mw_1593 : (Jvm.Cond.code ({ cls := "TaleCourtModel", name := "motifLine", desc := "()V" } : Jvm.MethodName) prog_11_method_27_code (4 : Nat) (Option.none : Option Jvm.ClassFile.FieldType)) ∈ tbG := mt_7 (List.mem_of_getElem? (i := 40) (by decide +kernel)) rfl
theorem mw_1594 : (Jvm.Cond.methodLink "TaleCourtModel" (167 : Nat) ({ cls := "TaleCourtModel", name := "placeRead", desc := "(I)I" } : Jvm.MethodName)) ∈ tbG := mt_7 (List.mem_of_getElem? (i := 41) (by decide +kernel)) rfl
theorem mw_1596 : (Jvm.Cond.instanceMethod ({ cls := "TaleCourtModel", name := "placeRead", desc := "(I)I" } : Jvm.MethodName)) ∈ tbG := mt_7 (List.mem_of_getElem? (i := 43) (by decide +kernel)) rfl
theorem mw_1597 : (Jvm.Cond.code ({ cls := "TaleCourtModel", name := "placeRead", desc := "(I)I" } : Jvm.MethodName) prog_11_method_26_code (2 : Nat) (Option.some Jvm.ClassFile.FieldType.int)) ∈ tbG := mt_7 (List.mem_of_getElem? (i := 44) (by decide +kernel)) rfl
theorem mw_1598 : (Jvm.Cond.constantLong "TaleCourtModel" (170 : Nat) (12532058 : Int64)) ∈ tbG := mt_7 (List.mem_of_getElem? (i := 45) (by decide +kernel)) rfl
theorem mw_1599 : (Jvm.Cond.constantLong "TaleCourtModel" (179 : Nat) (8290585 : Int64)) ∈ tbG := mt_7 (List.mem_of_getElem? (i := 46) (by decide +kernel)) rfl
theorem mw_1600 : (Jvm.Cond.constantLong "TaleCourtModel" (181 : Nat) (206754213222 : Int64)) ∈ tbG := mt_7 (List.mem_of_getElem? (i := 47) (by decide +kernel)) rfl
theorem mw_1601 : (Jvm.Cond.constantLong "TaleCourtModel" (183 : Nat) (385297 : Int64)) ∈ tbG := mt_7 (List.mem_of_getElem? (i := 48) (by decide +kernel)) rfl
theorem mw_1602 : (Jvm.Cond.constantLong "TaleCourtModel" (185 : Nat) (312166 : Int64)) ∈ tbG := mt_7 (List.mem_of_getElem? (i := 49) (by decide +kernel)) rfl
theorem mw_1603 : (Jvm.Cond.constantLong "TaleCourtModel" (187 : Nat) (335207579 : Int64)) ∈ tbG := mt_7 (List.mem_of_getElem? (i := 50) (by decide +kernel)) rfl
theorem mw_1604 : (Jvm.Cond.methodLink "TaleCourtModel" (206 : Nat) ({ cls := "TaleCourtModel", name := "listenerLine", desc := "()V" } : Jvm.MethodName)) ∈ tbG := mt_7 (List.mem_of_getElem? (i := 51) (by decide +kernel)) rfl
theorem mw_1606 : (Jvm.Cond.instanceMethod ({ cls := "TaleCourtModel", name := "listenerLine", desc := "()V" } : Jvm.MethodName)) ∈ tbG := mt_7 (List.mem_of_getElem? (i := 53) (by decide +kernel)) rfl
theorem mw_1607 : (Jvm.Cond.code ({ cls := "TaleCourtModel", name := "listenerLine", desc := "()V" } : Jvm.MethodName) prog_11_method_30_code (2 : Nat) (Option.none : Option Jvm.ClassFile.FieldType)) ∈ tbG := mt_7 (List.mem_of_getElem? (i := 54) (by decide +kernel)) rfl
theorem mw_1608 : (Jvm.Cond.constantLong "TaleCourtModel" (197 : Nat) (6688729 : Int64)) ∈ tbG := mt_7 (List.mem_of_getElem? (i := 55) (by decide +kernel)) rfl
theorem mw_1609 : (Jvm.Cond.methodLink "TaleCourtModel" (189 : Nat) ({ cls := "TaleCourtModel", name := "motifHere", desc := "()I" } : Jvm.MethodName)) ∈ tbG := mt_7 (List.mem_of_getElem? (i := 56) (by decide +kernel)) rfl
theorem mw_1611 : (Jvm.Cond.instanceMethod ({ cls := "TaleCourtModel", name := "motifHere", desc := "()I" } : Jvm.MethodName)) ∈ tbG := mt_7 (List.mem_of_getElem? (i := 58) (by decide +kernel)) rfl
theorem mw_1612 : (Jvm.Cond.code ({ cls := "TaleCourtModel", name := "motifHere", desc := "()I" } : Jvm.MethodName) prog_11_method_28_code (1 : Nat) (Option.some Jvm.ClassFile.FieldType.int)) ∈ tbG := mt_7 (List.mem_of_getElem? (i := 59) (by decide +kernel)) rfl
theorem mw_1613 : (Jvm.Cond.constantLong "TaleCourtModel" (209 : Nat) (208022 : Int64)) ∈ tbG := mt_7 (List.mem_of_getElem? (i := 60) (by decide +kernel)) rfl
theorem mw_1614 : (Jvm.Cond.methodLink "TaleCourtModel" (211 : Nat) ({ cls := "TaleCourtModel", name := "pairLine", desc := "(Z)V" } : Jvm.MethodName)) ∈ tbG := mt_7 (List.mem_of_getElem? (i := 61) (by decide +kernel)) rfl
theorem mw_1616 : (Jvm.Cond.instanceMethod ({ cls := "TaleCourtModel", name := "pairLine", desc := "(Z)V" } : Jvm.MethodName)) ∈ tbG := mt_7 (List.mem_of_getElem? (i := 63) (by decide +kernel)) rfl
theorem mw_1617 : (Jvm.Cond.code ({ cls := "TaleCourtModel", name := "pairLine", desc := "(Z)V" } : Jvm.MethodName) prog_11_method_29_code (4 : Nat) (Option.none : Option Jvm.ClassFile.FieldType)) ∈ tbG := mt_7 (List.mem_of_getElem? (i := 64) (by decide +kernel)) rfl
theorem mw_1618 : (Jvm.Cond.constantLong "TaleCourtModel" (193 : Nat) (555 : Int64)) ∈ tbG := mt_7 (List.mem_of_getElem? (i := 65) (by decide +kernel)) rfl
theorem mw_1619 : (Jvm.Cond.constantLong "TaleCourtModel" (195 : Nat) (1111 : Int64)) ∈ tbG := mt_7 (List.mem_of_getElem? (i := 66) (by decide +kernel)) rfl
theorem mw_1620 : (Jvm.Cond.constantLong "TaleCourtModel" (215 : Nat) (1831769 : Int64)) ∈ tbG := mt_7 (List.mem_of_getElem? (i := 67) (by decide +kernel)) rfl
theorem mw_1621 : (Jvm.Cond.constantLong "TaleCourtModel" (217 : Nat) (5948362 : Int64)) ∈ tbG := mt_7 (List.mem_of_getElem? (i := 68) (by decide +kernel)) rfl
theorem mw_1622 : (Jvm.Cond.constantLong "TaleCourtModel" (219 : Nat) (94421056 : Int64)) ∈ tbG := mt_7 (List.mem_of_getElem? (i := 69) (by decide +kernel)) rfl
theorem mw_1623 : (Jvm.Cond.methodLink "TaleCourtModel" (236 : Nat) ({ cls := "TaleCourtModel", name := "ends", desc := "()V" } : Jvm.MethodName)) ∈ tbG := mt_7 (List.mem_of_getElem? (i := 70) (by decide +kernel)) rfl
theorem mw_1625 : (Jvm.Cond.instanceMethod ({ cls := "TaleCourtModel", name := "ends", desc := "()V" } : Jvm.MethodName)) ∈ tbG := mt_7 (List.mem_of_getElem? (i := 72) (by decide +kernel)) rfl
theorem mw_1626 : (Jvm.Cond.code ({ cls := "TaleCourtModel", name := "ends", desc := "()V" } : Jvm.MethodName) prog_11_method_21_code (1 : Nat) (Option.none : Option Jvm.ClassFile.FieldType)) ∈ tbG := mt_7 (List.mem_of_getElem? (i := 73) (by decide +kernel)) rfl
theorem mw_1627 : (Jvm.Cond.methodLink "TaleCourtModel" (239 : Nat) ({ cls := "TaleCourtModel", name := "isOver", desc := "()V" } : Jvm.MethodName)) ∈ tbG := mt_7 (List.mem_of_getElem? (i := 74) (by decide +kernel)) rfl
theorem mw_1629 : (Jvm.Cond.instanceMethod ({ cls := "TaleCourtModel", name := "isOver", desc := "()V" } : Jvm.MethodName)) ∈ tbG := mt_7 (List.mem_of_getElem? (i := 76) (by decide +kernel)) rfl
theorem mw_1630 : (Jvm.Cond.code ({ cls := "TaleCourtModel", name := "isOver", desc := "()V" } : Jvm.MethodName) prog_11_method_23_code (1 : Nat) (Option.none : Option Jvm.ClassFile.FieldType)) ∈ tbG := mt_7 (List.mem_of_getElem? (i := 77) (by decide +kernel)) rfl
theorem mw_1631 : (Jvm.Cond.methodLink "TaleCourtModel" (242 : Nat) ({ cls := "TaleCourtModel", name := "copyCourt", desc := "(II)V" } : Jvm.MethodName)) ∈ tbG := mt_7 (List.mem_of_getElem? (i := 78) (by decide +kernel)) rfl
theorem mw_1633 : (Jvm.Cond.instanceMethod ({ cls := "TaleCourtModel", name := "copyCourt", desc := "(II)V" } : Jvm.MethodName)) ∈ tbG := mt_7 (List.mem_of_getElem? (i := 80) (by decide +kernel)) rfl
theorem mw_1634 : (Jvm.Cond.code ({ cls := "TaleCourtModel", name := "copyCourt", desc := "(II)V" } : Jvm.MethodName) prog_11_method_35_code (3 : Nat) (Option.none : Option Jvm.ClassFile.FieldType)) ∈ tbG := mt_7 (List.mem_of_getElem? (i := 81) (by decide +kernel)) rfl
theorem mw_1635 : (Jvm.Cond.methodLink "TaleCourtModel" (249 : Nat) ({ cls := "TaleCourtModel", name := "copyRow", desc := "([IIII)V" } : Jvm.MethodName)) ∈ tbG := mt_7 (List.mem_of_getElem? (i := 82) (by decide +kernel)) rfl
theorem mw_1636 : (Jvm.Cond.static ({ cls := "TaleCourtModel", name := "copyRow", desc := "([IIII)V" } : Jvm.MethodName)) ∈ tbG := mt_7 (List.mem_of_getElem? (i := 83) (by decide +kernel)) rfl
theorem mw_1637 : (Jvm.Cond.code ({ cls := "TaleCourtModel", name := "copyRow", desc := "([IIII)V" } : Jvm.MethodName) prog_11_method_34_code (5 : Nat) (Option.none : Option Jvm.ClassFile.FieldType)) ∈ tbG := mt_7 (List.mem_of_getElem? (i := 84) (by decide +kernel)) rfl
theorem mw_1638 : (Jvm.Cond.methodLink "TaleCourtModel" (246 : Nat) ({ cls := "TaleCourtModel", name := "lays", desc := "()V" } : Jvm.MethodName)) ∈ tbG := mt_7 (List.mem_of_getElem? (i := 85) (by decide +kernel)) rfl
theorem mw_1640 : (Jvm.Cond.instanceMethod ({ cls := "TaleCourtModel", name := "lays", desc := "()V" } : Jvm.MethodName)) ∈ tbG := mt_7 (List.mem_of_getElem? (i := 87) (by decide +kernel)) rfl
theorem mw_1641 : (Jvm.Cond.code ({ cls := "TaleCourtModel", name := "lays", desc := "()V" } : Jvm.MethodName) prog_11_method_53_code (2 : Nat) (Option.none : Option Jvm.ClassFile.FieldType)) ∈ tbG := mt_7 (List.mem_of_getElem? (i := 88) (by decide +kernel)) rfl
theorem mw_1642 : (Jvm.Cond.methodLink "TaleCourtModel" (280 : Nat) ({ cls := "TaleCourtModel", name := "empties", desc := "()V" } : Jvm.MethodName)) ∈ tbG := mt_7 (List.mem_of_getElem? (i := 89) (by decide +kernel)) rfl
theorem mw_1644 : (Jvm.Cond.instanceMethod ({ cls := "TaleCourtModel", name := "empties", desc := "()V" } : Jvm.MethodName)) ∈ tbG := mt_7 (List.mem_of_getElem? (i := 91) (by decide +kernel)) rfl
theorem mw_1645 : (Jvm.Cond.code ({ cls := "TaleCourtModel", name := "empties", desc := "()V" } : Jvm.MethodName) prog_11_method_52_code (2 : Nat) (Option.none : Option Jvm.ClassFile.FieldType)) ∈ tbG := mt_7 (List.mem_of_getElem? (i := 92) (by decide +kernel)) rfl
theorem mw_1646 : (Jvm.Cond.methodLink "TaleCourtModel" (283 : Nat) ({ cls := "TaleCourtModel", name := "puts", desc := "(I)V" } : Jvm.MethodName)) ∈ tbG := mt_7 (List.mem_of_getElem? (i := 93) (by decide +kernel)) rfl
theorem mw_1648 : (Jvm.Cond.instanceMethod ({ cls := "TaleCourtModel", name := "puts", desc := "(I)V" } : Jvm.MethodName)) ∈ tbG := mt_7 (List.mem_of_getElem? (i := 95) (by decide +kernel)) rfl
theorem mw_1649 : (Jvm.Cond.code ({ cls := "TaleCourtModel", name := "puts", desc := "(I)V" } : Jvm.MethodName) prog_11_method_50_code (2 : Nat) (Option.none : Option Jvm.ClassFile.FieldType)) ∈ tbG := mt_7 (List.mem_of_getElem? (i := 96) (by decide +kernel)) rfl
theorem mw_1650 : (Jvm.Cond.methodLink "TaleCourtModel" (274 : Nat) ({ cls := "TaleCourtModel", name := "pointsOf", desc := "(I)I" } : Jvm.MethodName)) ∈ tbG := mt_7 (List.mem_of_getElem? (i := 97) (by decide +kernel)) rfl
theorem mw_1652 : (Jvm.Cond.instanceMethod ({ cls := "TaleCourtModel", name := "pointsOf", desc := "(I)I" } : Jvm.MethodName)) ∈ tbG := mt_7 (List.mem_of_getElem? (i := 99) (by decide +kernel)) rfl
theorem mw_1653 : (Jvm.Cond.code ({ cls := "TaleCourtModel", name := "pointsOf", desc := "(I)I" } : Jvm.MethodName) prog_11_method_49_code (2 : Nat) (Option.some Jvm.ClassFile.FieldType.int)) ∈ tbG := mt_7 (List.mem_of_getElem? (i := 100) (by decide +kernel)) rfl
theorem mw_1654 : (Jvm.Cond.methodLink "TaleCourtModel" (258 : Nat) ({ cls := "TaleCourtModel", name := "of", desc := "(II)I" } : Jvm.MethodName)) ∈ tbG := mt_7 (List.mem_of_getElem? (i := 101) (by decide +kernel)) rfl
theorem mw_1656 : (Jvm.Cond.instanceMethod ({ cls := "TaleCourtModel", name := "of", desc := "(II)I" } : Jvm.MethodName)) ∈ tbG := mt_7 (List.mem_of_getElem? (i := 103) (by decide +kernel)) rfl
theorem mw_1657 : (Jvm.Cond.code ({ cls := "TaleCourtModel", name := "of", desc := "(II)I" } : Jvm.MethodName) prog_11_method_41_code (3 : Nat) (Option.some Jvm.ClassFile.FieldType.int)) ∈ tbG := mt_7 (List.mem_of_getElem? (i := 104) (by decide +kernel)) rfl
theorem mw_1658 : (Jvm.Cond.methodLink "TaleCourtLaw" (36 : Nat) ({ cls := "TaleCourtModel", name := "motif", desc := "(II)I" } : Jvm.MethodName)) ∈ tbG := mt_7 (List.mem_of_getElem? (i := 105) (by decide +kernel)) rfl
theorem mw_1659 : (Jvm.Cond.instanceMethod ({ cls := "TaleCourtModel", name := "motif", desc := "(II)I" } : Jvm.MethodName)) ∈ tbG := mt_7 (List.mem_of_getElem? (i := 106) (by decide +kernel)) rfl
theorem mw_1660 : (Jvm.Cond.selects "TaleCourtModel" ({ cls := "TaleCourtModel", name := "motif", desc := "(II)I" } : Jvm.MethodName) ({ cls := "TaleCourtModel", name := "motif", desc := "(II)I" } : Jvm.MethodName)) ∈ tbG := mt_7 (List.mem_of_getElem? (i := 107) (by decide +kernel)) rfl
theorem mw_1661 : (Jvm.Cond.code ({ cls := "TaleCourtModel", name := "motif", desc := "(II)I" } : Jvm.MethodName) prog_11_method_42_code (3 : Nat) (Option.some Jvm.ClassFile.FieldType.int)) ∈ tbG := mt_7 (List.mem_of_getElem? (i := 108) (by decide +kernel)) rfl
theorem mw_1662 : (Jvm.Cond.methodLink "TaleCourtModel" (253 : Nat) ({ cls := "TaleCourtModel", name := "isMotif", desc := "(J)Z" } : Jvm.MethodName)) ∈ tbG := mt_7 (List.mem_of_getElem? (i := 109) (by decide +kernel)) rfl
theorem mw_1664 : (Jvm.Cond.instanceMethod ({ cls := "TaleCourtModel", name := "isMotif", desc := "(J)Z" } : Jvm.MethodName)) ∈ tbG := mt_7 (List.mem_of_getElem? (i := 111) (by decide +kernel)) rfl
theorem mw_1665 : (Jvm.Cond.code ({ cls := "TaleCourtModel", name := "isMotif", desc := "(J)Z" } : Jvm.MethodName) prog_11_method_37_code (3 : Nat) (Option.some Jvm.ClassFile.FieldType.boolean)) ∈ tbG := mt_7 (List.mem_of_getElem? (i := 112) (by decide +kernel)) rfl
theorem mw_1666 : (Jvm.Cond.constantLong "TaleCourtModel" (256 : Nat) (7 : Int64)) ∈ tbG := mt_7 (List.mem_of_getElem? (i := 113) (by decide +kernel)) rfl
theorem mw_1667 : (Jvm.Cond.methodLink "TaleCourtLaw" (40 : Nat) ({ cls := "TaleCourtModel", name := "joins", desc := "(II)I" } : Jvm.MethodName)) ∈ tbG := mt_7 (List.mem_of_getElem? (i := 114) (by decide +kernel)) rfl
theorem mw_1668 : (Jvm.Cond.instanceMethod ({ cls := "TaleCourtModel", name := "joins", desc := "(II)I" } : Jvm.MethodName)) ∈ tbG := mt_7 (List.mem_of_getElem? (i := 115) (by decide +kernel)) rfl
theorem mw_1669 : (Jvm.Cond.selects "TaleCourtModel" ({ cls := "TaleCourtModel", name := "joins", desc := "(II)I" } : Jvm.MethodName) ({ cls := "TaleCourtModel", name := "joins", desc := "(II)I" } : Jvm.MethodName)) ∈ tbG := mt_7 (List.mem_of_getElem? (i := 116) (by decide +kernel)) rfl
theorem mw_1670 : (Jvm.Cond.code ({ cls := "TaleCourtModel", name := "joins", desc := "(II)I" } : Jvm.MethodName) prog_11_method_43_code (3 : Nat) (Option.some Jvm.ClassFile.FieldType.int)) ∈ tbG := mt_7 (List.mem_of_getElem? (i := 117) (by decide +kernel)) rfl
theorem mw_1671 : (Jvm.Cond.methodLink "TaleCourtLaw" (44 : Nat) ({ cls := "TaleCourtModel", name := "clash", desc := "(II)I" } : Jvm.MethodName)) ∈ tbG := mt_7 (List.mem_of_getElem? (i := 118) (by decide +kernel)) rfl
theorem mw_1672 : (Jvm.Cond.instanceMethod ({ cls := "TaleCourtModel", name := "clash", desc := "(II)I" } : Jvm.MethodName)) ∈ tbG := mt_7 (List.mem_of_getElem? (i := 119) (by decide +kernel)) rfl
theorem mw_1673 : (Jvm.Cond.selects "TaleCourtModel" ({ cls := "TaleCourtModel", name := "clash", desc := "(II)I" } : Jvm.MethodName) ({ cls := "TaleCourtModel", name := "clash", desc := "(II)I" } : Jvm.MethodName)) ∈ tbG := mt_7 (List.mem_of_getElem? (i := 120) (by decide +kernel)) rfl
theorem mw_1674 : (Jvm.Cond.code ({ cls := "TaleCourtModel", name := "clash", desc := "(II)I" } : Jvm.MethodName) prog_11_method_44_code (3 : Nat) (Option.some Jvm.ClassFile.FieldType.int)) ∈ tbG := mt_7 (List.mem_of_getElem? (i := 121) (by decide +kernel)) rfl
theorem mw_1675 : (Jvm.Cond.methodLink "TaleCourtLaw" (48 : Nat) ({ cls := "TaleCourtModel", name := "behind", desc := "(I)I" } : Jvm.MethodName)) ∈ tbG := mt_7 (List.mem_of_getElem? (i := 122) (by decide +kernel)) rfl
theorem mw_1676 : (Jvm.Cond.instanceMethod ({ cls := "TaleCourtModel", name := "behind", desc := "(I)I" } : Jvm.MethodName)) ∈ tbG := mt_7 (List.mem_of_getElem? (i := 123) (by decide +kernel)) rfl
theorem mw_1677 : (Jvm.Cond.selects "TaleCourtModel" ({ cls := "TaleCourtModel", name := "behind", desc := "(I)I" } : Jvm.MethodName) ({ cls := "TaleCourtModel", name := "behind", desc := "(I)I" } : Jvm.MethodName)) ∈ tbG := mt_7 (List.mem_of_getElem? (i := 124) (by decide +kernel)) rfl
theorem mw_1678 : (Jvm.Cond.code ({ cls := "TaleCourtModel", name := "behind", desc := "(I)I" } : Jvm.MethodName) prog_11_method_45_code (2 : Nat) (Option.some Jvm.ClassFile.FieldType.int)) ∈ tbG := mt_7 (List.mem_of_getElem? (i := 125) (by decide +kernel)) rfl
theorem mw_1679 : (Jvm.Cond.methodLink "TaleCourtLaw" (52 : Nat) ({ cls := "TaleCourtModel", name := "ahead", desc := "(I)I" } : Jvm.MethodName)) ∈ tbG := mt_7 (List.mem_of_getElem? (i := 126) (by decide +kernel)) rfl
theorem mw_1680 : (Jvm.Cond.instanceMethod ({ cls := "TaleCourtModel", name := "ahead", desc := "(I)I" } : Jvm.MethodName)) ∈ tbG := mt_7 (List.mem_of_getElem? (i := 127) (by decide +kernel)) rfl
theorem mw_1681 : (Jvm.Cond.selects "TaleCourtModel" ({ cls := "TaleCourtModel", name := "ahead", desc := "(I)I" } : Jvm.MethodName) ({ cls := "TaleCourtModel", name := "ahead", desc := "(I)I" } : Jvm.MethodName)) ∈ tbG := mt_7 (List.mem_of_getElem? (i := 128) (by decide +kernel)) rfl
theorem mw_1682 : (Jvm.Cond.code ({ cls := "TaleCourtModel", name := "ahead", desc := "(I)I" } : Jvm.MethodName) prog_11_method_46_code (4 : Nat) (Option.some Jvm.ClassFile.FieldType.int)) ∈ tbG := mt_7 (List.mem_of_getElem? (i := 129) (by decide +kernel)) rfl
theorem mw_1683 : (Jvm.Cond.methodLink "TaleCourtModel" (261 : Nat) ({ cls := "TaleCourtModel", name := "isBit", desc := "(II)Z" } : Jvm.MethodName)) ∈ tbG := mt_7 (List.mem_of_getElem? (i := 130) (by decide +kernel)) rfl
theorem mw_1684 : (Jvm.Cond.static ({ cls := "TaleCourtModel", name := "isBit", desc := "(II)Z" } : Jvm.MethodName)) ∈ tbG := mt_7 (List.mem_of_getElem? (i := 131) (by decide +kernel)) rfl
theorem mw_1685 : (Jvm.Cond.code ({ cls := "TaleCourtModel", name := "isBit", desc := "(II)Z" } : Jvm.MethodName) prog_11_method_39_code (2 : Nat) (Option.some Jvm.ClassFile.FieldType.boolean)) ∈ tbG := mt_7 (List.mem_of_getElem? (i := 132) (by decide +kernel)) rfl
theorem mw_1686 : (Jvm.Cond.methodLink "TaleCourtLaw" (56 : Nat) ({ cls := "TaleCourtModel", name := "comes", desc := "(I)I" } : Jvm.MethodName)) ∈ tbG := mt_7 (List.mem_of_getElem? (i := 133) (by decide +kernel)) rfl
theorem mw_1687 : (Jvm.Cond.instanceMethod ({ cls := "TaleCourtModel", name := "comes", desc := "(I)I" } : Jvm.MethodName)) ∈ tbG := mt_7 (List.mem_of_getElem? (i := 134) (by decide +kernel)) rfl
theorem mw_1688 : (Jvm.Cond.selects "TaleCourtModel" ({ cls := "TaleCourtModel", name := "comes", desc := "(I)I" } : Jvm.MethodName) ({ cls := "TaleCourtModel", name := "comes", desc := "(I)I" } : Jvm.MethodName)) ∈ tbG := mt_7 (List.mem_of_getElem? (i := 135) (by decide +kernel)) rfl
theorem mw_1689 : (Jvm.Cond.code ({ cls := "TaleCourtModel", name := "comes", desc := "(I)I" } : Jvm.MethodName) prog_11_method_47_code (5 : Nat) (Option.some Jvm.ClassFile.FieldType.int)) ∈ tbG := mt_7 (List.mem_of_getElem? (i := 136) (by decide +kernel)) rfl
theorem mw_1690 : (Jvm.Cond.methodLink "TaleCourtLaw" (60 : Nat) ({ cls := "TaleCourtModel", name := "chain", desc := "(II)I" } : Jvm.MethodName)) ∈ tbG := mt_7 (List.mem_of_getElem? (i := 137) (by decide +kernel)) rfl
theorem mw_1691 : (Jvm.Cond.instanceMethod ({ cls := "TaleCourtModel", name := "chain", desc := "(II)I" } : Jvm.MethodName)) ∈ tbG := mt_7 (List.mem_of_getElem? (i := 138) (by decide +kernel)) rfl
theorem mw_1692 : (Jvm.Cond.selects "TaleCourtModel" ({ cls := "TaleCourtModel", name := "chain", desc := "(II)I" } : Jvm.MethodName) ({ cls := "TaleCourtModel", name := "chain", desc := "(II)I" } : Jvm.MethodName)) ∈ tbG := mt_7 (List.mem_of_getElem? (i := 139) (by decide +kernel)) rfl
theorem mw_1693 : (Jvm.Cond.code ({ cls := "TaleCourtModel", name := "chain", desc := "(II)I" } : Jvm.MethodName) prog_11_method_48_code (7 : Nat) (Option.some Jvm.ClassFile.FieldType.int)) ∈ tbG := mt_7 (List.mem_of_getElem? (i := 140) (by decide +kernel)) rfl
theorem mw_1694 : (Jvm.Cond.methodLink "TaleCourtLaw" (64 : Nat) ({ cls := "TaleCourtModel", name := "say", desc := "(I)I" } : Jvm.MethodName)) ∈ tbG := mt_7 (List.mem_of_getElem? (i := 141) (by decide +kernel)) rfl
theorem mw_1695 : (Jvm.Cond.instanceMethod ({ cls := "TaleCourtModel", name := "say", desc := "(I)I" } : Jvm.MethodName)) ∈ tbG := mt_7 (List.mem_of_getElem? (i := 142) (by decide +kernel)) rfl
theorem mw_1696 : (Jvm.Cond.selects "TaleCourtModel" ({ cls := "TaleCourtModel", name := "say", desc := "(I)I" } : Jvm.MethodName) ({ cls := "TaleCourtModel", name := "say", desc := "(I)I" } : Jvm.MethodName)) ∈ tbG := mt_7 (List.mem_of_getElem? (i := 143) (by decide +kernel)) rfl
theorem mw_1697 : (Jvm.Cond.code ({ cls := "TaleCourtModel", name := "say", desc := "(I)I" } : Jvm.MethodName) prog_11_method_61_code (2 : Nat) (Option.some Jvm.ClassFile.FieldType.int)) ∈ tbG := mt_7 (List.mem_of_getElem? (i := 144) (by decide +kernel)) rfl
theorem mw_1698 : (Jvm.Cond.methodLink "TaleCourtModel" (295 : Nat) ({ cls := "TaleCourtModel", name := "whyNot", desc := "(I)I" } : Jvm.MethodName)) ∈ tbG := mt_7 (List.mem_of_getElem? (i := 145) (by decide +kernel)) rfl
theorem mw_1700 : (Jvm.Cond.instanceMethod ({ cls := "TaleCourtModel", name := "whyNot", desc := "(I)I" } : Jvm.MethodName)) ∈ tbG := mt_7 (List.mem_of_getElem? (i := 147) (by decide +kernel)) rfl
theorem mw_1701 : (Jvm.Cond.code ({ cls := "TaleCourtModel", name := "whyNot", desc := "(I)I" } : Jvm.MethodName) prog_11_method_57_code (2 : Nat) (Option.some Jvm.ClassFile.FieldType.int)) ∈ tbG := mt_7 (List.mem_of_getElem? (i := 148) (by decide +kernel)) rfl
theorem mw_1702 : (Jvm.Cond.methodLink "TaleCourtModel" (286 : Nat) ({ cls := "TaleCourtModel", name := "joinsOn", desc := "(I)Z" } : Jvm.MethodName)) ∈ tbG := mt_7 (List.mem_of_getElem? (i := 149) (by decide +kernel)) rfl
theorem mw_1704 : (Jvm.Cond.instanceMethod ({ cls := "TaleCourtModel", name := "joinsOn", desc := "(I)Z" } : Jvm.MethodName)) ∈ tbG := mt_7 (List.mem_of_getElem? (i := 151) (by decide +kernel)) rfl
theorem mw_1705 : (Jvm.Cond.code ({ cls := "TaleCourtModel", name := "joinsOn", desc := "(I)Z" } : Jvm.MethodName) prog_11_method_56_code (2 : Nat) (Option.some Jvm.ClassFile.FieldType.boolean)) ∈ tbG := mt_7 (List.mem_of_getElem? (i := 152) (by decide +kernel)) rfl
theorem mw_1706 : (Jvm.Cond.methodLink "TaleCourtModel" (289 : Nat) ({ cls := "TaleCourtModel", name := "isLate", desc := "(I)Z" } : Jvm.MethodName)) ∈ tbG := mt_7 (List.mem_of_getElem? (i := 153) (by decide +kernel)) rfl
theorem mw_1708 : (Jvm.Cond.instanceMethod ({ cls := "TaleCourtModel", name := "isLate", desc := "(I)Z" } : Jvm.MethodName)) ∈ tbG := mt_7 (List.mem_of_getElem? (i := 155) (by decide +kernel)) rfl
theorem mw_1709 : (Jvm.Cond.code ({ cls := "TaleCourtModel", name := "isLate", desc := "(I)Z" } : Jvm.MethodName) prog_11_method_55_code (4 : Nat) (Option.some Jvm.ClassFile.FieldType.boolean)) ∈ tbG := mt_7 (List.mem_of_getElem? (i := 156) (by decide +kernel)) rfl
theorem mw_1710 : (Jvm.Cond.methodLink "TaleCourtModel" (298 : Nat) ({ cls := "TaleCourtModel", name := "keepsTale", desc := "()V" } : Jvm.MethodName)) ∈ tbG := mt_7 (List.mem_of_getElem? (i := 157) (by decide +kernel)) rfl
theorem mw_1712 : (Jvm.Cond.instanceMethod ({ cls := "TaleCourtModel", name := "keepsTale", desc := "()V" } : Jvm.MethodName)) ∈ tbG := mt_7 (List.mem_of_getElem? (i := 159) (by decide +kernel)) rfl
theorem mw_1713 : (Jvm.Cond.code ({ cls := "TaleCourtModel", name := "keepsTale", desc := "()V" } : Jvm.MethodName) prog_11_method_54_code (2 : Nat) (Option.none : Option Jvm.ClassFile.FieldType)) ∈ tbG := mt_7 (List.mem_of_getElem? (i := 160) (by decide +kernel)) rfl
theorem mw_1714 : (Jvm.Cond.methodLink "TaleCourtLaw" (68 : Nat) ({ cls := "TaleCourtModel", name := "hush", desc := "()I" } : Jvm.MethodName)) ∈ tbG := mt_7 (List.mem_of_getElem? (i := 161) (by decide +kernel)) rfl
theorem mw_1715 : (Jvm.Cond.instanceMethod ({ cls := "TaleCourtModel", name := "hush", desc := "()I" } : Jvm.MethodName)) ∈ tbG := mt_7 (List.mem_of_getElem? (i := 162) (by decide +kernel)) rfl
theorem mw_1716 : (Jvm.Cond.selects "TaleCourtModel" ({ cls := "TaleCourtModel", name := "hush", desc := "()I" } : Jvm.MethodName) ({ cls := "TaleCourtModel", name := "hush", desc := "()I" } : Jvm.MethodName)) ∈ tbG := mt_7 (List.mem_of_getElem? (i := 163) (by decide +kernel)) rfl
theorem mw_1717 : (Jvm.Cond.code ({ cls := "TaleCourtModel", name := "hush", desc := "()I" } : Jvm.MethodName) prog_11_method_62_code (1 : Nat) (Option.some Jvm.ClassFile.FieldType.int)) ∈ tbG := mt_7 (List.mem_of_getElem? (i := 164) (by decide +kernel)) rfl
theorem mw_1718 : (Jvm.Cond.methodLink "TaleCourtModel" (301 : Nat) ({ cls := "TaleCourtModel", name := "isCourt", desc := "()Z" } : Jvm.MethodName)) ∈ tbG := mt_7 (List.mem_of_getElem? (i := 165) (by decide +kernel)) rfl
theorem mw_1720 : (Jvm.Cond.instanceMethod ({ cls := "TaleCourtModel", name := "isCourt", desc := "()Z" } : Jvm.MethodName)) ∈ tbG := mt_7 (List.mem_of_getElem? (i := 167) (by decide +kernel)) rfl
theorem mw_1721 : (Jvm.Cond.code ({ cls := "TaleCourtModel", name := "isCourt", desc := "()Z" } : Jvm.MethodName) prog_11_method_36_code (1 : Nat) (Option.some Jvm.ClassFile.FieldType.boolean)) ∈ tbG := mt_7 (List.mem_of_getElem? (i := 168) (by decide +kernel)) rfl
theorem mw_1722 : (Jvm.Cond.methodLink "TaleCourtModel" (304 : Nat) ({ cls := "TaleCourtModel", name := "maySilence", desc := "()Z" } : Jvm.MethodName)) ∈ tbG := mt_7 (List.mem_of_getElem? (i := 169) (by decide +kernel)) rfl
theorem mw_1724 : (Jvm.Cond.instanceMethod ({ cls := "TaleCourtModel", name := "maySilence", desc := "()Z" } : Jvm.MethodName)) ∈ tbG := mt_7 (List.mem_of_getElem? (i := 171) (by decide +kernel)) rfl
theorem mw_1725 : (Jvm.Cond.code ({ cls := "TaleCourtModel", name := "maySilence", desc := "()Z" } : Jvm.MethodName) prog_11_method_58_code (1 : Nat) (Option.some Jvm.ClassFile.FieldType.boolean)) ∈ tbG := mt_7 (List.mem_of_getElem? (i := 172) (by decide +kernel)) rfl
theorem mw_1726 : (Jvm.Cond.methodLink "TaleCourtLaw" (72 : Nat) ({ cls := "TaleCourtModel", name := "unsay", desc := "()I" } : Jvm.MethodName)) ∈ tbG := mt_7 (List.mem_of_getElem? (i := 173) (by decide +kernel)) rfl
theorem mw_1727 : (Jvm.Cond.instanceMethod ({ cls := "TaleCourtModel", name := "unsay", desc := "()I" } : Jvm.MethodName)) ∈ tbG := mt_7 (List.mem_of_getElem? (i := 174) (by decide +kernel)) rfl
theorem mw_1728 : (Jvm.Cond.selects "TaleCourtModel" ({ cls := "TaleCourtModel", name := "unsay", desc := "()I" } : Jvm.MethodName) ({ cls := "TaleCourtModel", name := "unsay", desc := "()I" } : Jvm.MethodName)) ∈ tbG := mt_7 (List.mem_of_getElem? (i := 175) (by decide +kernel)) rfl
theorem mw_1729 : (Jvm.Cond.code ({ cls := "TaleCourtModel", name := "unsay", desc := "()I" } : Jvm.MethodName) prog_11_method_63_code (1 : Nat) (Option.some Jvm.ClassFile.FieldType.int)) ∈ tbG := mt_7 (List.mem_of_getElem? (i := 176) (by decide +kernel)) rfl
theorem mw_1730 : (Jvm.Cond.methodLink "TaleCourtLaw" (76 : Nat) ({ cls := "TaleCourtModel", name := "anew", desc := "()I" } : Jvm.MethodName)) ∈ tbG := mt_7 (List.mem_of_getElem? (i := 177) (by decide +kernel)) rfl
theorem mw_1731 : (Jvm.Cond.instanceMethod ({ cls := "TaleCourtModel", name := "anew", desc := "()I" } : Jvm.MethodName)) ∈ tbG := mt_7 (List.mem_of_getElem? (i := 178) (by decide +kernel)) rfl
theorem mw_1732 : (Jvm.Cond.selects "TaleCourtModel" ({ cls := "TaleCourtModel", name := "anew", desc := "()I" } : Jvm.MethodName) ({ cls := "TaleCourtModel", name := "anew", desc := "()I" } : Jvm.MethodName)) ∈ tbG := mt_7 (List.mem_of_getElem? (i := 179) (by decide +kernel)) rfl
theorem mw_1733 : (Jvm.Cond.code ({ cls := "TaleCourtModel", name := "anew", desc := "()I" } : Jvm.MethodName) prog_11_method_64_code (2 : Nat) (Option.some Jvm.ClassFile.FieldType.int)) ∈ tbG := mt_7 (List.mem_of_getElem? (i := 180) (by decide +kernel)) rfl
theorem mw_1734 : (Jvm.Cond.methodLink "TaleCourtLaw" (80 : Nat) ({ cls := "TaleCourtModel", name := "told", desc := "(I)I" } : Jvm.MethodName)) ∈ tbG := mt_7 (List.mem_of_getElem? (i := 181) (by decide +kernel)) rfl
theorem mw_1735 : (Jvm.Cond.instanceMethod ({ cls := "TaleCourtModel", name := "told", desc := "(I)I" } : Jvm.MethodName)) ∈ tbG := mt_7 (List.mem_of_getElem? (i := 182) (by decide +kernel)) rfl
theorem mw_1736 : (Jvm.Cond.selects "TaleCourtModel" ({ cls := "TaleCourtModel", name := "told", desc := "(I)I" } : Jvm.MethodName) ({ cls := "TaleCourtModel", name := "told", desc := "(I)I" } : Jvm.MethodName)) ∈ tbG := mt_7 (List.mem_of_getElem? (i := 183) (by decide +kernel)) rfl
theorem mw_1737 : (Jvm.Cond.code ({ cls := "TaleCourtModel", name := "told", desc := "(I)I" } : Jvm.MethodName) prog_11_method_65_code (2 : Nat) (Option.some Jvm.ClassFile.FieldType.int)) ∈ tbG := mt_7 (List.mem_of_getElem? (i := 184) (by decide +kernel)) rfl
theorem mw_1738 : (Jvm.Cond.methodLink "TaleCourtLaw" (84 : Nat) ({ cls := "TaleCourtModel", name := "length", desc := "()I" } : Jvm.MethodName)) ∈ tbG := mt_7 (List.mem_of_getElem? (i := 185) (by decide +kernel)) rfl
theorem mw_1739 : (Jvm.Cond.instanceMethod ({ cls := "TaleCourtModel", name := "length", desc := "()I" } : Jvm.MethodName)) ∈ tbG := mt_7 (List.mem_of_getElem? (i := 186) (by decide +kernel)) rfl
theorem mw_1740 : (Jvm.Cond.selects "TaleCourtModel" ({ cls := "TaleCourtModel", name := "length", desc := "()I" } : Jvm.MethodName) ({ cls := "TaleCourtModel", name := "length", desc := "()I" } : Jvm.MethodName)) ∈ tbG := mt_7 (List.mem_of_getElem? (i := 187) (by decide +kernel)) rfl
theorem mw_1741 : (Jvm.Cond.code ({ cls := "TaleCourtModel", name := "length", desc := "()I" } : Jvm.MethodName) prog_11_method_66_code (1 : Nat) (Option.some Jvm.ClassFile.FieldType.int)) ∈ tbG := mt_7 (List.mem_of_getElem? (i := 188) (by decide +kernel)) rfl
theorem mw_1742 : (Jvm.Cond.methodLink "TaleCourtLaw" (88 : Nat) ({ cls := "TaleCourtModel", name := "whose", desc := "()I" } : Jvm.MethodName)) ∈ tbG := mt_7 (List.mem_of_getElem? (i := 189) (by decide +kernel)) rfl
theorem mw_1743 : (Jvm.Cond.instanceMethod ({ cls := "TaleCourtModel", name := "whose", desc := "()I" } : Jvm.MethodName)) ∈ tbG := mt_7 (List.mem_of_getElem? (i := 190) (by decide +kernel)) rfl
theorem mw_1744 : (Jvm.Cond.selects "TaleCourtModel" ({ cls := "TaleCourtModel", name := "whose", desc := "()I" } : Jvm.MethodName) ({ cls := "TaleCourtModel", name := "whose", desc := "()I" } : Jvm.MethodName)) ∈ tbG := mt_7 (List.mem_of_getElem? (i := 191) (by decide +kernel)) rfl
theorem mw_1745 : (Jvm.Cond.code ({ cls := "TaleCourtModel", name := "whose", desc := "()I" } : Jvm.MethodName) prog_11_method_67_code (1 : Nat) (Option.some Jvm.ClassFile.FieldType.int)) ∈ tbG := mt_7 (List.mem_of_getElem? (i := 192) (by decide +kernel)) rfl
theorem mw_1746 : (Jvm.Cond.methodLink "TaleCourtLaw" (92 : Nat) ({ cls := "TaleCourtModel", name := "may", desc := "()I" } : Jvm.MethodName)) ∈ tbG := mt_7 (List.mem_of_getElem? (i := 193) (by decide +kernel)) rfl
theorem mw_1747 : (Jvm.Cond.instanceMethod ({ cls := "TaleCourtModel", name := "may", desc := "()I" } : Jvm.MethodName)) ∈ tbG := mt_7 (List.mem_of_getElem? (i := 194) (by decide +kernel)) rfl
theorem mw_1748 : (Jvm.Cond.selects "TaleCourtModel" ({ cls := "TaleCourtModel", name := "may", desc := "()I" } : Jvm.MethodName) ({ cls := "TaleCourtModel", name := "may", desc := "()I" } : Jvm.MethodName)) ∈ tbG := mt_7 (List.mem_of_getElem? (i := 195) (by decide +kernel)) rfl
theorem mw_1749 : (Jvm.Cond.code ({ cls := "TaleCourtModel", name := "may", desc := "()I" } : Jvm.MethodName) prog_11_method_69_code (1 : Nat) (Option.some Jvm.ClassFile.FieldType.int)) ∈ tbG := mt_7 (List.mem_of_getElem? (i := 196) (by decide +kernel)) rfl
theorem mw_1750 : (Jvm.Cond.methodLink "TaleCourtModel" (307 : Nat) ({ cls := "TaleCourtModel", name := "mayNow", desc := "()I" } : Jvm.MethodName)) ∈ tbG := mt_7 (List.mem_of_getElem? (i := 197) (by decide +kernel)) rfl
theorem mw_1752 : (Jvm.Cond.instanceMethod ({ cls := "TaleCourtModel", name := "mayNow", desc := "()I" } : Jvm.MethodName)) ∈ tbG := mt_7 (List.mem_of_getElem? (i := 199) (by decide +kernel)) rfl
theorem mw_1753 : (Jvm.Cond.code ({ cls := "TaleCourtModel", name := "mayNow", desc := "()I" } : Jvm.MethodName) prog_11_method_68_code (3 : Nat) (Option.some Jvm.ClassFile.FieldType.int)) ∈ tbG := mt_7 (List.mem_of_getElem? (i := 200) (by decide +kernel)) rfl
theorem mw_1754 : (Jvm.Cond.methodLink "TaleCourtLaw" (96 : Nat) ({ cls := "TaleCourtModel", name := "why", desc := "(I)I" } : Jvm.MethodName)) ∈ tbG := mt_7 (List.mem_of_getElem? (i := 201) (by decide +kernel)) rfl
theorem mw_1755 : (Jvm.Cond.instanceMethod ({ cls := "TaleCourtModel", name := "why", desc := "(I)I" } : Jvm.MethodName)) ∈ tbG := mt_7 (List.mem_of_getElem? (i := 202) (by decide +kernel)) rfl
theorem mw_1756 : (Jvm.Cond.selects "TaleCourtModel" ({ cls := "TaleCourtModel", name := "why", desc := "(I)I" } : Jvm.MethodName) ({ cls := "TaleCourtModel", name := "why", desc := "(I)I" } : Jvm.MethodName)) ∈ tbG := mt_7 (List.mem_of_getElem? (i := 203) (by decide +kernel)) rfl
theorem mw_1757 : (Jvm.Cond.code ({ cls := "TaleCourtModel", name := "why", desc := "(I)I" } : Jvm.MethodName) prog_11_method_70_code (2 : Nat) (Option.some Jvm.ClassFile.FieldType.int)) ∈ tbG := mt_7 (List.mem_of_getElem? (i := 204) (by decide +kernel)) rfl
theorem mw_1758 : (Jvm.Cond.methodLink "TaleCourtLaw" (100 : Nat) ({ cls := "TaleCourtModel", name := "owed", desc := "()I" } : Jvm.MethodName)) ∈ tbG := mt_7 (List.mem_of_getElem? (i := 205) (by decide +kernel)) rfl
theorem mw_1759 : (Jvm.Cond.instanceMethod ({ cls := "TaleCourtModel", name := "owed", desc := "()I" } : Jvm.MethodName)) ∈ tbG := mt_7 (List.mem_of_getElem? (i := 206) (by decide +kernel)) rfl
theorem mw_1760 : (Jvm.Cond.selects "TaleCourtModel" ({ cls := "TaleCourtModel", name := "owed", desc := "()I" } : Jvm.MethodName) ({ cls := "TaleCourtModel", name := "owed", desc := "()I" } : Jvm.MethodName)) ∈ tbG := mt_7 (List.mem_of_getElem? (i := 207) (by decide +kernel)) rfl
theorem mw_1761 : (Jvm.Cond.code ({ cls := "TaleCourtModel", name := "owed", desc := "()I" } : Jvm.MethodName) prog_11_method_71_code (1 : Nat) (Option.some Jvm.ClassFile.FieldType.int)) ∈ tbG := mt_7 (List.mem_of_getElem? (i := 208) (by decide +kernel)) rfl
theorem mw_1762 : (Jvm.Cond.methodLink "TaleCourtModel" (292 : Nat) ({ cls := "TaleCourtModel", name := "owedNow", desc := "()I" } : Jvm.MethodName)) ∈ tbG := mt_7 (List.mem_of_getElem? (i := 209) (by decide +kernel)) rfl
theorem mw_1764 : (Jvm.Cond.instanceMethod ({ cls := "TaleCourtModel", name := "owedNow", desc := "()I" } : Jvm.MethodName)) ∈ tbG := mt_7 (List.mem_of_getElem? (i := 211) (by decide +kernel)) rfl
theorem mw_1765 : (Jvm.Cond.code ({ cls := "TaleCourtModel", name := "owedNow", desc := "()I" } : Jvm.MethodName) prog_11_method_59_code (3 : Nat) (Option.some Jvm.ClassFile.FieldType.int)) ∈ tbG := mt_7 (List.mem_of_getElem? (i := 212) (by decide +kernel)) rfl
theorem mw_1766 : (Jvm.Cond.methodLink "TaleCourtLaw" (104 : Nat) ({ cls := "TaleCourtModel", name := "due", desc := "(I)I" } : Jvm.MethodName)) ∈ tbG := mt_7 (List.mem_of_getElem? (i := 213) (by decide +kernel)) rfl
theorem mw_1767 : (Jvm.Cond.instanceMethod ({ cls := "TaleCourtModel", name := "due", desc := "(I)I" } : Jvm.MethodName)) ∈ tbG := mt_7 (List.mem_of_getElem? (i := 214) (by decide +kernel)) rfl
theorem mw_1768 : (Jvm.Cond.selects "TaleCourtModel" ({ cls := "TaleCourtModel", name := "due", desc := "(I)I" } : Jvm.MethodName) ({ cls := "TaleCourtModel", name := "due", desc := "(I)I" } : Jvm.MethodName)) ∈ tbG := mt_7 (List.mem_of_getElem? (i := 215) (by decide +kernel)) rfl
theorem mw_1769 : (Jvm.Cond.code ({ cls := "TaleCourtModel", name := "due", desc := "(I)I" } : Jvm.MethodName) prog_11_method_72_code (5 : Nat) (Option.some Jvm.ClassFile.FieldType.int)) ∈ tbG := mt_7 (List.mem_of_getElem? (i := 216) (by decide +kernel)) rfl
theorem mw_1770 : (Jvm.Cond.methodLink "TaleCourtLaw" (108 : Nat) ({ cls := "TaleCourtModel", name := "whole", desc := "()I" } : Jvm.MethodName)) ∈ tbG := mt_7 (List.mem_of_getElem? (i := 217) (by decide +kernel)) rfl
theorem mw_1771 : (Jvm.Cond.instanceMethod ({ cls := "TaleCourtModel", name := "whole", desc := "()I" } : Jvm.MethodName)) ∈ tbG := mt_7 (List.mem_of_getElem? (i := 218) (by decide +kernel)) rfl
theorem mw_1772 : (Jvm.Cond.selects "TaleCourtModel" ({ cls := "TaleCourtModel", name := "whole", desc := "()I" } : Jvm.MethodName) ({ cls := "TaleCourtModel", name := "whole", desc := "()I" } : Jvm.MethodName)) ∈ tbG := mt_7 (List.mem_of_getElem? (i := 219) (by decide +kernel)) rfl
theorem mw_1773 : (Jvm.Cond.code ({ cls := "TaleCourtModel", name := "whole", desc := "()I" } : Jvm.MethodName) prog_11_method_73_code (1 : Nat) (Option.some Jvm.ClassFile.FieldType.int)) ∈ tbG := mt_7 (List.mem_of_getElem? (i := 220) (by decide +kernel)) rfl
theorem mw_1774 : (Jvm.Cond.methodLink "TaleCourtModel" (310 : Nat) ({ cls := "TaleCourtModel", name := "isWhole", desc := "()Z" } : Jvm.MethodName)) ∈ tbG := mt_7 (List.mem_of_getElem? (i := 221) (by decide +kernel)) rfl
theorem mw_1776 : (Jvm.Cond.instanceMethod ({ cls := "TaleCourtModel", name := "isWhole", desc := "()Z" } : Jvm.MethodName)) ∈ tbG := mt_7 (List.mem_of_getElem? (i := 223) (by decide +kernel)) rfl
theorem mw_1777 : (Jvm.Cond.code ({ cls := "TaleCourtModel", name := "isWhole", desc := "()Z" } : Jvm.MethodName) prog_11_method_60_code (1 : Nat) (Option.some Jvm.ClassFile.FieldType.boolean)) ∈ tbG := mt_7 (List.mem_of_getElem? (i := 224) (by decide +kernel)) rfl
theorem mw_1778 : (Jvm.Cond.methodLink "TaleCourtLaw" (112 : Nat) ({ cls := "TaleCourtModel", name := "points", desc := "()I" } : Jvm.MethodName)) ∈ tbG := mt_7 (List.mem_of_getElem? (i := 225) (by decide +kernel)) rfl
theorem mw_1779 : (Jvm.Cond.instanceMethod ({ cls := "TaleCourtModel", name := "points", desc := "()I" } : Jvm.MethodName)) ∈ tbG := mt_7 (List.mem_of_getElem? (i := 226) (by decide +kernel)) rfl
theorem mw_1780 : (Jvm.Cond.selects "TaleCourtModel" ({ cls := "TaleCourtModel", name := "points", desc := "()I" } : Jvm.MethodName) ({ cls := "TaleCourtModel", name := "points", desc := "()I" } : Jvm.MethodName)) ∈ tbG := mt_7 (List.mem_of_getElem? (i := 227) (by decide +kernel)) rfl
theorem mw_1781 : (Jvm.Cond.code ({ cls := "TaleCourtModel", name := "points", desc := "()I" } : Jvm.MethodName) prog_11_method_74_code (1 : Nat) (Option.some Jvm.ClassFile.FieldType.int)) ∈ tbG := mt_7 (List.mem_of_getElem? (i := 228) (by decide +kernel)) rfl
theorem mw_1782 : (Jvm.Cond.methodLink "TaleCourtLaw" (116 : Nat) ({ cls := "TaleCourtModel", name := "share", desc := "(I)I" } : Jvm.MethodName)) ∈ tbG := mt_7 (List.mem_of_getElem? (i := 229) (by decide +kernel)) rfl
theorem mw_1783 : (Jvm.Cond.instanceMethod ({ cls := "TaleCourtModel", name := "share", desc := "(I)I" } : Jvm.MethodName)) ∈ tbG := mt_7 (List.mem_of_getElem? (i := 230) (by decide +kernel)) rfl
theorem mw_1784 : (Jvm.Cond.selects "TaleCourtModel" ({ cls := "TaleCourtModel", name := "share", desc := "(I)I" } : Jvm.MethodName) ({ cls := "TaleCourtModel", name := "share", desc := "(I)I" } : Jvm.MethodName)) ∈ tbG := mt_7 (List.mem_of_getElem? (i := 231) (by decide +kernel)) rfl
theorem mw_1785 : (Jvm.Cond.code ({ cls := "TaleCourtModel", name := "share", desc := "(I)I" } : Jvm.MethodName) prog_11_method_75_code (4 : Nat) (Option.some Jvm.ClassFile.FieldType.int)) ∈ tbG := mt_7 (List.mem_of_getElem? (i := 232) (by decide +kernel)) rfl
theorem mw_1786 : (Jvm.Cond.methodLink "TaleCourtModel" (313 : Nat) ({ cls := "TaleCourtModel", name := "isTeller", desc := "(I)Z" } : Jvm.MethodName)) ∈ tbG := mt_7 (List.mem_of_getElem? (i := 233) (by decide +kernel)) rfl
theorem mw_1788 : (Jvm.Cond.instanceMethod ({ cls := "TaleCourtModel", name := "isTeller", desc := "(I)Z" } : Jvm.MethodName)) ∈ tbG := mt_7 (List.mem_of_getElem? (i := 235) (by decide +kernel)) rfl
theorem mw_1789 : (Jvm.Cond.code ({ cls := "TaleCourtModel", name := "isTeller", desc := "(I)Z" } : Jvm.MethodName) prog_11_method_38_code (2 : Nat) (Option.some Jvm.ClassFile.FieldType.boolean)) ∈ tbG := mt_7 (List.mem_of_getElem? (i := 236) (by decide +kernel)) rfl
theorem mw_1790 : (Jvm.Cond.methodLink "TaleCourtLaw" (120 : Nat) ({ cls := "TaleCourtModel", name := "left", desc := "(I)I" } : Jvm.MethodName)) ∈ tbG := mt_7 (List.mem_of_getElem? (i := 237) (by decide +kernel)) rfl
theorem mw_1791 : (Jvm.Cond.instanceMethod ({ cls := "TaleCourtModel", name := "left", desc := "(I)I" } : Jvm.MethodName)) ∈ tbG := mt_7 (List.mem_of_getElem? (i := 238) (by decide +kernel)) rfl
theorem mw_1792 : (Jvm.Cond.selects "TaleCourtModel" ({ cls := "TaleCourtModel", name := "left", desc := "(I)I" } : Jvm.MethodName) ({ cls := "TaleCourtModel", name := "left", desc := "(I)I" } : Jvm.MethodName)) ∈ tbG := mt_7 (List.mem_of_getElem? (i := 239) (by decide +kernel)) rfl
theorem mw_1793 : (Jvm.Cond.code ({ cls := "TaleCourtModel", name := "left", desc := "(I)I" } : Jvm.MethodName) prog_11_method_76_code (2 : Nat) (Option.some Jvm.ClassFile.FieldType.int)) ∈ tbG := mt_8 (List.mem_of_getElem? (i := 0) (by decide +kernel)) rfl
theorem mw_1794 : (Jvm.Cond.methodLink "TaleCourtLaw" (124 : Nat) ({ cls := "TaleCourtModel", name := "longest", desc := "()I" } : Jvm.MethodName)) ∈ tbG := mt_8 (List.mem_of_getElem? (i := 1) (by decide +kernel)) rfl
theorem mw_1795 : (Jvm.Cond.instanceMethod ({ cls := "TaleCourtModel", name := "longest", desc := "()I" } : Jvm.MethodName)) ∈ tbG := mt_8 (List.mem_of_getElem? (i := 2) (by decide +kernel)) rfl
theorem mw_1796 : (Jvm.Cond.selects "TaleCourtModel" ({ cls := "TaleCourtModel", name := "longest", desc := "()I" } : Jvm.MethodName) ({ cls := "TaleCourtModel", name := "longest", desc := "()I" } : Jvm.MethodName)) ∈ tbG := mt_8 (List.mem_of_getElem? (i := 3) (by decide +kernel)) rfl
theorem mw_1797 : (Jvm.Cond.code ({ cls := "TaleCourtModel", name := "longest", desc := "()I" } : Jvm.MethodName) prog_11_method_82_code (1 : Nat) (Option.some Jvm.ClassFile.FieldType.int)) ∈ tbG := mt_8 (List.mem_of_getElem? (i := 4) (by decide +kernel)) rfl
theorem mw_1798 : (Jvm.Cond.methodLink "TaleCourtModel" (361 : Nat) ({ cls := "TaleCourtModel", name := "goesAll", desc := "(III)V" } : Jvm.MethodName)) ∈ tbG := mt_8 (List.mem_of_getElem? (i := 5) (by decide +kernel)) rfl
theorem mw_1800 : (Jvm.Cond.instanceMethod ({ cls := "TaleCourtModel", name := "goesAll", desc := "(III)V" } : Jvm.MethodName)) ∈ tbG := mt_8 (List.mem_of_getElem? (i := 7) (by decide +kernel)) rfl
theorem mw_1801 : (Jvm.Cond.code ({ cls := "TaleCourtModel", name := "goesAll", desc := "(III)V" } : Jvm.MethodName) prog_11_method_80_code (5 : Nat) (Option.none : Option Jvm.ClassFile.FieldType)) ∈ tbG := mt_8 (List.mem_of_getElem? (i := 8) (by decide +kernel)) rfl
theorem mw_1802 : (Jvm.Cond.methodLink "TaleCourtModel" (355 : Nat) ({ cls := "TaleCourtModel", name := "goes", desc := "()V" } : Jvm.MethodName)) ∈ tbG := mt_8 (List.mem_of_getElem? (i := 9) (by decide +kernel)) rfl
theorem mw_1804 : (Jvm.Cond.instanceMethod ({ cls := "TaleCourtModel", name := "goes", desc := "()V" } : Jvm.MethodName)) ∈ tbG := mt_8 (List.mem_of_getElem? (i := 11) (by decide +kernel)) rfl
theorem mw_1805 : (Jvm.Cond.code ({ cls := "TaleCourtModel", name := "goes", desc := "()V" } : Jvm.MethodName) prog_11_method_79_code (2 : Nat) (Option.none : Option Jvm.ClassFile.FieldType)) ∈ tbG := mt_8 (List.mem_of_getElem? (i := 12) (by decide +kernel)) rfl
theorem mw_1806 : (Jvm.Cond.methodLink "TaleCourtModel" (352 : Nat) ({ cls := "TaleCourtModel", name := "meets", desc := "()V" } : Jvm.MethodName)) ∈ tbG := mt_8 (List.mem_of_getElem? (i := 13) (by decide +kernel)) rfl
theorem mw_1808 : (Jvm.Cond.instanceMethod ({ cls := "TaleCourtModel", name := "meets", desc := "()V" } : Jvm.MethodName)) ∈ tbG := mt_8 (List.mem_of_getElem? (i := 15) (by decide +kernel)) rfl
theorem mw_1809 : (Jvm.Cond.code ({ cls := "TaleCourtModel", name := "meets", desc := "()V" } : Jvm.MethodName) prog_11_method_77_code (5 : Nat) (Option.none : Option Jvm.ClassFile.FieldType)) ∈ tbG := mt_8 (List.mem_of_getElem? (i := 16) (by decide +kernel)) rfl
theorem mw_1810 : (Jvm.Cond.methodLink "TaleCourtModel" (334 : Nat) ({ cls := "TaleCourtModel", name := "isFit", desc := "()Z" } : Jvm.MethodName)) ∈ tbG := mt_8 (List.mem_of_getElem? (i := 17) (by decide +kernel)) rfl
theorem mw_1812 : (Jvm.Cond.instanceMethod ({ cls := "TaleCourtModel", name := "isFit", desc := "()Z" } : Jvm.MethodName)) ∈ tbG := mt_8 (List.mem_of_getElem? (i := 19) (by decide +kernel)) rfl
theorem mw_1813 : (Jvm.Cond.code ({ cls := "TaleCourtModel", name := "isFit", desc := "()Z" } : Jvm.MethodName) prog_11_method_127_code (4 : Nat) (Option.some Jvm.ClassFile.FieldType.boolean)) ∈ tbG := mt_8 (List.mem_of_getElem? (i := 20) (by decide +kernel)) rfl
theorem mw_1814 : (Jvm.Cond.methodLink "TaleCourtModel" (424 : Nat) ({ cls := "TaleCourtModel", name := "cellOf", desc := "(II)I" } : Jvm.MethodName)) ∈ tbG := mt_8 (List.mem_of_getElem? (i := 21) (by decide +kernel)) rfl
theorem mw_1816 : (Jvm.Cond.instanceMethod ({ cls := "TaleCourtModel", name := "cellOf", desc := "(II)I" } : Jvm.MethodName)) ∈ tbG := mt_8 (List.mem_of_getElem? (i := 23) (by decide +kernel)) rfl
theorem mw_1817 : (Jvm.Cond.code ({ cls := "TaleCourtModel", name := "cellOf", desc := "(II)I" } : Jvm.MethodName) prog_11_method_122_code (3 : Nat) (Option.some Jvm.ClassFile.FieldType.int)) ∈ tbG := mt_8 (List.mem_of_getElem? (i := 24) (by decide +kernel)) rfl
theorem mw_1818 : (Jvm.Cond.methodLink "TaleCourtModel" (349 : Nat) ({ cls := "TaleCourtModel", name := "isAhead", desc := "(I)Z" } : Jvm.MethodName)) ∈ tbG := mt_8 (List.mem_of_getElem? (i := 25) (by decide +kernel)) rfl
theorem mw_1820 : (Jvm.Cond.instanceMethod ({ cls := "TaleCourtModel", name := "isAhead", desc := "(I)Z" } : Jvm.MethodName)) ∈ tbG := mt_8 (List.mem_of_getElem? (i := 27) (by decide +kernel)) rfl
theorem mw_1821 : (Jvm.Cond.code ({ cls := "TaleCourtModel", name := "isAhead", desc := "(I)Z" } : Jvm.MethodName) prog_11_method_78_code (3 : Nat) (Option.some Jvm.ClassFile.FieldType.boolean)) ∈ tbG := mt_8 (List.mem_of_getElem? (i := 28) (by decide +kernel)) rfl
theorem mw_1822 : (Jvm.Cond.methodLink "TaleCourtModel" (358 : Nat) ({ cls := "TaleCourtModel", name := "takesOff", desc := "()V" } : Jvm.MethodName)) ∈ tbG := mt_8 (List.mem_of_getElem? (i := 29) (by decide +kernel)) rfl
theorem mw_1824 : (Jvm.Cond.instanceMethod ({ cls := "TaleCourtModel", name := "takesOff", desc := "()V" } : Jvm.MethodName)) ∈ tbG := mt_8 (List.mem_of_getElem? (i := 31) (by decide +kernel)) rfl
theorem mw_1825 : (Jvm.Cond.code ({ cls := "TaleCourtModel", name := "takesOff", desc := "()V" } : Jvm.MethodName) prog_11_method_51_code (3 : Nat) (Option.none : Option Jvm.ClassFile.FieldType)) ∈ tbG := mt_8 (List.mem_of_getElem? (i := 32) (by decide +kernel)) rfl
theorem mw_1826 : (Jvm.Cond.methodLink "TaleCourtLaw" (128 : Nat) ({ cls := "TaleCourtModel", name := "full", desc := "()I" } : Jvm.MethodName)) ∈ tbG := mt_8 (List.mem_of_getElem? (i := 33) (by decide +kernel)) rfl
theorem mw_1827 : (Jvm.Cond.instanceMethod ({ cls := "TaleCourtModel", name := "full", desc := "()I" } : Jvm.MethodName)) ∈ tbG := mt_8 (List.mem_of_getElem? (i := 34) (by decide +kernel)) rfl
theorem mw_1828 : (Jvm.Cond.selects "TaleCourtModel" ({ cls := "TaleCourtModel", name := "full", desc := "()I" } : Jvm.MethodName) ({ cls := "TaleCourtModel", name := "full", desc := "()I" } : Jvm.MethodName)) ∈ tbG := mt_8 (List.mem_of_getElem? (i := 35) (by decide +kernel)) rfl
theorem mw_1829 : (Jvm.Cond.code ({ cls := "TaleCourtModel", name := "full", desc := "()I" } : Jvm.MethodName) prog_11_method_83_code (1 : Nat) (Option.some Jvm.ClassFile.FieldType.int)) ∈ tbG := mt_8 (List.mem_of_getElem? (i := 36) (by decide +kernel)) rfl
theorem mw_1830 : (Jvm.Cond.methodLink "TaleCourtLaw" (132 : Nat) ({ cls := "TaleCourtModel", name := "line", desc := "(I)I" } : Jvm.MethodName)) ∈ tbG := mt_8 (List.mem_of_getElem? (i := 37) (by decide +kernel)) rfl
theorem mw_1831 : (Jvm.Cond.instanceMethod ({ cls := "TaleCourtModel", name := "line", desc := "(I)I" } : Jvm.MethodName)) ∈ tbG := mt_8 (List.mem_of_getElem? (i := 38) (by decide +kernel)) rfl
theorem mw_1832 : (Jvm.Cond.selects "TaleCourtModel" ({ cls := "TaleCourtModel", name := "line", desc := "(I)I" } : Jvm.MethodName) ({ cls := "TaleCourtModel", name := "line", desc := "(I)I" } : Jvm.MethodName)) ∈ tbG := mt_8 (List.mem_of_getElem? (i := 39) (by decide +kernel)) rfl
theorem mw_1833 : (Jvm.Cond.code ({ cls := "TaleCourtModel", name := "line", desc := "(I)I" } : Jvm.MethodName) prog_11_method_84_code (2 : Nat) (Option.some Jvm.ClassFile.FieldType.int)) ∈ tbG := mt_8 (List.mem_of_getElem? (i := 40) (by decide +kernel)) rfl
theorem mw_1834 : (Jvm.Cond.methodLink "TaleCourtModel" (365 : Nat) ({ cls := "TaleCourtModel", name := "bestAt", desc := "(I)I" } : Jvm.MethodName)) ∈ tbG := mt_8 (List.mem_of_getElem? (i := 41) (by decide +kernel)) rfl
theorem mw_1836 : (Jvm.Cond.instanceMethod ({ cls := "TaleCourtModel", name := "bestAt", desc := "(I)I" } : Jvm.MethodName)) ∈ tbG := mt_8 (List.mem_of_getElem? (i := 43) (by decide +kernel)) rfl
theorem mw_1837 : (Jvm.Cond.code ({ cls := "TaleCourtModel", name := "bestAt", desc := "(I)I" } : Jvm.MethodName) prog_11_method_81_code (2 : Nat) (Option.some Jvm.ClassFile.FieldType.int)) ∈ tbG := mt_8 (List.mem_of_getElem? (i := 44) (by decide +kernel)) rfl
theorem mw_1838 : (Jvm.Cond.methodLink "TaleCourtLaw" (136 : Nat) ({ cls := "TaleCourtModel", name := "best", desc := "()I" } : Jvm.MethodName)) ∈ tbG := mt_8 (List.mem_of_getElem? (i := 45) (by decide +kernel)) rfl
theorem mw_1839 : (Jvm.Cond.instanceMethod ({ cls := "TaleCourtModel", name := "best", desc := "()I" } : Jvm.MethodName)) ∈ tbG := mt_8 (List.mem_of_getElem? (i := 46) (by decide +kernel)) rfl
theorem mw_1840 : (Jvm.Cond.selects "TaleCourtModel" ({ cls := "TaleCourtModel", name := "best", desc := "()I" } : Jvm.MethodName) ({ cls := "TaleCourtModel", name := "best", desc := "()I" } : Jvm.MethodName)) ∈ tbG := mt_8 (List.mem_of_getElem? (i := 47) (by decide +kernel)) rfl
theorem mw_1841 : (Jvm.Cond.code ({ cls := "TaleCourtModel", name := "best", desc := "()I" } : Jvm.MethodName) prog_11_method_85_code (1 : Nat) (Option.some Jvm.ClassFile.FieldType.int)) ∈ tbG := mt_8 (List.mem_of_getElem? (i := 48) (by decide +kernel)) rfl
theorem mw_1842 : (Jvm.Cond.methodLink "TaleCourtLaw" (140 : Nat) ({ cls := "TaleCourtModel", name := "tale", desc := "(I)I" } : Jvm.MethodName)) ∈ tbG := mt_8 (List.mem_of_getElem? (i := 49) (by decide +kernel)) rfl
theorem mw_1843 : (Jvm.Cond.instanceMethod ({ cls := "TaleCourtModel", name := "tale", desc := "(I)I" } : Jvm.MethodName)) ∈ tbG := mt_8 (List.mem_of_getElem? (i := 50) (by decide +kernel)) rfl
theorem mw_1844 : (Jvm.Cond.selects "TaleCourtModel" ({ cls := "TaleCourtModel", name := "tale", desc := "(I)I" } : Jvm.MethodName) ({ cls := "TaleCourtModel", name := "tale", desc := "(I)I" } : Jvm.MethodName)) ∈ tbG := mt_8 (List.mem_of_getElem? (i := 51) (by decide +kernel)) rfl
theorem mw_1845 : (Jvm.Cond.code ({ cls := "TaleCourtModel", name := "tale", desc := "(I)I" } : Jvm.MethodName) prog_11_method_86_code (2 : Nat) (Option.some Jvm.ClassFile.FieldType.int)) ∈ tbG := mt_8 (List.mem_of_getElem? (i := 52) (by decide +kernel)) rfl
theorem mw_1846 : (Jvm.Cond.methodLink "TaleCourtLaw" (144 : Nat) ({ cls := "TaleCourtModel", name := "roof", desc := "(I)I" } : Jvm.MethodName)) ∈ tbG := mt_8 (List.mem_of_getElem? (i := 53) (by decide +kernel)) rfl
theorem mw_1847 : (Jvm.Cond.instanceMethod ({ cls := "TaleCourtModel", name := "roof", desc := "(I)I" } : Jvm.MethodName)) ∈ tbG := mt_8 (List.mem_of_getElem? (i := 54) (by decide +kernel)) rfl
theorem mw_1848 : (Jvm.Cond.selects "TaleCourtModel" ({ cls := "TaleCourtModel", name := "roof", desc := "(I)I" } : Jvm.MethodName) ({ cls := "TaleCourtModel", name := "roof", desc := "(I)I" } : Jvm.MethodName)) ∈ tbG := mt_8 (List.mem_of_getElem? (i := 55) (by decide +kernel)) rfl
theorem mw_1849 : (Jvm.Cond.code ({ cls := "TaleCourtModel", name := "roof", desc := "(I)I" } : Jvm.MethodName) prog_11_method_87_code (2 : Nat) (Option.some Jvm.ClassFile.FieldType.int)) ∈ tbG := mt_8 (List.mem_of_getElem? (i := 56) (by decide +kernel)) rfl
theorem mw_1850 : (Jvm.Cond.methodLink "TaleCourtLaw" (148 : Nat) ({ cls := "TaleCourtModel", name := "beam", desc := "(II)I" } : Jvm.MethodName)) ∈ tbG := mt_8 (List.mem_of_getElem? (i := 57) (by decide +kernel)) rfl
theorem mw_1851 : (Jvm.Cond.instanceMethod ({ cls := "TaleCourtModel", name := "beam", desc := "(II)I" } : Jvm.MethodName)) ∈ tbG := mt_8 (List.mem_of_getElem? (i := 58) (by decide +kernel)) rfl
theorem mw_1852 : (Jvm.Cond.selects "TaleCourtModel" ({ cls := "TaleCourtModel", name := "beam", desc := "(II)I" } : Jvm.MethodName) ({ cls := "TaleCourtModel", name := "beam", desc := "(II)I" } : Jvm.MethodName)) ∈ tbG := mt_8 (List.mem_of_getElem? (i := 59) (by decide +kernel)) rfl
theorem mw_1853 : (Jvm.Cond.code ({ cls := "TaleCourtModel", name := "beam", desc := "(II)I" } : Jvm.MethodName) prog_11_method_88_code (3 : Nat) (Option.some Jvm.ClassFile.FieldType.int)) ∈ tbG := mt_8 (List.mem_of_getElem? (i := 60) (by decide +kernel)) rfl
theorem mw_1854 : (Jvm.Cond.methodLink "TaleCourtLaw" (152 : Nat) ({ cls := "TaleCourtModel", name := "rows", desc := "(I)I" } : Jvm.MethodName)) ∈ tbG := mt_8 (List.mem_of_getElem? (i := 61) (by decide +kernel)) rfl
theorem mw_1855 : (Jvm.Cond.instanceMethod ({ cls := "TaleCourtModel", name := "rows", desc := "(I)I" } : Jvm.MethodName)) ∈ tbG := mt_8 (List.mem_of_getElem? (i := 62) (by decide +kernel)) rfl
theorem mw_1856 : (Jvm.Cond.selects "TaleCourtModel" ({ cls := "TaleCourtModel", name := "rows", desc := "(I)I" } : Jvm.MethodName) ({ cls := "TaleCourtModel", name := "rows", desc := "(I)I" } : Jvm.MethodName)) ∈ tbG := mt_8 (List.mem_of_getElem? (i := 63) (by decide +kernel)) rfl
theorem mw_1857 : (Jvm.Cond.code ({ cls := "TaleCourtModel", name := "rows", desc := "(I)I" } : Jvm.MethodName) prog_11_method_89_code (2 : Nat) (Option.some Jvm.ClassFile.FieldType.int)) ∈ tbG := mt_8 (List.mem_of_getElem? (i := 64) (by decide +kernel)) rfl
theorem mw_1858 : (Jvm.Cond.constantLong "TaleCourtModel" (368 : Nat) (9 : Int64)) ∈ tbG := mt_8 (List.mem_of_getElem? (i := 65) (by decide +kernel)) rfl
theorem mw_1859 : (Jvm.Cond.methodLink "TaleCourtLaw" (156 : Nat) ({ cls := "TaleCourtModel", name := "wholes", desc := "()I" } : Jvm.MethodName)) ∈ tbG := mt_8 (List.mem_of_getElem? (i := 66) (by decide +kernel)) rfl
theorem mw_1860 : (Jvm.Cond.instanceMethod ({ cls := "TaleCourtModel", name := "wholes", desc := "()I" } : Jvm.MethodName)) ∈ tbG := mt_8 (List.mem_of_getElem? (i := 67) (by decide +kernel)) rfl
theorem mw_1861 : (Jvm.Cond.selects "TaleCourtModel" ({ cls := "TaleCourtModel", name := "wholes", desc := "()I" } : Jvm.MethodName) ({ cls := "TaleCourtModel", name := "wholes", desc := "()I" } : Jvm.MethodName)) ∈ tbG := mt_8 (List.mem_of_getElem? (i := 68) (by decide +kernel)) rfl
theorem mw_1862 : (Jvm.Cond.code ({ cls := "TaleCourtModel", name := "wholes", desc := "()I" } : Jvm.MethodName) prog_11_method_91_code (1 : Nat) (Option.some Jvm.ClassFile.FieldType.int)) ∈ tbG := mt_8 (List.mem_of_getElem? (i := 69) (by decide +kernel)) rfl
theorem mw_1863 : (Jvm.Cond.methodLink "TaleCourtModel" (370 : Nat) ({ cls := "TaleCourtModel", name := "wholesNow", desc := "()I" } : Jvm.MethodName)) ∈ tbG := mt_8 (List.mem_of_getElem? (i := 70) (by decide +kernel)) rfl
theorem mw_1865 : (Jvm.Cond.instanceMethod ({ cls := "TaleCourtModel", name := "wholesNow", desc := "()I" } : Jvm.MethodName)) ∈ tbG := mt_8 (List.mem_of_getElem? (i := 72) (by decide +kernel)) rfl
theorem mw_1866 : (Jvm.Cond.code ({ cls := "TaleCourtModel", name := "wholesNow", desc := "()I" } : Jvm.MethodName) prog_11_method_90_code (1 : Nat) (Option.some Jvm.ClassFile.FieldType.int)) ∈ tbG := mt_8 (List.mem_of_getElem? (i := 73) (by decide +kernel)) rfl
theorem mw_1867 : (Jvm.Cond.methodLink "TaleCourtLaw" (160 : Nat) ({ cls := "TaleCourtModel", name := "ends", desc := "(I)I" } : Jvm.MethodName)) ∈ tbG := mt_8 (List.mem_of_getElem? (i := 74) (by decide +kernel)) rfl
theorem mw_1868 : (Jvm.Cond.instanceMethod ({ cls := "TaleCourtModel", name := "ends", desc := "(I)I" } : Jvm.MethodName)) ∈ tbG := mt_8 (List.mem_of_getElem? (i := 75) (by decide +kernel)) rfl
theorem mw_1869 : (Jvm.Cond.selects "TaleCourtModel" ({ cls := "TaleCourtModel", name := "ends", desc := "(I)I" } : Jvm.MethodName) ({ cls := "TaleCourtModel", name := "ends", desc := "(I)I" } : Jvm.MethodName)) ∈ tbG := mt_8 (List.mem_of_getElem? (i := 76) (by decide +kernel)) rfl
theorem mw_1870 : (Jvm.Cond.code ({ cls := "TaleCourtModel", name := "ends", desc := "(I)I" } : Jvm.MethodName) prog_11_method_92_code (2 : Nat) (Option.some Jvm.ClassFile.FieldType.int)) ∈ tbG := mt_8 (List.mem_of_getElem? (i := 77) (by decide +kernel)) rfl
theorem mw_1871 : (Jvm.Cond.methodLink "TaleCourtLaw" (164 : Nat) ({ cls := "TaleCourtModel", name := "always", desc := "(I)I" } : Jvm.MethodName)) ∈ tbG := mt_8 (List.mem_of_getElem? (i := 78) (by decide +kernel)) rfl
theorem mw_1872 : (Jvm.Cond.instanceMethod ({ cls := "TaleCourtModel", name := "always", desc := "(I)I" } : Jvm.MethodName)) ∈ tbG := mt_8 (List.mem_of_getElem? (i := 79) (by decide +kernel)) rfl
theorem mw_1873 : (Jvm.Cond.selects "TaleCourtModel" ({ cls := "TaleCourtModel", name := "always", desc := "(I)I" } : Jvm.MethodName) ({ cls := "TaleCourtModel", name := "always", desc := "(I)I" } : Jvm.MethodName)) ∈ tbG := mt_8 (List.mem_of_getElem? (i := 80) (by decide +kernel)) rfl
theorem mw_1874 : (Jvm.Cond.code ({ cls := "TaleCourtModel", name := "always", desc := "(I)I" } : Jvm.MethodName) prog_11_method_93_code (2 : Nat) (Option.some Jvm.ClassFile.FieldType.int)) ∈ tbG := mt_8 (List.mem_of_getElem? (i := 81) (by decide +kernel)) rfl
theorem mw_1875 : (Jvm.Cond.methodLink "TaleCourtLaw" (168 : Nat) ({ cls := "TaleCourtModel", name := "wins", desc := "()I" } : Jvm.MethodName)) ∈ tbG := mt_8 (List.mem_of_getElem? (i := 82) (by decide +kernel)) rfl
theorem mw_1876 : (Jvm.Cond.instanceMethod ({ cls := "TaleCourtModel", name := "wins", desc := "()I" } : Jvm.MethodName)) ∈ tbG := mt_8 (List.mem_of_getElem? (i := 83) (by decide +kernel)) rfl
theorem mw_1877 : (Jvm.Cond.selects "TaleCourtModel" ({ cls := "TaleCourtModel", name := "wins", desc := "()I" } : Jvm.MethodName) ({ cls := "TaleCourtModel", name := "wins", desc := "()I" } : Jvm.MethodName)) ∈ tbG := mt_8 (List.mem_of_getElem? (i := 84) (by decide +kernel)) rfl
theorem mw_1878 : (Jvm.Cond.code ({ cls := "TaleCourtModel", name := "wins", desc := "()I" } : Jvm.MethodName) prog_11_method_103_code (2 : Nat) (Option.some Jvm.ClassFile.FieldType.int)) ∈ tbG := mt_8 (List.mem_of_getElem? (i := 85) (by decide +kernel)) rfl
theorem mw_1879 : (Jvm.Cond.methodLink "TaleCourtModel" (400 : Nat) ({ cls := "TaleCourtModel", name := "whyNoGame", desc := "()I" } : Jvm.MethodName)) ∈ tbG := mt_8 (List.mem_of_getElem? (i := 86) (by decide +kernel)) rfl
theorem mw_1881 : (Jvm.Cond.instanceMethod ({ cls := "TaleCourtModel", name := "whyNoGame", desc := "()I" } : Jvm.MethodName)) ∈ tbG := mt_8 (List.mem_of_getElem? (i := 88) (by decide +kernel)) rfl
theorem mw_1882 : (Jvm.Cond.code ({ cls := "TaleCourtModel", name := "whyNoGame", desc := "()I" } : Jvm.MethodName) prog_11_method_102_code (1 : Nat) (Option.some Jvm.ClassFile.FieldType.int)) ∈ tbG := mt_8 (List.mem_of_getElem? (i := 89) (by decide +kernel)) rfl
theorem mw_1883 : (Jvm.Cond.methodLink "TaleCourtModel" (403 : Nat) ({ cls := "TaleCourtModel", name := "outcomeNow", desc := "()I" } : Jvm.MethodName)) ∈ tbG := mt_8 (List.mem_of_getElem? (i := 90) (by decide +kernel)) rfl
theorem mw_1885 : (Jvm.Cond.instanceMethod ({ cls := "TaleCourtModel", name := "outcomeNow", desc := "()I" } : Jvm.MethodName)) ∈ tbG := mt_8 (List.mem_of_getElem? (i := 92) (by decide +kernel)) rfl
theorem mw_1886 : (Jvm.Cond.code ({ cls := "TaleCourtModel", name := "outcomeNow", desc := "()I" } : Jvm.MethodName) prog_11_method_100_code (1 : Nat) (Option.some Jvm.ClassFile.FieldType.int)) ∈ tbG := mt_8 (List.mem_of_getElem? (i := 93) (by decide +kernel)) rfl
theorem mw_1887 : (Jvm.Cond.methodLink "TaleCourtModel" (391 : Nat) ({ cls := "TaleCourtModel", name := "startsGame", desc := "()V" } : Jvm.MethodName)) ∈ tbG := mt_8 (List.mem_of_getElem? (i := 94) (by decide +kernel)) rfl
theorem mw_1889 : (Jvm.Cond.instanceMethod ({ cls := "TaleCourtModel", name := "startsGame", desc := "()V" } : Jvm.MethodName)) ∈ tbG := mt_8 (List.mem_of_getElem? (i := 96) (by decide +kernel)) rfl
theorem mw_1890 : (Jvm.Cond.code ({ cls := "TaleCourtModel", name := "startsGame", desc := "()V" } : Jvm.MethodName) prog_11_method_94_code (2 : Nat) (Option.none : Option Jvm.ClassFile.FieldType)) ∈ tbG := mt_8 (List.mem_of_getElem? (i := 97) (by decide +kernel)) rfl
theorem mw_1891 : (Jvm.Cond.methodLink "TaleCourtModel" (384 : Nat) ({ cls := "TaleCourtModel", name := "plays", desc := "(IIIII)I" } : Jvm.MethodName)) ∈ tbG := mt_8 (List.mem_of_getElem? (i := 98) (by decide +kernel)) rfl
theorem mw_1893 : (Jvm.Cond.instanceMethod ({ cls := "TaleCourtModel", name := "plays", desc := "(IIIII)I" } : Jvm.MethodName)) ∈ tbG := mt_8 (List.mem_of_getElem? (i := 100) (by decide +kernel)) rfl
theorem mw_1894 : (Jvm.Cond.code ({ cls := "TaleCourtModel", name := "plays", desc := "(IIIII)I" } : Jvm.MethodName) prog_11_method_97_code (12 : Nat) (Option.some Jvm.ClassFile.FieldType.int)) ∈ tbG := mt_8 (List.mem_of_getElem? (i := 101) (by decide +kernel)) rfl
theorem mw_1895 : (Jvm.Cond.methodLink "TaleCourtModel" (373 : Nat) ({ cls := "TaleCourtModel", name := "stateOf", desc := "(IIIII)I" } : Jvm.MethodName)) ∈ tbG := mt_8 (List.mem_of_getElem? (i := 102) (by decide +kernel)) rfl
theorem mw_1897 : (Jvm.Cond.instanceMethod ({ cls := "TaleCourtModel", name := "stateOf", desc := "(IIIII)I" } : Jvm.MethodName)) ∈ tbG := mt_8 (List.mem_of_getElem? (i := 104) (by decide +kernel)) rfl
theorem mw_1898 : (Jvm.Cond.code ({ cls := "TaleCourtModel", name := "stateOf", desc := "(IIIII)I" } : Jvm.MethodName) prog_11_method_96_code (6 : Nat) (Option.some Jvm.ClassFile.FieldType.int)) ∈ tbG := mt_8 (List.mem_of_getElem? (i := 105) (by decide +kernel)) rfl
theorem mw_1899 : (Jvm.Cond.methodLink "TaleCourtModel" (377 : Nat) ({ cls := "TaleCourtModel", name := "act", desc := "(IIIIII)I" } : Jvm.MethodName)) ∈ tbG := mt_8 (List.mem_of_getElem? (i := 106) (by decide +kernel)) rfl
theorem mw_1901 : (Jvm.Cond.instanceMethod ({ cls := "TaleCourtModel", name := "act", desc := "(IIIIII)I" } : Jvm.MethodName)) ∈ tbG := mt_8 (List.mem_of_getElem? (i := 108) (by decide +kernel)) rfl
theorem mw_1902 : (Jvm.Cond.code ({ cls := "TaleCourtModel", name := "act", desc := "(IIIIII)I" } : Jvm.MethodName) prog_11_method_99_code (7 : Nat) (Option.some Jvm.ClassFile.FieldType.int)) ∈ tbG := mt_8 (List.mem_of_getElem? (i := 109) (by decide +kernel)) rfl
theorem mw_1903 : (Jvm.Cond.methodLink "TaleCourtModel" (387 : Nat) ({ cls := "TaleCourtModel", name := "mayPlay", desc := "(IIII)Z" } : Jvm.MethodName)) ∈ tbG := mt_8 (List.mem_of_getElem? (i := 110) (by decide +kernel)) rfl
theorem mw_1905 : (Jvm.Cond.instanceMethod ({ cls := "TaleCourtModel", name := "mayPlay", desc := "(IIII)Z" } : Jvm.MethodName)) ∈ tbG := mt_8 (List.mem_of_getElem? (i := 112) (by decide +kernel)) rfl
theorem mw_1906 : (Jvm.Cond.code ({ cls := "TaleCourtModel", name := "mayPlay", desc := "(IIII)Z" } : Jvm.MethodName) prog_11_method_95_code (5 : Nat) (Option.some Jvm.ClassFile.FieldType.boolean)) ∈ tbG := mt_8 (List.mem_of_getElem? (i := 113) (by decide +kernel)) rfl
theorem mw_1907 : (Jvm.Cond.methodLink "TaleCourtModel" (381 : Nat) ({ cls := "TaleCourtModel", name := "isBetter", desc := "(II)Z" } : Jvm.MethodName)) ∈ tbG := mt_8 (List.mem_of_getElem? (i := 114) (by decide +kernel)) rfl
theorem mw_1908 : (Jvm.Cond.static ({ cls := "TaleCourtModel", name := "isBetter", desc := "(II)Z" } : Jvm.MethodName)) ∈ tbG := mt_8 (List.mem_of_getElem? (i := 115) (by decide +kernel)) rfl
theorem mw_1909 : (Jvm.Cond.code ({ cls := "TaleCourtModel", name := "isBetter", desc := "(II)Z" } : Jvm.MethodName) prog_11_method_98_code (2 : Nat) (Option.some Jvm.ClassFile.FieldType.boolean)) ∈ tbG := mt_8 (List.mem_of_getElem? (i := 116) (by decide +kernel)) rfl
theorem mw_1910 : (Jvm.Cond.methodLink "TaleCourtLaw" (172 : Nat) ({ cls := "TaleCourtModel", name := "move", desc := "()I" } : Jvm.MethodName)) ∈ tbG := mt_8 (List.mem_of_getElem? (i := 117) (by decide +kernel)) rfl
theorem mw_1911 : (Jvm.Cond.instanceMethod ({ cls := "TaleCourtModel", name := "move", desc := "()I" } : Jvm.MethodName)) ∈ tbG := mt_8 (List.mem_of_getElem? (i := 118) (by decide +kernel)) rfl
theorem mw_1912 : (Jvm.Cond.selects "TaleCourtModel" ({ cls := "TaleCourtModel", name := "move", desc := "()I" } : Jvm.MethodName) ({ cls := "TaleCourtModel", name := "move", desc := "()I" } : Jvm.MethodName)) ∈ tbG := mt_8 (List.mem_of_getElem? (i := 119) (by decide +kernel)) rfl
theorem mw_1913 : (Jvm.Cond.code ({ cls := "TaleCourtModel", name := "move", desc := "()I" } : Jvm.MethodName) prog_11_method_104_code (3 : Nat) (Option.some Jvm.ClassFile.FieldType.int)) ∈ tbG := mt_8 (List.mem_of_getElem? (i := 120) (by decide +kernel)) rfl
theorem mw_1914 : (Jvm.Cond.methodLink "TaleCourtModel" (406 : Nat) ({ cls := "TaleCourtModel", name := "winsBy", desc := "(I)Z" } : Jvm.MethodName)) ∈ tbG := mt_8 (List.mem_of_getElem? (i := 121) (by decide +kernel)) rfl
theorem mw_1916 : (Jvm.Cond.instanceMethod ({ cls := "TaleCourtModel", name := "winsBy", desc := "(I)Z" } : Jvm.MethodName)) ∈ tbG := mt_8 (List.mem_of_getElem? (i := 123) (by decide +kernel)) rfl
theorem mw_1917 : (Jvm.Cond.code ({ cls := "TaleCourtModel", name := "winsBy", desc := "(I)Z" } : Jvm.MethodName) prog_11_method_101_code (3 : Nat) (Option.some Jvm.ClassFile.FieldType.boolean)) ∈ tbG := mt_8 (List.mem_of_getElem? (i := 124) (by decide +kernel)) rfl
theorem mw_1918 : (Jvm.Cond.methodLink "TaleCourtLaw" (176 : Nat) ({ cls := "TaleCourtModel", name := "lasts", desc := "()I" } : Jvm.MethodName)) ∈ tbG := mt_8 (List.mem_of_getElem? (i := 125) (by decide +kernel)) rfl
theorem mw_1919 : (Jvm.Cond.instanceMethod ({ cls := "TaleCourtModel", name := "lasts", desc := "()I" } : Jvm.MethodName)) ∈ tbG := mt_8 (List.mem_of_getElem? (i := 126) (by decide +kernel)) rfl
theorem mw_1920 : (Jvm.Cond.selects "TaleCourtModel" ({ cls := "TaleCourtModel", name := "lasts", desc := "()I" } : Jvm.MethodName) ({ cls := "TaleCourtModel", name := "lasts", desc := "()I" } : Jvm.MethodName)) ∈ tbG := mt_8 (List.mem_of_getElem? (i := 127) (by decide +kernel)) rfl
theorem mw_1921 : (Jvm.Cond.code ({ cls := "TaleCourtModel", name := "lasts", desc := "()I" } : Jvm.MethodName) prog_11_method_105_code (2 : Nat) (Option.some Jvm.ClassFile.FieldType.int)) ∈ tbG := mt_8 (List.mem_of_getElem? (i := 128) (by decide +kernel)) rfl
theorem mw_1922 : (Jvm.Cond.methodLink "TaleCourtLaw" (180 : Nat) ({ cls := "TaleCourtModel", name := "good", desc := "()I" } : Jvm.MethodName)) ∈ tbG := mt_8 (List.mem_of_getElem? (i := 129) (by decide +kernel)) rfl
theorem mw_1923 : (Jvm.Cond.instanceMethod ({ cls := "TaleCourtModel", name := "good", desc := "()I" } : Jvm.MethodName)) ∈ tbG := mt_8 (List.mem_of_getElem? (i := 130) (by decide +kernel)) rfl
theorem mw_1924 : (Jvm.Cond.selects "TaleCourtModel" ({ cls := "TaleCourtModel", name := "good", desc := "()I" } : Jvm.MethodName) ({ cls := "TaleCourtModel", name := "good", desc := "()I" } : Jvm.MethodName)) ∈ tbG := mt_8 (List.mem_of_getElem? (i := 131) (by decide +kernel)) rfl
theorem mw_1925 : (Jvm.Cond.code ({ cls := "TaleCourtModel", name := "good", desc := "()I" } : Jvm.MethodName) prog_11_method_106_code (4 : Nat) (Option.some Jvm.ClassFile.FieldType.int)) ∈ tbG := mt_8 (List.mem_of_getElem? (i := 132) (by decide +kernel)) rfl
theorem mw_1926 : (Jvm.Cond.methodLink "TaleCourtLaw" (184 : Nat) ({ cls := "TaleCourtModel", name := "kept", desc := "(II)I" } : Jvm.MethodName)) ∈ tbG := mt_8 (List.mem_of_getElem? (i := 133) (by decide +kernel)) rfl
theorem mw_1927 : (Jvm.Cond.instanceMethod ({ cls := "TaleCourtModel", name := "kept", desc := "(II)I" } : Jvm.MethodName)) ∈ tbG := mt_8 (List.mem_of_getElem? (i := 134) (by decide +kernel)) rfl
theorem mw_1928 : (Jvm.Cond.selects "TaleCourtModel" ({ cls := "TaleCourtModel", name := "kept", desc := "(II)I" } : Jvm.MethodName) ({ cls := "TaleCourtModel", name := "kept", desc := "(II)I" } : Jvm.MethodName)) ∈ tbG := mt_8 (List.mem_of_getElem? (i := 135) (by decide +kernel)) rfl
theorem mw_1929 : (Jvm.Cond.code ({ cls := "TaleCourtModel", name := "kept", desc := "(II)I" } : Jvm.MethodName) prog_11_method_107_code (6 : Nat) (Option.some Jvm.ClassFile.FieldType.int)) ∈ tbG := mt_8 (List.mem_of_getElem? (i := 136) (by decide +kernel)) rfl
theorem mw_1930 : (Jvm.Cond.methodLink "TaleCourtLaw" (188 : Nat) ({ cls := "TaleCourtModel", name := "trade", desc := "()I" } : Jvm.MethodName)) ∈ tbG := mt_8 (List.mem_of_getElem? (i := 137) (by decide +kernel)) rfl
theorem mw_1931 : (Jvm.Cond.instanceMethod ({ cls := "TaleCourtModel", name := "trade", desc := "()I" } : Jvm.MethodName)) ∈ tbG := mt_8 (List.mem_of_getElem? (i := 138) (by decide +kernel)) rfl
theorem mw_1932 : (Jvm.Cond.selects "TaleCourtModel" ({ cls := "TaleCourtModel", name := "trade", desc := "()I" } : Jvm.MethodName) ({ cls := "TaleCourtModel", name := "trade", desc := "()I" } : Jvm.MethodName)) ∈ tbG := mt_8 (List.mem_of_getElem? (i := 139) (by decide +kernel)) rfl
theorem mw_1933 : (Jvm.Cond.code ({ cls := "TaleCourtModel", name := "trade", desc := "()I" } : Jvm.MethodName) prog_11_method_109_code (5 : Nat) (Option.some Jvm.ClassFile.FieldType.int)) ∈ tbG := mt_8 (List.mem_of_getElem? (i := 140) (by decide +kernel)) rfl
theorem mw_1934 : (Jvm.Cond.methodLink "TaleCourtModel" (409 : Nat) ({ cls := "TaleCourtModel", name := "changes", desc := "(II)V" } : Jvm.MethodName)) ∈ tbG := mt_8 (List.mem_of_getElem? (i := 141) (by decide +kernel)) rfl
theorem mw_1936 : (Jvm.Cond.instanceMethod ({ cls := "TaleCourtModel", name := "changes", desc := "(II)V" } : Jvm.MethodName)) ∈ tbG := mt_8 (List.mem_of_getElem? (i := 143) (by decide +kernel)) rfl
theorem mw_1937 : (Jvm.Cond.code ({ cls := "TaleCourtModel", name := "changes", desc := "(II)V" } : Jvm.MethodName) prog_11_method_108_code (4 : Nat) (Option.none : Option Jvm.ClassFile.FieldType)) ∈ tbG := mt_8 (List.mem_of_getElem? (i := 144) (by decide +kernel)) rfl
theorem mw_1938 : (Jvm.Cond.methodLink "TaleCourtLaw" (192 : Nat) ({ cls := "TaleCourtModel", name := "keeps", desc := "(II)I" } : Jvm.MethodName)) ∈ tbG := mt_8 (List.mem_of_getElem? (i := 145) (by decide +kernel)) rfl
theorem mw_1939 : (Jvm.Cond.instanceMethod ({ cls := "TaleCourtModel", name := "keeps", desc := "(II)I" } : Jvm.MethodName)) ∈ tbG := mt_8 (List.mem_of_getElem? (i := 146) (by decide +kernel)) rfl
theorem mw_1940 : (Jvm.Cond.selects "TaleCourtModel" ({ cls := "TaleCourtModel", name := "keeps", desc := "(II)I" } : Jvm.MethodName) ({ cls := "TaleCourtModel", name := "keeps", desc := "(II)I" } : Jvm.MethodName)) ∈ tbG := mt_8 (List.mem_of_getElem? (i := 147) (by decide +kernel)) rfl
theorem mw_1941 : (Jvm.Cond.code ({ cls := "TaleCourtModel", name := "keeps", desc := "(II)I" } : Jvm.MethodName) prog_11_method_110_code (4 : Nat) (Option.some Jvm.ClassFile.FieldType.int)) ∈ tbG := mt_8 (List.mem_of_getElem? (i := 148) (by decide +kernel)) rfl
theorem mw_1942 : (Jvm.Cond.methodLink "TaleCourtLaw" (196 : Nat) ({ cls := "TaleCourtModel", name := "forbid", desc := "(II)I" } : Jvm.MethodName)) ∈ tbG := mt_8 (List.mem_of_getElem? (i := 149) (by decide +kernel)) rfl
theorem mw_1943 : (Jvm.Cond.instanceMethod ({ cls := "TaleCourtModel", name := "forbid", desc := "(II)I" } : Jvm.MethodName)) ∈ tbG := mt_8 (List.mem_of_getElem? (i := 150) (by decide +kernel)) rfl
theorem mw_1944 : (Jvm.Cond.selects "TaleCourtModel" ({ cls := "TaleCourtModel", name := "forbid", desc := "(II)I" } : Jvm.MethodName) ({ cls := "TaleCourtModel", name := "forbid", desc := "(II)I" } : Jvm.MethodName)) ∈ tbG := mt_8 (List.mem_of_getElem? (i := 151) (by decide +kernel)) rfl
theorem mw_1945 : (Jvm.Cond.code ({ cls := "TaleCourtModel", name := "forbid", desc := "(II)I" } : Jvm.MethodName) prog_11_method_111_code (4 : Nat) (Option.some Jvm.ClassFile.FieldType.int)) ∈ tbG := mt_8 (List.mem_of_getElem? (i := 152) (by decide +kernel)) rfl
theorem mw_1946 : (Jvm.Cond.methodLink "TaleCourtLaw" (200 : Nat) ({ cls := "TaleCourtModel", name := "around", desc := "(I)I" } : Jvm.MethodName)) ∈ tbG := mt_8 (List.mem_of_getElem? (i := 153) (by decide +kernel)) rfl
theorem mw_1947 : (Jvm.Cond.instanceMethod ({ cls := "TaleCourtModel", name := "around", desc := "(I)I" } : Jvm.MethodName)) ∈ tbG := mt_8 (List.mem_of_getElem? (i := 154) (by decide +kernel)) rfl
theorem mw_1948 : (Jvm.Cond.selects "TaleCourtModel" ({ cls := "TaleCourtModel", name := "around", desc := "(I)I" } : Jvm.MethodName) ({ cls := "TaleCourtModel", name := "around", desc := "(I)I" } : Jvm.MethodName)) ∈ tbG := mt_8 (List.mem_of_getElem? (i := 155) (by decide +kernel)) rfl
theorem mw_1949 : (Jvm.Cond.code ({ cls := "TaleCourtModel", name := "around", desc := "(I)I" } : Jvm.MethodName) prog_11_method_112_code (2 : Nat) (Option.some Jvm.ClassFile.FieldType.int)) ∈ tbG := mt_8 (List.mem_of_getElem? (i := 156) (by decide +kernel)) rfl
theorem mw_1950 : (Jvm.Cond.methodLink "TaleCourtLaw" (204 : Nat) ({ cls := "TaleCourtModel", name := "blunder", desc := "()I" } : Jvm.MethodName)) ∈ tbG := mt_8 (List.mem_of_getElem? (i := 157) (by decide +kernel)) rfl
theorem mw_1951 : (Jvm.Cond.instanceMethod ({ cls := "TaleCourtModel", name := "blunder", desc := "()I" } : Jvm.MethodName)) ∈ tbG := mt_8 (List.mem_of_getElem? (i := 158) (by decide +kernel)) rfl
theorem mw_1952 : (Jvm.Cond.selects "TaleCourtModel" ({ cls := "TaleCourtModel", name := "blunder", desc := "()I" } : Jvm.MethodName) ({ cls := "TaleCourtModel", name := "blunder", desc := "()I" } : Jvm.MethodName)) ∈ tbG := mt_8 (List.mem_of_getElem? (i := 159) (by decide +kernel)) rfl
theorem mw_1953 : (Jvm.Cond.code ({ cls := "TaleCourtModel", name := "blunder", desc := "()I" } : Jvm.MethodName) prog_11_method_113_code (6 : Nat) (Option.some Jvm.ClassFile.FieldType.int)) ∈ tbG := mt_8 (List.mem_of_getElem? (i := 160) (by decide +kernel)) rfl
theorem mw_1954 : (Jvm.Cond.methodLink "TaleCourtLaw" (208 : Nat) ({ cls := "TaleCourtModel", name := "lack", desc := "(I)I" } : Jvm.MethodName)) ∈ tbG := mt_8 (List.mem_of_getElem? (i := 161) (by decide +kernel)) rfl
theorem mw_1955 : (Jvm.Cond.instanceMethod ({ cls := "TaleCourtModel", name := "lack", desc := "(I)I" } : Jvm.MethodName)) ∈ tbG := mt_8 (List.mem_of_getElem? (i := 162) (by decide +kernel)) rfl
theorem mw_1956 : (Jvm.Cond.selects "TaleCourtModel" ({ cls := "TaleCourtModel", name := "lack", desc := "(I)I" } : Jvm.MethodName) ({ cls := "TaleCourtModel", name := "lack", desc := "(I)I" } : Jvm.MethodName)) ∈ tbG := mt_8 (List.mem_of_getElem? (i := 163) (by decide +kernel)) rfl
theorem mw_1957 : (Jvm.Cond.code ({ cls := "TaleCourtModel", name := "lack", desc := "(I)I" } : Jvm.MethodName) prog_11_method_115_code (2 : Nat) (Option.some Jvm.ClassFile.FieldType.int)) ∈ tbG := mt_8 (List.mem_of_getElem? (i := 164) (by decide +kernel)) rfl
theorem mw_1958 : (Jvm.Cond.methodLink "TaleCourtModel" (412 : Nat) ({ cls := "TaleCourtModel", name := "wholesWithout", desc := "(I)I" } : Jvm.MethodName)) ∈ tbG := mt_8 (List.mem_of_getElem? (i := 165) (by decide +kernel)) rfl
theorem mw_1960 : (Jvm.Cond.instanceMethod ({ cls := "TaleCourtModel", name := "wholesWithout", desc := "(I)I" } : Jvm.MethodName)) ∈ tbG := mt_8 (List.mem_of_getElem? (i := 167) (by decide +kernel)) rfl
theorem mw_1961 : (Jvm.Cond.code ({ cls := "TaleCourtModel", name := "wholesWithout", desc := "(I)I" } : Jvm.MethodName) prog_11_method_114_code (3 : Nat) (Option.some Jvm.ClassFile.FieldType.int)) ∈ tbG := mt_8 (List.mem_of_getElem? (i := 168) (by decide +kernel)) rfl
theorem mw_1962 : (Jvm.Cond.methodLink "TaleCourtLaw" (212 : Nat) ({ cls := "TaleCourtModel", name := "crux", desc := "()I" } : Jvm.MethodName)) ∈ tbG := mt_8 (List.mem_of_getElem? (i := 169) (by decide +kernel)) rfl
theorem mw_1963 : (Jvm.Cond.instanceMethod ({ cls := "TaleCourtModel", name := "crux", desc := "()I" } : Jvm.MethodName)) ∈ tbG := mt_8 (List.mem_of_getElem? (i := 170) (by decide +kernel)) rfl
theorem mw_1964 : (Jvm.Cond.selects "TaleCourtModel" ({ cls := "TaleCourtModel", name := "crux", desc := "()I" } : Jvm.MethodName) ({ cls := "TaleCourtModel", name := "crux", desc := "()I" } : Jvm.MethodName)) ∈ tbG := mt_8 (List.mem_of_getElem? (i := 171) (by decide +kernel)) rfl
theorem mw_1965 : (Jvm.Cond.code ({ cls := "TaleCourtModel", name := "crux", desc := "()I" } : Jvm.MethodName) prog_11_method_116_code (5 : Nat) (Option.some Jvm.ClassFile.FieldType.int)) ∈ tbG := mt_8 (List.mem_of_getElem? (i := 172) (by decide +kernel)) rfl
theorem mw_1966 : (Jvm.Cond.methodLink "TaleCourtLaw" (216 : Nat) ({ cls := "TaleCourtModel", name := "cost", desc := "(I)I" } : Jvm.MethodName)) ∈ tbG := mt_8 (List.mem_of_getElem? (i := 173) (by decide +kernel)) rfl
theorem mw_1967 : (Jvm.Cond.instanceMethod ({ cls := "TaleCourtModel", name := "cost", desc := "(I)I" } : Jvm.MethodName)) ∈ tbG := mt_8 (List.mem_of_getElem? (i := 174) (by decide +kernel)) rfl
theorem mw_1968 : (Jvm.Cond.selects "TaleCourtModel" ({ cls := "TaleCourtModel", name := "cost", desc := "(I)I" } : Jvm.MethodName) ({ cls := "TaleCourtModel", name := "cost", desc := "(I)I" } : Jvm.MethodName)) ∈ tbG := mt_8 (List.mem_of_getElem? (i := 175) (by decide +kernel)) rfl
theorem mw_1969 : (Jvm.Cond.code ({ cls := "TaleCourtModel", name := "cost", desc := "(I)I" } : Jvm.MethodName) prog_11_method_117_code (3 : Nat) (Option.some Jvm.ClassFile.FieldType.int)) ∈ tbG := mt_8 (List.mem_of_getElem? (i := 176) (by decide +kernel)) rfl
theorem mw_1970 : (Jvm.Cond.methodLink "TaleCourtLaw" (220 : Nat) ({ cls := "TaleCourtModel", name := "judge", desc := "(I)I" } : Jvm.MethodName)) ∈ tbG := mt_8 (List.mem_of_getElem? (i := 177) (by decide +kernel)) rfl
theorem mw_1971 : (Jvm.Cond.instanceMethod ({ cls := "TaleCourtModel", name := "judge", desc := "(I)I" } : Jvm.MethodName)) ∈ tbG := mt_8 (List.mem_of_getElem? (i := 178) (by decide +kernel)) rfl
theorem mw_1972 : (Jvm.Cond.selects "TaleCourtModel" ({ cls := "TaleCourtModel", name := "judge", desc := "(I)I" } : Jvm.MethodName) ({ cls := "TaleCourtModel", name := "judge", desc := "(I)I" } : Jvm.MethodName)) ∈ tbG := mt_8 (List.mem_of_getElem? (i := 179) (by decide +kernel)) rfl
theorem mw_1973 : (Jvm.Cond.code ({ cls := "TaleCourtModel", name := "judge", desc := "(I)I" } : Jvm.MethodName) prog_11_method_120_code (3 : Nat) (Option.some Jvm.ClassFile.FieldType.int)) ∈ tbG := mt_8 (List.mem_of_getElem? (i := 180) (by decide +kernel)) rfl
theorem mw_1974 : (Jvm.Cond.methodLink "TaleCourtModel" (418 : Nat) ({ cls := "TaleCourtModel", name := "whyNoRow", desc := "(I)I" } : Jvm.MethodName)) ∈ tbG := mt_8 (List.mem_of_getElem? (i := 181) (by decide +kernel)) rfl
theorem mw_1976 : (Jvm.Cond.instanceMethod ({ cls := "TaleCourtModel", name := "whyNoRow", desc := "(I)I" } : Jvm.MethodName)) ∈ tbG := mt_8 (List.mem_of_getElem? (i := 183) (by decide +kernel)) rfl
theorem mw_1977 : (Jvm.Cond.code ({ cls := "TaleCourtModel", name := "whyNoRow", desc := "(I)I" } : Jvm.MethodName) prog_11_method_119_code (2 : Nat) (Option.some Jvm.ClassFile.FieldType.int)) ∈ tbG := mt_8 (List.mem_of_getElem? (i := 184) (by decide +kernel)) rfl
theorem mw_1978 : (Jvm.Cond.methodLink "TaleCourtModel" (421 : Nat) ({ cls := "TaleCourtModel", name := "judges", desc := "(I)I" } : Jvm.MethodName)) ∈ tbG := mt_8 (List.mem_of_getElem? (i := 185) (by decide +kernel)) rfl
theorem mw_1980 : (Jvm.Cond.instanceMethod ({ cls := "TaleCourtModel", name := "judges", desc := "(I)I" } : Jvm.MethodName)) ∈ tbG := mt_8 (List.mem_of_getElem? (i := 187) (by decide +kernel)) rfl
theorem mw_1981 : (Jvm.Cond.code ({ cls := "TaleCourtModel", name := "judges", desc := "(I)I" } : Jvm.MethodName) prog_11_method_118_code (5 : Nat) (Option.some Jvm.ClassFile.FieldType.int)) ∈ tbG := mt_8 (List.mem_of_getElem? (i := 188) (by decide +kernel)) rfl
theorem mw_1982 : (Jvm.Cond.methodLink "TaleCourtLaw" (224 : Nat) ({ cls := "TaleCourtModel", name := "verdict", desc := "(I)I" } : Jvm.MethodName)) ∈ tbG := mt_8 (List.mem_of_getElem? (i := 189) (by decide +kernel)) rfl
theorem mw_1983 : (Jvm.Cond.instanceMethod ({ cls := "TaleCourtModel", name := "verdict", desc := "(I)I" } : Jvm.MethodName)) ∈ tbG := mt_8 (List.mem_of_getElem? (i := 190) (by decide +kernel)) rfl
theorem mw_1984 : (Jvm.Cond.selects "TaleCourtModel" ({ cls := "TaleCourtModel", name := "verdict", desc := "(I)I" } : Jvm.MethodName) ({ cls := "TaleCourtModel", name := "verdict", desc := "(I)I" } : Jvm.MethodName)) ∈ tbG := mt_8 (List.mem_of_getElem? (i := 191) (by decide +kernel)) rfl
theorem mw_1985 : (Jvm.Cond.code ({ cls := "TaleCourtModel", name := "verdict", desc := "(I)I" } : Jvm.MethodName) prog_11_method_121_code (3 : Nat) (Option.some Jvm.ClassFile.FieldType.int)) ∈ tbG := mt_8 (List.mem_of_getElem? (i := 192) (by decide +kernel)) rfl
theorem mw_1986 : (Jvm.Cond.methodLink "TaleCourtLaw" (228 : Nat) ({ cls := "TaleCourtModel", name := "lies", desc := "(I)I" } : Jvm.MethodName)) ∈ tbG := mt_8 (List.mem_of_getElem? (i := 193) (by decide +kernel)) rfl
theorem mw_1987 : (Jvm.Cond.instanceMethod ({ cls := "TaleCourtModel", name := "lies", desc := "(I)I" } : Jvm.MethodName)) ∈ tbG := mt_8 (List.mem_of_getElem? (i := 194) (by decide +kernel)) rfl
theorem mw_1988 : (Jvm.Cond.selects "TaleCourtModel" ({ cls := "TaleCourtModel", name := "lies", desc := "(I)I" } : Jvm.MethodName) ({ cls := "TaleCourtModel", name := "lies", desc := "(I)I" } : Jvm.MethodName)) ∈ tbG := mt_8 (List.mem_of_getElem? (i := 195) (by decide +kernel)) rfl
theorem mw_1989 : (Jvm.Cond.code ({ cls := "TaleCourtModel", name := "lies", desc := "(I)I" } : Jvm.MethodName) prog_11_method_125_code (3 : Nat) (Option.some Jvm.ClassFile.FieldType.int)) ∈ tbG := mt_8 (List.mem_of_getElem? (i := 196) (by decide +kernel)) rfl
theorem mw_1990 : (Jvm.Cond.methodLink "TaleCourtModel" (427 : Nat) ({ cls := "TaleCourtModel", name := "whyNotTold", desc := "(II)I" } : Jvm.MethodName)) ∈ tbG := mt_8 (List.mem_of_getElem? (i := 197) (by decide +kernel)) rfl
theorem mw_1992 : (Jvm.Cond.instanceMethod ({ cls := "TaleCourtModel", name := "whyNotTold", desc := "(II)I" } : Jvm.MethodName)) ∈ tbG := mt_8 (List.mem_of_getElem? (i := 199) (by decide +kernel)) rfl
theorem mw_1993 : (Jvm.Cond.code ({ cls := "TaleCourtModel", name := "whyNotTold", desc := "(II)I" } : Jvm.MethodName) prog_11_method_123_code (9 : Nat) (Option.some Jvm.ClassFile.FieldType.int)) ∈ tbG := mt_8 (List.mem_of_getElem? (i := 200) (by decide +kernel)) rfl
theorem mw_1994 : (Jvm.Cond.methodLink "TaleCourtModel" (430 : Nat) ({ cls := "TaleCourtModel", name := "laysUntrue", desc := "(III)V" } : Jvm.MethodName)) ∈ tbG := mt_8 (List.mem_of_getElem? (i := 201) (by decide +kernel)) rfl
theorem mw_1996 : (Jvm.Cond.instanceMethod ({ cls := "TaleCourtModel", name := "laysUntrue", desc := "(III)V" } : Jvm.MethodName)) ∈ tbG := mt_8 (List.mem_of_getElem? (i := 203) (by decide +kernel)) rfl
theorem mw_1997 : (Jvm.Cond.code ({ cls := "TaleCourtModel", name := "laysUntrue", desc := "(III)V" } : Jvm.MethodName) prog_11_method_124_code (10 : Nat) (Option.none : Option Jvm.ClassFile.FieldType)) ∈ tbG := mt_8 (List.mem_of_getElem? (i := 204) (by decide +kernel)) rfl
theorem mw_1998 : (Jvm.Cond.methodLink "TaleCourtLaw" (232 : Nat) ({ cls := "TaleCourtModel", name := "orders", desc := "(I)I" } : Jvm.MethodName)) ∈ tbG := mt_8 (List.mem_of_getElem? (i := 205) (by decide +kernel)) rfl
theorem mw_1999 : (Jvm.Cond.instanceMethod ({ cls := "TaleCourtModel", name := "orders", desc := "(I)I" } : Jvm.MethodName)) ∈ tbG := mt_8 (List.mem_of_getElem? (i := 206) (by decide +kernel)) rfl
theorem mw_2000 : (Jvm.Cond.selects "TaleCourtModel" ({ cls := "TaleCourtModel", name := "orders", desc := "(I)I" } : Jvm.MethodName) ({ cls := "TaleCourtModel", name := "orders", desc := "(I)I" } : Jvm.MethodName)) ∈ tbG := mt_8 (List.mem_of_getElem? (i := 207) (by decide +kernel)) rfl
theorem mw_2001 : (Jvm.Cond.code ({ cls := "TaleCourtModel", name := "orders", desc := "(I)I" } : Jvm.MethodName) prog_11_method_126_code (3 : Nat) (Option.some Jvm.ClassFile.FieldType.int)) ∈ tbG := mt_8 (List.mem_of_getElem? (i := 208) (by decide +kernel)) rfl
theorem mw_2002 : (Jvm.Cond.methodLink "TaleCourtLaw" (236 : Nat) ({ cls := "TaleCourtModel", name := "fits", desc := "(I)I" } : Jvm.MethodName)) ∈ tbG := mt_8 (List.mem_of_getElem? (i := 209) (by decide +kernel)) rfl
theorem mw_2003 : (Jvm.Cond.instanceMethod ({ cls := "TaleCourtModel", name := "fits", desc := "(I)I" } : Jvm.MethodName)) ∈ tbG := mt_8 (List.mem_of_getElem? (i := 210) (by decide +kernel)) rfl
theorem mw_2004 : (Jvm.Cond.selects "TaleCourtModel" ({ cls := "TaleCourtModel", name := "fits", desc := "(I)I" } : Jvm.MethodName) ({ cls := "TaleCourtModel", name := "fits", desc := "(I)I" } : Jvm.MethodName)) ∈ tbG := mt_8 (List.mem_of_getElem? (i := 211) (by decide +kernel)) rfl
theorem mw_2005 : (Jvm.Cond.code ({ cls := "TaleCourtModel", name := "fits", desc := "(I)I" } : Jvm.MethodName) prog_11_method_128_code (3 : Nat) (Option.some Jvm.ClassFile.FieldType.int)) ∈ tbG := mt_8 (List.mem_of_getElem? (i := 212) (by decide +kernel)) rfl
theorem mw_2006 : (Jvm.Cond.methodLink "TaleCourtLaw" (240 : Nat) ({ cls := "TaleCourtModel", name := "liars", desc := "(I)I" } : Jvm.MethodName)) ∈ tbG := mt_8 (List.mem_of_getElem? (i := 213) (by decide +kernel)) rfl
theorem mw_2007 : (Jvm.Cond.instanceMethod ({ cls := "TaleCourtModel", name := "liars", desc := "(I)I" } : Jvm.MethodName)) ∈ tbG := mt_8 (List.mem_of_getElem? (i := 214) (by decide +kernel)) rfl
theorem mw_2008 : (Jvm.Cond.selects "TaleCourtModel" ({ cls := "TaleCourtModel", name := "liars", desc := "(I)I" } : Jvm.MethodName) ({ cls := "TaleCourtModel", name := "liars", desc := "(I)I" } : Jvm.MethodName)) ∈ tbG := mt_8 (List.mem_of_getElem? (i := 215) (by decide +kernel)) rfl
theorem mw_2009 : (Jvm.Cond.code ({ cls := "TaleCourtModel", name := "liars", desc := "(I)I" } : Jvm.MethodName) prog_11_method_130_code (3 : Nat) (Option.some Jvm.ClassFile.FieldType.int)) ∈ tbG := mt_8 (List.mem_of_getElem? (i := 216) (by decide +kernel)) rfl
theorem mw_2010 : (Jvm.Cond.methodLink "TaleCourtModel" (436 : Nat) ({ cls := "TaleCourtModel", name := "liarsOf", desc := "(I)I" } : Jvm.MethodName)) ∈ tbG := mt_8 (List.mem_of_getElem? (i := 217) (by decide +kernel)) rfl
theorem mw_2012 : (Jvm.Cond.instanceMethod ({ cls := "TaleCourtModel", name := "liarsOf", desc := "(I)I" } : Jvm.MethodName)) ∈ tbG := mt_8 (List.mem_of_getElem? (i := 219) (by decide +kernel)) rfl
theorem mw_2013 : (Jvm.Cond.code ({ cls := "TaleCourtModel", name := "liarsOf", desc := "(I)I" } : Jvm.MethodName) prog_11_method_129_code (4 : Nat) (Option.some Jvm.ClassFile.FieldType.int)) ∈ tbG := mt_8 (List.mem_of_getElem? (i := 220) (by decide +kernel)) rfl
theorem mw_2014 : (Jvm.Cond.methodLink "TaleCourtModel" (433 : Nat) ({ cls := "TaleCourtModel", name := "sizeOf", desc := "(I)I" } : Jvm.MethodName)) ∈ tbG := mt_8 (List.mem_of_getElem? (i := 221) (by decide +kernel)) rfl
theorem mw_2015 : (Jvm.Cond.static ({ cls := "TaleCourtModel", name := "sizeOf", desc := "(I)I" } : Jvm.MethodName)) ∈ tbG := mt_8 (List.mem_of_getElem? (i := 222) (by decide +kernel)) rfl
theorem mw_2016 : (Jvm.Cond.code ({ cls := "TaleCourtModel", name := "sizeOf", desc := "(I)I" } : Jvm.MethodName) prog_11_method_40_code (3 : Nat) (Option.some Jvm.ClassFile.FieldType.int)) ∈ tbG := mt_8 (List.mem_of_getElem? (i := 223) (by decide +kernel)) rfl
theorem mw_2017 : (Jvm.Cond.methodLink "TaleCourtLaw" (244 : Nat) ({ cls := "TaleCourtModel", name := "who", desc := "(I)I" } : Jvm.MethodName)) ∈ tbG := mt_8 (List.mem_of_getElem? (i := 224) (by decide +kernel)) rfl
theorem mw_2018 : (Jvm.Cond.instanceMethod ({ cls := "TaleCourtModel", name := "who", desc := "(I)I" } : Jvm.MethodName)) ∈ tbG := mt_8 (List.mem_of_getElem? (i := 225) (by decide +kernel)) rfl
theorem mw_2019 : (Jvm.Cond.selects "TaleCourtModel" ({ cls := "TaleCourtModel", name := "who", desc := "(I)I" } : Jvm.MethodName) ({ cls := "TaleCourtModel", name := "who", desc := "(I)I" } : Jvm.MethodName)) ∈ tbG := mt_8 (List.mem_of_getElem? (i := 226) (by decide +kernel)) rfl
theorem mw_2020 : (Jvm.Cond.code ({ cls := "TaleCourtModel", name := "who", desc := "(I)I" } : Jvm.MethodName) prog_11_method_131_code (3 : Nat) (Option.some Jvm.ClassFile.FieldType.int)) ∈ tbG := mt_8 (List.mem_of_getElem? (i := 227) (by decide +kernel)) rfl
theorem mw_2021 : (Jvm.Cond.methodLink "TaleCourtLaw" (248 : Nat) ({ cls := "TaleCourtModel", name := "votes", desc := "(II)I" } : Jvm.MethodName)) ∈ tbG := mt_8 (List.mem_of_getElem? (i := 228) (by decide +kernel)) rfl
theorem mw_2022 : (Jvm.Cond.instanceMethod ({ cls := "TaleCourtModel", name := "votes", desc := "(II)I" } : Jvm.MethodName)) ∈ tbG := mt_8 (List.mem_of_getElem? (i := 229) (by decide +kernel)) rfl
theorem mw_2023 : (Jvm.Cond.selects "TaleCourtModel" ({ cls := "TaleCourtModel", name := "votes", desc := "(II)I" } : Jvm.MethodName) ({ cls := "TaleCourtModel", name := "votes", desc := "(II)I" } : Jvm.MethodName)) ∈ tbG := mt_8 (List.mem_of_getElem? (i := 230) (by decide +kernel)) rfl
theorem mw_2024 : (Jvm.Cond.code ({ cls := "TaleCourtModel", name := "votes", desc := "(II)I" } : Jvm.MethodName) prog_11_method_134_code (5 : Nat) (Option.some Jvm.ClassFile.FieldType.int)) ∈ tbG := mt_8 (List.mem_of_getElem? (i := 231) (by decide +kernel)) rfl
theorem mw_2025 : (Jvm.Cond.methodLink "TaleCourtModel" (439 : Nat) ({ cls := "TaleCourtModel", name := "areMotifs", desc := "(I)Z" } : Jvm.MethodName)) ∈ tbG := mt_8 (List.mem_of_getElem? (i := 232) (by decide +kernel)) rfl
theorem mw_2027 : (Jvm.Cond.instanceMethod ({ cls := "TaleCourtModel", name := "areMotifs", desc := "(I)Z" } : Jvm.MethodName)) ∈ tbG := mt_8 (List.mem_of_getElem? (i := 234) (by decide +kernel)) rfl
theorem mw_2028 : (Jvm.Cond.code ({ cls := "TaleCourtModel", name := "areMotifs", desc := "(I)Z" } : Jvm.MethodName) prog_11_method_133_code (3 : Nat) (Option.some Jvm.ClassFile.FieldType.boolean)) ∈ tbG := mt_8 (List.mem_of_getElem? (i := 235) (by decide +kernel)) rfl
theorem mw_2029 : (Jvm.Cond.methodLink "TaleCourtModel" (442 : Nat) ({ cls := "TaleCourtModel", name := "tasteOf", desc := "(II)I" } : Jvm.MethodName)) ∈ tbG := mt_8 (List.mem_of_getElem? (i := 236) (by decide +kernel)) rfl
theorem mw_2031 : (Jvm.Cond.instanceMethod ({ cls := "TaleCourtModel", name := "tasteOf", desc := "(II)I" } : Jvm.MethodName)) ∈ tbG := mt_8 (List.mem_of_getElem? (i := 238) (by decide +kernel)) rfl
theorem mw_2032 : (Jvm.Cond.code ({ cls := "TaleCourtModel", name := "tasteOf", desc := "(II)I" } : Jvm.MethodName) prog_11_method_132_code (6 : Nat) (Option.some Jvm.ClassFile.FieldType.int)) ∈ tbG := mt_8 (List.mem_of_getElem? (i := 239) (by decide +kernel)) rfl
theorem mw_2033 : (Jvm.Cond.methodLink "TaleCourtLaw" (252 : Nat) ({ cls := "TaleCourtModel", name := "taste", desc := "(II)I" } : Jvm.MethodName)) ∈ tbG := mt_9 (List.mem_of_getElem? (i := 0) (by decide +kernel)) rfl
theorem mw_2034 : (Jvm.Cond.instanceMethod ({ cls := "TaleCourtModel", name := "taste", desc := "(II)I" } : Jvm.MethodName)) ∈ tbG := mt_9 (List.mem_of_getElem? (i := 1) (by decide +kernel)) rfl
theorem mw_2035 : (Jvm.Cond.selects "TaleCourtModel" ({ cls := "TaleCourtModel", name := "taste", desc := "(II)I" } : Jvm.MethodName) ({ cls := "TaleCourtModel", name := "taste", desc := "(II)I" } : Jvm.MethodName)) ∈ tbG := mt_9 (List.mem_of_getElem? (i := 2) (by decide +kernel)) rfl
theorem mw_2036 : (Jvm.Cond.code ({ cls := "TaleCourtModel", name := "taste", desc := "(II)I" } : Jvm.MethodName) prog_11_method_135_code (3 : Nat) (Option.some Jvm.ClassFile.FieldType.int)) ∈ tbG := mt_9 (List.mem_of_getElem? (i := 3) (by decide +kernel)) rfl
theorem mw_2037 : (Jvm.Cond.methodLink "TaleCourtLaw" (256 : Nat) ({ cls := "TaleCourtModel", name := "drawn", desc := "(II)I" } : Jvm.MethodName)) ∈ tbG := mt_9 (List.mem_of_getElem? (i := 4) (by decide +kernel)) rfl
theorem mw_2038 : (Jvm.Cond.instanceMethod ({ cls := "TaleCourtModel", name := "drawn", desc := "(II)I" } : Jvm.MethodName)) ∈ tbG := mt_9 (List.mem_of_getElem? (i := 5) (by decide +kernel)) rfl
theorem mw_2039 : (Jvm.Cond.selects "TaleCourtModel" ({ cls := "TaleCourtModel", name := "drawn", desc := "(II)I" } : Jvm.MethodName) ({ cls := "TaleCourtModel", name := "drawn", desc := "(II)I" } : Jvm.MethodName)) ∈ tbG := mt_9 (List.mem_of_getElem? (i := 6) (by decide +kernel)) rfl
theorem mw_2040 : (Jvm.Cond.code ({ cls := "TaleCourtModel", name := "drawn", desc := "(II)I" } : Jvm.MethodName) prog_11_method_138_code (3 : Nat) (Option.some Jvm.ClassFile.FieldType.int)) ∈ tbG := mt_9 (List.mem_of_getElem? (i := 7) (by decide +kernel)) rfl
theorem mw_2041 : (Jvm.Cond.methodLink "TaleCourtModel" (458 : Nat) ({ cls := "TaleCourtModel", name := "isSeed", desc := "(I)Z" } : Jvm.MethodName)) ∈ tbG := mt_9 (List.mem_of_getElem? (i := 8) (by decide +kernel)) rfl
theorem mw_2043 : (Jvm.Cond.instanceMethod ({ cls := "TaleCourtModel", name := "isSeed", desc := "(I)Z" } : Jvm.MethodName)) ∈ tbG := mt_9 (List.mem_of_getElem? (i := 10) (by decide +kernel)) rfl
theorem mw_2044 : (Jvm.Cond.code ({ cls := "TaleCourtModel", name := "isSeed", desc := "(I)Z" } : Jvm.MethodName) prog_11_method_137_code (2 : Nat) (Option.some Jvm.ClassFile.FieldType.boolean)) ∈ tbG := mt_9 (List.mem_of_getElem? (i := 11) (by decide +kernel)) rfl
theorem mw_2045 : (Jvm.Cond.constantLong "TaleCourtModel" (456 : Nat) (2000000000 : Int64)) ∈ tbG := mt_9 (List.mem_of_getElem? (i := 12) (by decide +kernel)) rfl
theorem mw_2046 : (Jvm.Cond.constantLong "TaleCourtModel" (461 : Nat) (2 : Int64)) ∈ tbG := mt_9 (List.mem_of_getElem? (i := 13) (by decide +kernel)) rfl
theorem mw_2047 : (Jvm.Cond.methodLink "TaleCourtModel" (463 : Nat) ({ cls := "TaleCourtModel", name := "draws", desc := "(J)V" } : Jvm.MethodName)) ∈ tbG := mt_9 (List.mem_of_getElem? (i := 14) (by decide +kernel)) rfl
theorem mw_2049 : (Jvm.Cond.instanceMethod ({ cls := "TaleCourtModel", name := "draws", desc := "(J)V" } : Jvm.MethodName)) ∈ tbG := mt_9 (List.mem_of_getElem? (i := 16) (by decide +kernel)) rfl
theorem mw_2050 : (Jvm.Cond.code ({ cls := "TaleCourtModel", name := "draws", desc := "(J)V" } : Jvm.MethodName) prog_11_method_136_code (8 : Nat) (Option.none : Option Jvm.ClassFile.FieldType)) ∈ tbG := mt_9 (List.mem_of_getElem? (i := 17) (by decide +kernel)) rfl
theorem mw_2051 : (Jvm.Cond.constantLong "TaleCourtModel" (448 : Nat) (1103515245 : Int64)) ∈ tbG := mt_9 (List.mem_of_getElem? (i := 18) (by decide +kernel)) rfl
theorem mw_2052 : (Jvm.Cond.constantLong "TaleCourtModel" (450 : Nat) (12345 : Int64)) ∈ tbG := mt_9 (List.mem_of_getElem? (i := 19) (by decide +kernel)) rfl
theorem mw_2053 : (Jvm.Cond.constantLong "TaleCourtModel" (452 : Nat) (2147483648 : Int64)) ∈ tbG := mt_9 (List.mem_of_getElem? (i := 20) (by decide +kernel)) rfl
theorem mw_2054 : (Jvm.Cond.constantLong "TaleCourtModel" (454 : Nat) (65536 : Int64)) ∈ tbG := mt_9 (List.mem_of_getElem? (i := 21) (by decide +kernel)) rfl
theorem mw_2055 : (Jvm.Cond.methodLink "TaleCourtLaw" (260 : Nat) ({ cls := "TaleCourtModel", name := "lot", desc := "(II)I" } : Jvm.MethodName)) ∈ tbG := mt_9 (List.mem_of_getElem? (i := 22) (by decide +kernel)) rfl
theorem mw_2056 : (Jvm.Cond.instanceMethod ({ cls := "TaleCourtModel", name := "lot", desc := "(II)I" } : Jvm.MethodName)) ∈ tbG := mt_9 (List.mem_of_getElem? (i := 23) (by decide +kernel)) rfl
theorem mw_2057 : (Jvm.Cond.selects "TaleCourtModel" ({ cls := "TaleCourtModel", name := "lot", desc := "(II)I" } : Jvm.MethodName) ({ cls := "TaleCourtModel", name := "lot", desc := "(II)I" } : Jvm.MethodName)) ∈ tbG := mt_9 (List.mem_of_getElem? (i := 24) (by decide +kernel)) rfl
theorem mw_2058 : (Jvm.Cond.code ({ cls := "TaleCourtModel", name := "lot", desc := "(II)I" } : Jvm.MethodName) prog_11_method_139_code (3 : Nat) (Option.some Jvm.ClassFile.FieldType.int)) ∈ tbG := mt_9 (List.mem_of_getElem? (i := 25) (by decide +kernel)) rfl
theorem mw_2059 : (Jvm.Cond.methodLink "TaleCourtLaw" (264 : Nat) ({ cls := "TaleCourtModel", name := "nights", desc := "(II)I" } : Jvm.MethodName)) ∈ tbG := mt_9 (List.mem_of_getElem? (i := 26) (by decide +kernel)) rfl
theorem mw_2060 : (Jvm.Cond.instanceMethod ({ cls := "TaleCourtModel", name := "nights", desc := "(II)I" } : Jvm.MethodName)) ∈ tbG := mt_9 (List.mem_of_getElem? (i := 27) (by decide +kernel)) rfl
theorem mw_2061 : (Jvm.Cond.selects "TaleCourtModel" ({ cls := "TaleCourtModel", name := "nights", desc := "(II)I" } : Jvm.MethodName) ({ cls := "TaleCourtModel", name := "nights", desc := "(II)I" } : Jvm.MethodName)) ∈ tbG := mt_9 (List.mem_of_getElem? (i := 28) (by decide +kernel)) rfl
theorem mw_2062 : (Jvm.Cond.code ({ cls := "TaleCourtModel", name := "nights", desc := "(II)I" } : Jvm.MethodName) prog_11_method_140_code (5 : Nat) (Option.some Jvm.ClassFile.FieldType.int)) ∈ tbG := mt_9 (List.mem_of_getElem? (i := 29) (by decide +kernel)) rfl
theorem mw_2063 : (Jvm.Cond.constantLong "TaleCourtModel" (466 : Nat) (20 : Int64)) ∈ tbG := mt_9 (List.mem_of_getElem? (i := 30) (by decide +kernel)) rfl
theorem mw_2064 : (Jvm.Cond.methodLink "TaleCourtLaw" (268 : Nat) ({ cls := "TaleCourtModel", name := "count", desc := "(I)I" } : Jvm.MethodName)) ∈ tbG := mt_9 (List.mem_of_getElem? (i := 31) (by decide +kernel)) rfl
theorem mw_2065 : (Jvm.Cond.instanceMethod ({ cls := "TaleCourtModel", name := "count", desc := "(I)I" } : Jvm.MethodName)) ∈ tbG := mt_9 (List.mem_of_getElem? (i := 32) (by decide +kernel)) rfl
theorem mw_2066 : (Jvm.Cond.selects "TaleCourtModel" ({ cls := "TaleCourtModel", name := "count", desc := "(I)I" } : Jvm.MethodName) ({ cls := "TaleCourtModel", name := "count", desc := "(I)I" } : Jvm.MethodName)) ∈ tbG := mt_9 (List.mem_of_getElem? (i := 33) (by decide +kernel)) rfl
theorem mw_2067 : (Jvm.Cond.code ({ cls := "TaleCourtModel", name := "count", desc := "(I)I" } : Jvm.MethodName) prog_11_method_141_code (4 : Nat) (Option.some Jvm.ClassFile.FieldType.int)) ∈ tbG := mt_9 (List.mem_of_getElem? (i := 34) (by decide +kernel)) rfl
theorem mw_2068 : (Jvm.Cond.methodLink "TaleCourtLaw" (272 : Nat) ({ cls := "TaleCourtModel", name := "keep", desc := "(I)I" } : Jvm.MethodName)) ∈ tbG := mt_9 (List.mem_of_getElem? (i := 35) (by decide +kernel)) rfl
theorem mw_2069 : (Jvm.Cond.instanceMethod ({ cls := "TaleCourtModel", name := "keep", desc := "(I)I" } : Jvm.MethodName)) ∈ tbG := mt_9 (List.mem_of_getElem? (i := 36) (by decide +kernel)) rfl
theorem mw_2070 : (Jvm.Cond.selects "TaleCourtModel" ({ cls := "TaleCourtModel", name := "keep", desc := "(I)I" } : Jvm.MethodName) ({ cls := "TaleCourtModel", name := "keep", desc := "(I)I" } : Jvm.MethodName)) ∈ tbG := mt_9 (List.mem_of_getElem? (i := 37) (by decide +kernel)) rfl
theorem mw_2071 : (Jvm.Cond.code ({ cls := "TaleCourtModel", name := "keep", desc := "(I)I" } : Jvm.MethodName) prog_11_method_142_code (2 : Nat) (Option.some Jvm.ClassFile.FieldType.int)) ∈ tbG := mt_9 (List.mem_of_getElem? (i := 38) (by decide +kernel)) rfl
theorem mw_2072 : (Jvm.Cond.methodLink "TaleCourtLaw" (276 : Nat) ({ cls := "TaleCourtModel", name := "back", desc := "(I)I" } : Jvm.MethodName)) ∈ tbG := mt_9 (List.mem_of_getElem? (i := 39) (by decide +kernel)) rfl
theorem mw_2073 : (Jvm.Cond.instanceMethod ({ cls := "TaleCourtModel", name := "back", desc := "(I)I" } : Jvm.MethodName)) ∈ tbG := mt_9 (List.mem_of_getElem? (i := 40) (by decide +kernel)) rfl
theorem mw_2074 : (Jvm.Cond.selects "TaleCourtModel" ({ cls := "TaleCourtModel", name := "back", desc := "(I)I" } : Jvm.MethodName) ({ cls := "TaleCourtModel", name := "back", desc := "(I)I" } : Jvm.MethodName)) ∈ tbG := mt_9 (List.mem_of_getElem? (i := 41) (by decide +kernel)) rfl
theorem mw_2075 : (Jvm.Cond.code ({ cls := "TaleCourtModel", name := "back", desc := "(I)I" } : Jvm.MethodName) prog_11_method_143_code (2 : Nat) (Option.some Jvm.ClassFile.FieldType.int)) ∈ tbG := mt_9 (List.mem_of_getElem? (i := 42) (by decide +kernel)) rfl
theorem mw_2076 : (Jvm.Cond.constantLong "TaleCourtLaw" (282 : Nat) (4294967295 : Int64)) ∈ tbG := mt_9 (List.mem_of_getElem? (i := 43) (by decide +kernel)) rfl
theorem mw_2077 : (Jvm.Cond.fieldLink "java/lang/String" (9 : Nat) "java/lang/String" "value" "[B") ∈ tbG := mt_9 (List.mem_of_getElem? (i := 44) (by decide +kernel)) rfl
theorem mw_2078 : (Jvm.Cond.fieldLink "java/lang/String" (15 : Nat) "java/lang/String" "coder" "B") ∈ tbG := mt_9 (List.mem_of_getElem? (i := 45) (by decide +kernel)) rfl
end
section
theorem tb_good : ∀ w ∈ tbG, goodWord w = true := fun _ h => (List.mem_filter.mp h).2
def wM (y : MethodName) (b : ByteArray) (n : Nat) (r : Option FieldType) : List Cond := Cond.code y b n r :: tbG
theorem gM {y : MethodName} {b : ByteArray} {n : Nat} {r : Option FieldType} (h : Cond.code y b n r ∈ tbG) : GoodIn tbG (wM y b n r) := by
  intro w hw
  rcases List.mem_cons.mp hw with rfl | hw
  · exact ⟨h, good_of_word (tb_good _ h)⟩
  · exact ⟨hw, good_of_word (tb_good _ hw)⟩
theorem gV {own C : String} {idx : Nat} {y : MethodName} {b : ByteArray} {n : Nat} {r : Option FieldType} (h1 : Cond.methodLink own idx y ∈ tbG) (h2 : Cond.instanceMethod y ∈ tbG) (h3 : Cond.selects C y y ∈ tbG) (h4 : Cond.initialized C ∈ tbG) (h5 : Cond.code y b n r ∈ tbG) : GoodIn tbG (wsV own idx C y (wM y b n r)) := by
  intro w hw
  rcases List.mem_append.mp hw with hw | hw
  · simp only [List.mem_cons, List.not_mem_nil, or_false] at hw
    rcases hw with rfl | rfl | rfl | rfl
    · exact ⟨h1, good_of_word (tb_good _ h1)⟩
    · exact ⟨h2, good_of_word (tb_good _ h2)⟩
    · exact ⟨h3, good_of_word (tb_good _ h3)⟩
    · exact ⟨h4, good_of_word (tb_good _ h4)⟩
  · exact gM h5 w hw
theorem gS {own : String} {idx : Nat} {y : MethodName} {b : ByteArray} {n : Nat} {r : Option FieldType} (h1 : Cond.methodLink own idx y ∈ tbG) (h2 : Cond.static y ∈ tbG) (h4 : Cond.initialized y.cls ∈ tbG) (h5 : Cond.code y b n r ∈ tbG) : GoodIn tbG (va_wsS own idx y (wM y b n r)) := by
  intro w hw
  rcases List.mem_append.mp hw with hw | hw
  · simp only [List.mem_cons, List.not_mem_nil, or_false] at hw
    rcases hw with rfl | rfl | rfl
    · exact ⟨h1, good_of_word (tb_good _ h1)⟩
    · exact ⟨h2, good_of_word (tb_good _ h2)⟩
    · exact ⟨h4, good_of_word (tb_good _ h4)⟩
  · exact gM h5 w hw
/-! the world by places -/
def pw (ad : Nat → Nat) (f : Nat → va_E) (N : Nat) : va_W := (List.range N).map (fun i => (ad i, f i))
theorem pw_at {ad : Nat → Nat} {f : Nat → va_E} {N i : Nat} (h : i < N) : (pw ad f N)[i]? = some (ad i, f i) := by simp [pw, h]
theorem pw_set {ad : Nat → Nat} {f : Nat → va_E} {N i : Nat} {e : va_E} : (pw ad f N).set i (ad i, e) = pw ad (va_up f i e) N := by
  apply List.ext_getElem?
  intro j
  rw [List.getElem?_set]
  by_cases hj : i = j
  · subst hj
    by_cases hl : i < N
    · simp [pw, hl, va_up]
    · simp [pw, hl]
  · by_cases hl : j < N
    · rw [if_neg hj, pw_at hl, pw_at hl]
      simp [va_up, Ne.symm hj]
    · simp [pw, hl, hj]
def apart (ad : Nat → Nat) (N : Nat) : Prop := ∀ i j : Nat, i < N → j < N → ad i = ad j → i = j
def inW (ad : Nat → Nat) (N : Nat) : Nat → Prop := fun q => ∃ i : Nat, i < N ∧ q = ad i
theorem pw_lt {ad : Nat → Nat} {f : Nat → va_E} {N k : Nat} {q : Nat × va_E} (h : (pw ad f N)[k]? = some q) : k < N ∧ q = (ad k, f k) := by
  by_cases hl : k < N
  · rw [pw_at hl] at h
    exact ⟨hl, (Option.some.inj h).symm⟩
  · simp [pw, hl] at h
theorem pw_D {ad : Nat → Nat} {f : Nat → va_E} {N : Nat} {A : Nat → Prop} (h : apart ad N) (hA : ∀ i, i < N → A (ad i)) : va_D A (pw ad f N) := by
  refine ⟨fun i j p q hi hj e => ?_, fun k q hk => ?_⟩
  · obtain ⟨h1, rfl⟩ := pw_lt hi
    obtain ⟨h2, rfl⟩ := pw_lt hj
    exact h i j h1 h2 e
  · obtain ⟨h1, rfl⟩ := pw_lt hk
    exact hA k h1
abbrev gT : Type := Nat → (Nat → Int32) → (Nat → Int32) → (Nat → Int64) → va_E
abbrev sI : Type := Nat → Nat → Int32
abbrev sL : Type := Nat → Nat → Int64
def gF (G : gT) (v ar : sI) (al : sL) : Nat → va_E := fun i => G i (v i) (ar i) (al i)
def wW (ad : Nat → Nat) (G : gT) (N : Nat) (v ar : sI) (al : sL) : va_W := pw ad (gF G v ar al) N
def xty (K : Nat → ClassId) : List (ClassId × FieldType) := [(K 0, .int), (K 1, .long), (K 2, .byte), (K 3, .boolean), (K 4, .object "TaleCourt$Row"), (K 5, .object "TaleCourt$Image")]
abbrev xcl : List vw_C := [(RX0, TX0, 6), (RX1, TX1, 20), (RX2, TX2, 5), (RX3, TX3, 3), (RX4, TX4, 7), (RX5, TX5, 3), (RX6, TX6, 8), (RX7, TX7, 14), (RX8, TX8, 10), (RX9, TX9, 50)]
theorem wW_at {ad : Nat → Nat} {G : gT} {N i : Nat} {v ar : sI} {al : sL} {e : va_E} (h : i < N) (hf : G i (v i) (ar i) (al i) = e) : (wW ad G N v ar al)[i]? = some (ad i, e) := by
  subst hf
  exact pw_at h
theorem gF_v {G : gT} {v ar : sI} {al : sL} {i : Nat} {x : Nat → Int32} : gF G (va_up v i x) ar al = va_up (gF G v ar al) i (G i x (ar i) (al i)) := by
  funext j
  by_cases h : j = i
  · subst h; simp [gF, va_up]
  · simp [gF, va_up, h]
theorem gF_a {G : gT} {v ar : sI} {al : sL} {i : Nat} {x : Nat → Int32} : gF G v (va_up ar i x) al = va_up (gF G v ar al) i (G i (v i) x (al i)) := by
  funext j
  by_cases h : j = i
  · subst h; simp [gF, va_up]
  · simp [gF, va_up, h]
theorem gF_l {G : gT} {v ar : sI} {al : sL} {i : Nat} {x : Nat → Int64} : gF G v ar (va_up al i x) = va_up (gF G v ar al) i (G i (v i) (ar i) x) := by
  funext j
  by_cases h : j = i
  · subst h; simp [gF, va_up]
  · simp [gF, va_up, h]
theorem wW_v {ad : Nat → Nat} {G : gT} {N i : Nat} {v ar : sI} {al : sL} {x : Nat → Int32} {e : va_E} (h : G i x (ar i) (al i) = e) : (wW ad G N v ar al).set i (ad i, e) = wW ad G N (va_up v i x) ar al := by
  subst h
  unfold wW
  rw [pw_set, gF_v]
theorem wW_a {ad : Nat → Nat} {G : gT} {N i : Nat} {v ar : sI} {al : sL} {x : Nat → Int32} {e : va_E} (h : G i (v i) x (al i) = e) : (wW ad G N v ar al).set i (ad i, e) = wW ad G N v (va_up ar i x) al := by
  subst h
  unfold wW
  rw [pw_set, gF_a]
theorem wW_l {ad : Nat → Nat} {G : gT} {N i : Nat} {v ar : sI} {al : sL} {x : Nat → Int64} {e : va_E} (h : G i (v i) (ar i) x = e) : (wW ad G N v ar al).set i (ad i, e) = wW ad G N v ar (va_up al i x) := by
  subst h
  unfold wW
  rw [pw_set, gF_l]
def wPre (D : va_G) (K : Nat → ClassId) (ad : Nat → Nat) (G : gT) (N : Nat) (v ar : sI) (al : sL) (U : State) : Prop := va_P D xcl (wW ad G N v ar al) U.heap ∧ va_K D xcl (xty K) U ∧ apart ad N
abbrev sT : Type := sI × sI × sL
def wB (D : va_G) (ad : Nat → Nat) (G : gT) (N : Nat) (u : sT) (t : State) : Prop := va_P D xcl (wW ad G N u.1 u.2.1 u.2.2) t.heap
def rmD (d : Nat) : Room := { frames := d, cells := 0, slots := 0, locals := 64 * d }
theorem wPre_blind {D : va_G} {K : Nat → ClassId} {ad : Nat → Nat} {G : gT} {N : Nat} {v ar : sI} {al : sL} {av : List Value} : FrameBlind (va_Pc av (wPre D K ad G N v ar al)) := fun a U g mk q => ⟨q.1, q.2.1, va_K.moved (u := U) (U := U.calling g mk a) (Vm.Alike.refl U.vm) q.2.2.1, q.2.2.2⟩
theorem tt_blind {av : List Value} : FrameBlind (va_Pc av (fun _ => True)) := fun a U g mk q => ⟨q.1, trivial⟩
theorem x_met {l : Launch} {y : MethodName} {b : ByteArray} {n : Nat} {ret : Option FieldType} {rm : Room} {av : List Value} {Bp : State → Prop} {Qc : Array Value → State → Outcome → State → Prop} {mc ms : Nat} {free : Addr → Prop} (hy : plainName y.cls = true) (hlen : (lg_sl av).length ≤ n)
    (body : ∀ (p : Program) (e : Env) (s : State) (m : MethodId) (below : List Frame) (meth : Method) (c : Code) (ls : Array Slot), CallFix p m c b n s av.toArray tbG y.cls → meth.sig.returnType = ret → meth.locks = false → meth.name = y.name → Bp s → lv_has ls n (lv_args 0 av) → W p l e rm s m av.toArray below meth c s.heap [] 0 0 (MQ below Qc av.toArray s mc ms free) (F0 m 0 ls [])) : Met l y (wM y b n ret) rm (va_Pc av Bp) Qc mc ms free := by
  refine Met.ofW (cc := b) (maxL := n) (ret := ret) hy rfl ?_
  intro p e s m args below meth c s₁ B hml hv
  obtain ⟨rfl, hv⟩ := hv
  have hts := atoms_spec (ws := wM y b n ret) B.pre
  rw [lg_entry_eq]
  exact body p e s m below meth c _ ⟨B.exec, B.bytes, hml, findClass_of_methodNamed B.named, fun w hw => hts w (List.mem_cons_of_mem _ hw)⟩ B.returns B.notSynchronized (name_of_methodNamed B.named B.method).1 hv (lv_entry av hlen)
section XR
variable {p : Program} {l : Launch} {e : Env} {R : Room} {s : State} {m : MethodId} {args : Array Value} {below : List Frame} {meth : Method} {c : Code} {cc : ByteArray} {H : Heap} {locs : List Loc} {cells slots : Nat} {Q : State → Prop} {pc nL : Nat} {ls : Array Slot} {rest st : List Value} {D : va_G} {K : Nat → ClassId} {ad : Nat → Nat} {G : gT} {N : Nat} {v ar : sI} {al : sL} {own : String}
theorem wPre_now {s : State} {H : Heap} (hK : va_K D xcl (xty K) s) (hN : apart ad N) (hP : va_P D xcl (wW ad G N v ar al) H) (U : State) (h : U.heap = H) (hW : s.WarmedH U.vm) : wPre D K ad G N v ar al U := ⟨by rw [h]; exact hP, va_K.moved hW.alike hK, hN⟩
theorem x_get (hE : CallFix p m c cc nL s args tbG own) (hK : va_K D xcl (xty K) s) (hP : va_P D xcl (wW ad G N v ar al) H) (i : Nat) (hi : i < N) {ci : Nat} {fs : List Value} (hf : G i (v i) (ar i) (al i) = .inr (ci, fs)) {C : String} {T : u_T} {Nc : Nat} (hc : xcl[ci]? = some (C, T, Nc)) (hin : ∀ w ∈ u_ws C T Nc, w ∈ tbG) (k : Nat) (hk : k < Nc) {index : Nat} (hlink : Cond.fieldLink own index (T k).1 (T k).2.1 (T k).2.2.1 ∈ tbG) {x : Value} (hv : fs[k]? = some x) (hdg : decode cc pc = .ok (.getfield index, 3))
    (kk : W p l e R s m args below meth c H locs cells slots Q (F0 m (pc + 3) ls (x :: rest))) : W p l e R s m args below meth c H locs cells slots Q (F0 m pc ls (.ref (ad i) :: rest)) :=
  va_get hE.1 hE.2.1 hE.2.2.2.2 hin hE.2.2.2.1 hK hP i (wW_at hi hf) hc k hk (hE.2.2.2.2 _ hlink) (fun _ h => h) hv hdg kk
theorem x_put (hE : CallFix p m c cc nL s args tbG own) (hK : va_K D xcl (xty K) s) (hN : apart ad N) (hP : va_P D xcl (wW ad G N v ar al) H) (hS : va_S (inW ad N) s.heap H locs) (i : Nat) (hi : i < N) {ci : Nat} {fs : List Value} (hf : G i (v i) (ar i) (al i) = .inr (ci, fs)) {C : String} {T : u_T} {Nc : Nat} (hc : xcl[ci]? = some (C, T, Nc)) (hin : ∀ w ∈ u_ws C T Nc, w ∈ tbG) (ty0 : Nat → FieldType) (hty : ∀ k, k < Nc → parseFieldDescriptor (T k).2.2.1 = some (ty0 k)) (hnm : ∀ a, a < Nc → ∀ b, b < Nc → a ≠ b → (T a).2.1 ≠ (T b).2.1) (k : Nat) (hk : k < Nc) {index : Nat} (hlink : Cond.fieldLink own index (T k).1 (T k).2.1 (T k).2.2.1 ∈ tbG) (hfin : (T k).2.2.2 = false) {x : Int32} (hn : narrow (ty0 k) (.int x) = .int x) (hfit : fits (ty0 k) (.int x) = true) (hl : k < fs.length) (hg : G i (upd (v i) k x) (ar i) (al i) = .inr (ci, fs.set k (.int x))) (hdg : decode cc pc = .ok (.putfield index, 3))
    (kk : ∀ (v' : sI) (H1 : Heap) (locs1 : List Loc), v' = va_up v i (upd (v i) k x) → va_P D xcl (wW ad G N v' ar al) H1 → va_S (inW ad N) s.heap H1 locs1 → W p l e R s m args below meth c H1 locs1 cells slots Q (F0 m (pc + 3) ls rest)) : W p l e R s m args below meth c H locs cells slots Q (F0 m pc ls (.int x :: .ref (ad i) :: rest)) := by
  refine va_put hE.1 hE.2.1 hE.2.2.2.2 hin ty0 hty hnm hE.2.2.2.1 hK hP (pw_D hN (fun i hi => ⟨i, hi, rfl⟩)) hS i (wW_at hi hf) hc k hk (hE.2.2.2.2 _ hlink) (fun _ h => h) hfin (hty k hk) hn hfit hl hdg (fun H1 locs1 h1 _ h3 => ?_)
  rw [wW_v hg] at h1
  exact kk _ H1 locs1 rfl h1 h3
theorem x_iald (hE : CallFix p m c cc nL s args tbG own) (hK : va_K D xcl (xty K) s) (hP : va_P D xcl (wW ad G N v ar al) H) (i : Nat) (hi : i < N) {n : Nat} (hf : G i (v i) (ar i) (al i) = .inl (K 0, n, .inl (ar i))) {j : Int32} (hin : vp_in j n) (hdg : decode cc pc = .ok (.iaload, 1))
    (kk : W p l e R s m args below meth c H locs cells slots Q (F0 m (pc + 1) ls (.int (ar i j.toNatClampNeg) :: rest))) : W p l e R s m args below meth c H locs cells slots Q (F0 m pc ls (.int j :: .ref (ad i) :: rest)) :=
  va_iald hE.1 hE.2.1 hK hP i 0 (wW_at hi hf) rfl hin hdg kk
theorem x_bald (hE : CallFix p m c cc nL s args tbG own) (hK : va_K D xcl (xty K) s) (hP : va_P D xcl (wW ad G N v ar al) H) (i : Nat) (hi : i < N) {n : Nat} (hf : G i (v i) (ar i) (al i) = .inl (K 2, n, .inl (ar i))) {j : Int32} (hin : vp_in j n) (hdg : decode cc pc = .ok (.baload, 1))
    (kk : W p l e R s m args below meth c H locs cells slots Q (F0 m (pc + 1) ls (.int (ar i j.toNatClampNeg) :: rest))) : W p l e R s m args below meth c H locs cells slots Q (F0 m pc ls (.int j :: .ref (ad i) :: rest)) :=
  va_bald hE.1 hE.2.1 hK hP i 2 (wW_at hi hf) rfl hin hdg kk
theorem x_zald (hE : CallFix p m c cc nL s args tbG own) (hK : va_K D xcl (xty K) s) (hP : va_P D xcl (wW ad G N v ar al) H) (i : Nat) (hi : i < N) {n : Nat} (hf : G i (v i) (ar i) (al i) = .inl (K 3, n, .inl (ar i))) {j : Int32} (hin : vp_in j n) (hdg : decode cc pc = .ok (.baload, 1))
    (kk : W p l e R s m args below meth c H locs cells slots Q (F0 m (pc + 1) ls (.int (ar i j.toNatClampNeg) :: rest))) : W p l e R s m args below meth c H locs cells slots Q (F0 m pc ls (.int j :: .ref (ad i) :: rest)) :=
  va_zald hE.1 hE.2.1 hK hP i 3 (wW_at hi hf) rfl hin hdg kk
theorem x_lald (hE : CallFix p m c cc nL s args tbG own) (hK : va_K D xcl (xty K) s) (hP : va_P D xcl (wW ad G N v ar al) H) (i : Nat) (hi : i < N) {n : Nat} (hf : G i (v i) (ar i) (al i) = .inl (K 1, n, .inr (.inl (al i)))) {j : Int32} (hin : vp_in j n) (hdg : decode cc pc = .ok (.laload, 1))
    (kk : W p l e R s m args below meth c H locs cells slots Q (F0 m (pc + 1) ls (.long (al i j.toNatClampNeg) :: rest))) : W p l e R s m args below meth c H locs cells slots Q (F0 m pc ls (.int j :: .ref (ad i) :: rest)) :=
  va_lald hE.1 hE.2.1 hK hP i 1 (wW_at hi hf) rfl hin hdg kk
theorem x_alen (hE : CallFix p m c cc nL s args tbG own) (hK : va_K D xcl (xty K) s) (hP : va_P D xcl (wW ad G N v ar al) H) (i t0 : Nat) (hi : i < N) {cA : ClassId} {x : vp_A} (hf : G i (v i) (ar i) (al i) = .inl (cA, x)) {ty : FieldType} (ht : (xty K)[t0]? = some (cA, ty)) {w : Int32} (hv : Int32.ofNat x.1 = w) (hdg : decode cc pc = .ok (.arraylength, 1))
    (kk : W p l e R s m args below meth c H locs cells slots Q (F0 m (pc + 1) ls (.int w :: rest))) : W p l e R s m args below meth c H locs cells slots Q (F0 m pc ls (.ref (ad i) :: rest)) :=
  va_alen hE.1 hE.2.1 hK hP i t0 (wW_at hi hf) ht hv hdg kk
theorem x_iast (hE : CallFix p m c cc nL s args tbG own) (hK : va_K D xcl (xty K) s) (hN : apart ad N) (hP : va_P D xcl (wW ad G N v ar al) H) (hS : va_S (inW ad N) s.heap H locs) (i : Nat) (hi : i < N) {n : Nat} (hf : ∀ g : Nat → Int32, G i (v i) g (al i) = .inl (K 0, n, .inl g)) {j x : Int32} (hin : vp_in j n) (hdg : decode cc pc = .ok (.iastore, 1))
    (kk : ∀ (ar' : sI) (H1 : Heap) (locs1 : List Loc), ar' = va_up ar i (upd (ar i) j.toNatClampNeg x) → va_P D xcl (wW ad G N v ar' al) H1 → va_S (inW ad N) s.heap H1 locs1 → W p l e R s m args below meth c H1 locs1 cells slots Q (F0 m (pc + 1) ls rest)) : W p l e R s m args below meth c H locs cells slots Q (F0 m pc ls (.int x :: .int j :: .ref (ad i) :: rest)) := by
  refine va_iast hE.1 hE.2.1 hK hP (pw_D hN (fun i hi => ⟨i, hi, rfl⟩)) hS i 0 (wW_at hi (hf _)) rfl hin hdg (fun H1 locs1 h1 _ h3 => ?_)
  rw [wW_a (hf _)] at h1
  exact kk _ H1 locs1 rfl h1 h3
theorem x_bast (hE : CallFix p m c cc nL s args tbG own) (hK : va_K D xcl (xty K) s) (hN : apart ad N) (hP : va_P D xcl (wW ad G N v ar al) H) (hS : va_S (inW ad N) s.heap H locs) (i : Nat) (hi : i < N) {n : Nat} (hf : ∀ g : Nat → Int32, G i (v i) g (al i) = .inl (K 2, n, .inl g)) {j x : Int32} (hin : vp_in j n) (hdg : decode cc pc = .ok (.bastore, 1))
    (kk : ∀ (ar' : sI) (H1 : Heap) (locs1 : List Loc), ar' = va_up ar i (upd (ar i) j.toNatClampNeg (vp_nar .byte x)) → va_P D xcl (wW ad G N v ar' al) H1 → va_S (inW ad N) s.heap H1 locs1 → W p l e R s m args below meth c H1 locs1 cells slots Q (F0 m (pc + 1) ls rest)) : W p l e R s m args below meth c H locs cells slots Q (F0 m pc ls (.int x :: .int j :: .ref (ad i) :: rest)) := by
  refine va_bast hE.1 hE.2.1 hK hP (pw_D hN (fun i hi => ⟨i, hi, rfl⟩)) hS i 2 (wW_at hi (hf _)) rfl hin hdg (fun H1 locs1 h1 _ h3 => ?_)
  rw [wW_a (hf _)] at h1
  exact kk _ H1 locs1 rfl h1 h3
theorem x_last (hE : CallFix p m c cc nL s args tbG own) (hK : va_K D xcl (xty K) s) (hN : apart ad N) (hP : va_P D xcl (wW ad G N v ar al) H) (hS : va_S (inW ad N) s.heap H locs) (i : Nat) (hi : i < N) {n : Nat} (hf : ∀ g : Nat → Int64, G i (v i) (ar i) g = .inl (K 1, n, .inr (.inl g))) {j : Int32} {x : Int64} (hin : vp_in j n) (hdg : decode cc pc = .ok (.lastore, 1))
    (kk : ∀ (al' : sL) (H1 : Heap) (locs1 : List Loc), al' = va_up al i (vp_updL (al i) j.toNatClampNeg x) → va_P D xcl (wW ad G N v ar al') H1 → va_S (inW ad N) s.heap H1 locs1 → W p l e R s m args below meth c H1 locs1 cells slots Q (F0 m (pc + 1) ls rest)) : W p l e R s m args below meth c H locs cells slots Q (F0 m pc ls (.long x :: .int j :: .ref (ad i) :: rest)) := by
  refine va_last hE.1 hE.2.1 hK hP (pw_D hN (fun i hi => ⟨i, hi, rfl⟩)) hS i 1 (wW_at hi (hf _)) rfl hin hdg (fun H1 locs1 h1 _ h3 => ?_)
  rw [wW_l (hf _)] at h1
  exact kk _ H1 locs1 rfl h1 h3
theorem x_copyi (hE : CallFix p m c cc nL s args tbG own) (hls : ls.size = nL) (hK : va_K D xcl (xty K) s) (hN : apart ad N) (hP : va_P D xcl (wW ad G N v ar al) H) (hS : va_S (inW ad N) s.heap H locs) {index : Nat} (hlink : Cond.methodLink own index arraycopyName ∈ tbG) (hnat : Cond.native arraycopyName ∈ tbG) (hstat : Cond.static arraycopyName ∈ tbG) (hini : Cond.initialized "java/lang/System" ∈ tbG) (i k : Nat) (hi : i < N) (hk : k < N) {n0 n1 : Nat} (hf : G i (v i) (ar i) (al i) = .inl (K 0, n0, .inl (ar i))) (hg : ∀ g : Nat → Int32, G k (v k) g (al k) = .inl (K 0, n1, .inl g)) {sp dp n : Int32} (h1 : ¬ sp < 0) (h2 : ¬ dp < 0) (h3 : ¬ n < 0) (h4 : sp.toNatClampNeg + n.toNatClampNeg ≤ n0) (h5 : dp.toNatClampNeg + n.toNatClampNeg ≤ n1) (hfr : 1 ≤ R.frames) (hlo : (rest.map fun v => v.category).sum + (nativeFrameWords "java/lang/System" "arraycopy" 5 + 11) ≤ R.locals) (hdg : decode cc pc = .ok (.invokestatic index, 3))
    (kk : ∀ (ar' : sI) (H1 : Heap) (locs1 : List Loc), ar' = va_up ar k (va_cpy (ar i) (ar k) sp.toNatClampNeg dp.toNatClampNeg n.toNatClampNeg) → va_P D xcl (wW ad G N v ar' al) H1 → va_S (inW ad N) s.heap H1 locs1 → W p l e R s m args below meth c H1 locs1 cells slots Q (F0 m (pc + 3) ls rest)) : W p l e R s m args below meth c H locs cells slots Q (F0 m pc ls (.int n :: .int dp :: .ref (ad k) :: .int sp :: .ref (ad i) :: rest)) := by
  refine va_copyi hE.1 hE.2.1 (hE.2.2.1.trans hls.symm) hE.2.2.2.1 (hE.2.2.2.2 _ hlink) (hE.2.2.2.2 _ hnat) (hE.2.2.2.2 _ hstat) (hE.2.2.2.2 _ hini) hK hP (pw_D hN (fun i hi => ⟨i, hi, rfl⟩)) hS i k 0 0 (wW_at hi hf) (wW_at hk (hg _)) rfl rfl rfl h1 h2 h3 h4 h5 (fun _ _ => rfl) hfr hlo hdg (fun H1 locs1 a1 _ a3 => ?_)
  rw [wW_a (hg _)] at a1
  exact kk _ H1 locs1 rfl a1 a3
theorem x_recv (hK : va_K D xcl (xty K) s) (hP : va_P D xcl (wW ad G N v ar al) H) (i : Nat) (hi : i < N) {ci : Nat} {fs : List Value} (hf : G i (v i) (ar i) (al i) = .inr (ci, fs)) {q : vw_C} (hc : xcl[ci]? = some q) : ∃ cell : Cell, H[ad i]? = some cell ∧ cell.vm.isStatics = false ∧ s.vm.findClass q.1 = some cell.cls := va_recv hK hP hc (wW_at hi hf)
/-- a virtual call that leaves the heap as it was -/
theorem x_vp (hE : CallFix p m c cc nL s args tbG own) {y : MethodName} {b : ByteArray} {mL d idx nn a : Nat} {ret : Option FieldType} {As : List Value} {Bp : State → Prop} {post : Int32 → Prop} (hM : Met l y (wM y b mL ret) (rmD d) (va_Pc (.ref a :: As) Bp) (vp_Si post) 0 0 (fun _ => False)) (hbl : FrameBlind (va_Pc (.ref a :: As) Bp)) (hB : ∀ U : State, U.heap = H → s.WarmedH U.vm → Bp U) (hrecv : ∃ cell : Cell, H[a]? = some cell ∧ cell.vm.isStatics = false ∧ s.vm.findClass y.cls = some cell.cls) (hnn : As.length = nn) (h1 : Cond.methodLink own idx y ∈ tbG) (h2 : Cond.instanceMethod y ∈ tbG) (h3 : Cond.selects y.cls y y ∈ tbG) (h4 : Cond.initialized y.cls ∈ tbG) (h5 : Cond.code y b mL ret ∈ tbG) (hd : y.cls = y.cls ∧ y.cls ≠ "java/lang/invoke/MethodHandle" ∧ y.cls ≠ "java/lang/invoke/VarHandle" ∧ (parseMethodDescriptor y.desc).map (fun d => d.parameters.length) = some nn) (hR : d + 1 ≤ R.frames ∧ 8 + (mL + 11) + 64 * d ≤ R.locals) (hls : ls.size = nL) (hst : st = As.reverse ++ .ref a :: rest) (hw : (rest.map fun v => v.category).sum ≤ 8) (hcs : cells ≤ R.cells ∧ slots ≤ R.slots) (hdg : decode cc pc = .ok (.invokevirtual idx, 3))
    (kk : ∀ r : Int32, post r → W p l e R s m args below meth c H locs cells slots Q (F0 m (pc + 3) ls (.int r :: rest))) : W p l e R s m args below meth c H locs cells slots Q (F0 m pc ls st) := by
  refine vp_callSi (va_runV (As := As) (rest := rest) hE hM (cwV nn hE.2.2.2.2 (gV h1 h2 h3 h4 h5) rfl rfl rfl hd hR) ⟨hbl, hrecv, fun U hU hW => ⟨rfl, hB U hU hW⟩⟩ rfl hnn hls hst (lv_room hw) hdg hcs).run kk
/-- a static call that leaves the heap as it was -/
theorem x_sp (hE : CallFix p m c cc nL s args tbG own) {y : MethodName} {b : ByteArray} {mL d idx nn : Nat} {ret : Option FieldType} {As : List Value} {Bp : State → Prop} {post : Int32 → Prop} (hM : Met l y (wM y b mL ret) (rmD d) (va_Pc As Bp) (vp_Si post) 0 0 (fun _ => False)) (hbl : FrameBlind (va_Pc As Bp)) (hB : ∀ U : State, U.heap = H → s.WarmedH U.vm → Bp U) (hnn : As.length = nn) (h1 : Cond.methodLink own idx y ∈ tbG) (h2 : Cond.static y ∈ tbG) (h4 : Cond.initialized y.cls ∈ tbG) (h5 : Cond.code y b mL ret ∈ tbG) (hd : y.cls ≠ "java/lang/invoke/MethodHandle" ∧ y.cls ≠ "java/lang/invoke/VarHandle" ∧ (parseMethodDescriptor y.desc).map (fun d => d.parameters.length) = some nn) (hR : d + 1 ≤ R.frames ∧ 8 + (mL + 11) + 64 * d ≤ R.locals) (hls : ls.size = nL) (hst : st = As.reverse ++ rest) (hw : (rest.map fun v => v.category).sum ≤ 8) (hcs : cells ≤ R.cells ∧ slots ≤ R.slots) (hdg : decode cc pc = .ok (.invokestatic idx, 3))
    (kk : ∀ r : Int32, post r → W p l e R s m args below meth c H locs cells slots Q (F0 m (pc + 3) ls (.int r :: rest))) : W p l e R s m args below meth c H locs cells slots Q (F0 m pc ls st) := by
  refine vp_callSi (va_runS (As := As) (rest := rest) hE hM (va_cwS nn hE.2.2.2.2 (gS h1 h2 h4 h5) rfl rfl rfl hd hR) ⟨hbl, fun U hU hW => ⟨rfl, hB U hU hW⟩⟩ rfl hnn hls hst (lv_room hw) hdg hcs).run kk
/-- a virtual call of an int method that works in the world -/
theorem x_vi (hE : CallFix p m c cc nL s args tbG own) (hK : va_K D xcl (xty K) s) (hN : apart ad N) (hP : va_P D xcl (wW ad G N v ar al) H) (hS : va_S (inW ad N) s.heap H locs) {y : MethodName} {b : ByteArray} {mL d idx nn a : Nat} {ret : Option FieldType} {As : List Value} {post : Int32 → sT → Prop} (hM : Met l y (wM y b mL ret) (rmD d) (va_Pc (.ref a :: As) (wPre D K ad G N v ar al)) (va_Qi post (wB D ad G N) (inW ad N)) 0 0 (inW ad N)) (hrecv : ∃ cell : Cell, H[a]? = some cell ∧ cell.vm.isStatics = false ∧ s.vm.findClass y.cls = some cell.cls) (hnn : As.length = nn) (h1 : Cond.methodLink own idx y ∈ tbG) (h2 : Cond.instanceMethod y ∈ tbG) (h3 : Cond.selects y.cls y y ∈ tbG) (h4 : Cond.initialized y.cls ∈ tbG) (h5 : Cond.code y b mL ret ∈ tbG) (hd : y.cls = y.cls ∧ y.cls ≠ "java/lang/invoke/MethodHandle" ∧ y.cls ≠ "java/lang/invoke/VarHandle" ∧ (parseMethodDescriptor y.desc).map (fun d => d.parameters.length) = some nn) (hR : d + 1 ≤ R.frames ∧ 8 + (mL + 11) + 64 * d ≤ R.locals) (hls : ls.size = nL) (hst : st = As.reverse ++ .ref a :: rest) (hw : (rest.map fun v => v.category).sum ≤ 8) (hcs : cells ≤ R.cells ∧ slots ≤ R.slots) (hdg : decode cc pc = .ok (.invokevirtual idx, 3))
    (kk : ∀ (r : Int32) (v' ar' : sI) (al' : sL) (H1 : Heap) (locs1 : List Loc), post r (v', ar', al') → va_P D xcl (wW ad G N v' ar' al') H1 → va_S (inW ad N) s.heap H1 locs1 → W p l e R s m args below meth c H1 locs1 cells slots Q (F0 m (pc + 3) ls (.int r :: rest))) : W p l e R s m args below meth c H locs cells slots Q (F0 m pc ls st) := by
  refine va_calli (va_runV (As := As) (rest := rest) hE hM (cwV nn hE.2.2.2.2 (gV h1 h2 h3 h4 h5) rfl rfl rfl hd hR) ⟨wPre_blind, hrecv, fun U hU hW => ⟨rfl, wPre_now hK hN hP U hU hW⟩⟩ rfl hnn hls hst (lv_room hw) hdg hcs) hS (fun q _ h => h) (fun q h => h) (fun r u t H1 locs1 ht _ hp hB _ _ hS1 => ?_)
  exact kk r u.1 u.2.1 u.2.2 H1 locs1 hp (by rw [← ht]; exact hB) hS1
/-- a virtual call of a void method that works in the world -/
theorem x_vv (hE : CallFix p m c cc nL s args tbG own) (hK : va_K D xcl (xty K) s) (hN : apart ad N) (hP : va_P D xcl (wW ad G N v ar al) H) (hS : va_S (inW ad N) s.heap H locs) {y : MethodName} {b : ByteArray} {mL d idx nn a : Nat} {As : List Value} {post : sT → Prop} (hM : Met l y (wM y b mL none) (rmD d) (va_Pc (.ref a :: As) (wPre D K ad G N v ar al)) (va_Qv post (wB D ad G N) (inW ad N)) 0 0 (inW ad N)) (hrecv : ∃ cell : Cell, H[a]? = some cell ∧ cell.vm.isStatics = false ∧ s.vm.findClass y.cls = some cell.cls) (hnn : As.length = nn) (h1 : Cond.methodLink own idx y ∈ tbG) (h2 : Cond.instanceMethod y ∈ tbG) (h3 : Cond.selects y.cls y y ∈ tbG) (h4 : Cond.initialized y.cls ∈ tbG) (h5 : Cond.code y b mL none ∈ tbG) (hd : y.cls = y.cls ∧ y.cls ≠ "java/lang/invoke/MethodHandle" ∧ y.cls ≠ "java/lang/invoke/VarHandle" ∧ (parseMethodDescriptor y.desc).map (fun d => d.parameters.length) = some nn) (hR : d + 1 ≤ R.frames ∧ 8 + (mL + 11) + 64 * d ≤ R.locals) (hls : ls.size = nL) (hst : st = As.reverse ++ .ref a :: rest) (hw : (rest.map fun v => v.category).sum ≤ 8) (hcs : cells ≤ R.cells ∧ slots ≤ R.slots) (hdg : decode cc pc = .ok (.invokevirtual idx, 3))
    (kk : ∀ (v' ar' : sI) (al' : sL) (H1 : Heap) (locs1 : List Loc), post (v', ar', al') → va_P D xcl (wW ad G N v' ar' al') H1 → va_S (inW ad N) s.heap H1 locs1 → W p l e R s m args below meth c H1 locs1 cells slots Q (F0 m (pc + 3) ls rest)) : W p l e R s m args below meth c H locs cells slots Q (F0 m pc ls st) := by
  refine va_callv (va_runV (As := As) (rest := rest) hE hM (cwV nn hE.2.2.2.2 (gV h1 h2 h3 h4 h5) rfl rfl rfl hd hR) ⟨wPre_blind, hrecv, fun U hU hW => ⟨rfl, wPre_now hK hN hP U hU hW⟩⟩ rfl hnn hls hst (lv_room hw) hdg hcs) hS (fun q _ h => h) (fun q h => h) (fun u t H1 locs1 ht _ hp hB _ _ hS1 => ?_)
  exact kk u.1 u.2.1 u.2.2 H1 locs1 hp (by rw [← ht]; exact hB) hS1
/-- a static call of a void method that works in the world -/
theorem x_sv (hE : CallFix p m c cc nL s args tbG own) (hK : va_K D xcl (xty K) s) (hN : apart ad N) (hP : va_P D xcl (wW ad G N v ar al) H) (hS : va_S (inW ad N) s.heap H locs) {y : MethodName} {b : ByteArray} {mL d idx nn : Nat} {As : List Value} {post : sT → Prop} (hM : Met l y (wM y b mL none) (rmD d) (va_Pc As (wPre D K ad G N v ar al)) (va_Qv post (wB D ad G N) (inW ad N)) 0 0 (inW ad N)) (hnn : As.length = nn) (h1 : Cond.methodLink own idx y ∈ tbG) (h2 : Cond.static y ∈ tbG) (h4 : Cond.initialized y.cls ∈ tbG) (h5 : Cond.code y b mL none ∈ tbG) (hd : y.cls ≠ "java/lang/invoke/MethodHandle" ∧ y.cls ≠ "java/lang/invoke/VarHandle" ∧ (parseMethodDescriptor y.desc).map (fun d => d.parameters.length) = some nn) (hR : d + 1 ≤ R.frames ∧ 8 + (mL + 11) + 64 * d ≤ R.locals) (hls : ls.size = nL) (hst : st = As.reverse ++ rest) (hw : (rest.map fun v => v.category).sum ≤ 8) (hcs : cells ≤ R.cells ∧ slots ≤ R.slots) (hdg : decode cc pc = .ok (.invokestatic idx, 3))
    (kk : ∀ (v' ar' : sI) (al' : sL) (H1 : Heap) (locs1 : List Loc), post (v', ar', al') → va_P D xcl (wW ad G N v' ar' al') H1 → va_S (inW ad N) s.heap H1 locs1 → W p l e R s m args below meth c H1 locs1 cells slots Q (F0 m (pc + 3) ls rest)) : W p l e R s m args below meth c H locs cells slots Q (F0 m pc ls st) := by
  refine va_callv (va_runS (As := As) (rest := rest) hE hM (va_cwS nn hE.2.2.2.2 (gS h1 h2 h4 h5) rfl rfl rfl hd hR) ⟨wPre_blind, fun U hU hW => ⟨rfl, wPre_now hK hN hP U hU hW⟩⟩ rfl hnn hls hst (lv_room hw) hdg hcs) hS (fun q _ h => h) (fun q h => h) (fun u t H1 locs1 ht _ hp hB _ _ hS1 => ?_)
  exact kk u.1 u.2.1 u.2.2 H1 locs1 hp (by rw [← ht]; exact hB) hS1
/-- the ends -/
theorem x_ri (hE : CallFix p m c cc nL s args tbG own) {ty : FieldType} (hr : meth.sig.returnType = some ty) (hlo : meth.locks = false) {post : Int32 → Prop} {x : Int32} (hn : narrow ty (.int x) = .int x) (hp : post x) (hdg : decode cc pc = .ok (.ireturn, 1)) : W p l e R s m args below meth c s.heap [] 0 0 (MQ below (vp_Si post) args s 0 0 (fun _ => False)) (F0 m pc ls [.int x]) :=
  W.zret hE.1 hE.2.1 hr hn (fun t ht _ => ⟨x, rfl, hp, ht⟩) (fun _ h => absurd h List.not_mem_nil) hdg hlo
theorem x_wi (hE : CallFix p m c cc nL s args tbG own) {ty : FieldType} (hr : meth.sig.returnType = some ty) (hlo : meth.locks = false) (hP : va_P D xcl (wW ad G N v ar al) H) (hS : va_S (inW ad N) s.heap H locs) {post : Int32 → sT → Prop} {x : Int32} (hn : narrow ty (.int x) = .int x) (hp : post x (v, ar, al)) (hdg : decode cc pc = .ok (.ireturn, 1)) : W p l e R s m args below meth c H locs 0 0 (MQ below (va_Qi post (wB D ad G N) (inW ad N)) args s 0 0 (inW ad N)) (F0 m pc ls [.int x]) :=
  W.zret hE.1 hE.2.1 hr hn (fun t ht _ => ⟨⟨x, (v, ar, al), rfl, hp, by show va_P _ _ _ t.heap; rw [ht]; exact hP⟩, hS.F ht⟩) hS.2.2 hdg hlo
theorem x_wv (hE : CallFix p m c cc nL s args tbG own) (hr : meth.sig.returnType = none) (hlo : meth.locks = false) (hP : va_P D xcl (wW ad G N v ar al) H) (hS : va_S (inW ad N) s.heap H locs) {post : sT → Prop} (hp : post (v, ar, al)) (hdg : decode cc pc = .ok (.return_, 1)) : W p l e R s m args below meth c H locs 0 0 (MQ below (va_Qv post (wB D ad G N) (inW ad N)) args s 0 0 (inW ad N)) (F0 m pc ls []) :=
  W.vret hE.1 hE.2.1 hr (fun t ht _ => ⟨⟨(v, ar, al), rfl, hp, by show va_P _ _ _ t.heap; rw [ht]; exact hP⟩, hS.F ht⟩) hS.2.2 hdg hlo
end XR
end
section
def xk (i : Nat) : Nat := ([8, 4, 12, 1, 10, 10, 10, 10, 10, 10, 10, 10, 10, 1, 10, 10, 10, 10, 10, 10, 10, 10, 10, 7, 10, 10, 10, 10, 10, 10, 10, 7, 10, 10, 10, 10, 10, 10, 10, 0, 10, 10, 10, 10, 10, 6, 11, 10, 7, 10, 10, 10, 10, 10, 10, 10, 2, 7, 10, 10, 10, 10, 10, 10, 10, 13, 14, 5, 11, 5, 11, 5, 11, 5, 11, 3, 1, 10, 10, 10, 10, 10, 10, 10, 10, 10, 7, 10, 10, 10, 10, 10, 10, 10, 3, 1, 10, 10, 10, 10, 10, 10, 10, 10, 10, 7, 10, 10, 10, 10, 10, 10, 10, 3, 1, 10, 10, 10, 10, 10, 10, 10, 10, 10, 7, 10, 10, 10, 10, 10, 10, 10] : List Nat).getD i 99
def xn (i : Nat) : Nat := ([0, 0, 1600, 0, 9, 9, 9, 9, 9, 9, 3, 8, 8, 0, 9, 9, 9, 9, 9, 9, 3, 8, 8, 0, 18, 9, 3, 18, 18, 18, 18, 0, 18, 9, 3, 18, 18, 18, 18, 0, 81, 9, 72, 512, 512, 0, 4096, 4096, 0, 18, 9, 3, 18, 18, 18, 18, 0, 0, 18, 9, 3, 18, 18, 18, 18, 4, 3, 0, 60, 0, 60, 0, 60, 0, 60, 0, 0, 9, 9, 9, 9, 9, 9, 3, 8, 8, 0, 18, 9, 3, 18, 18, 18, 18, 0, 0, 9, 9, 9, 9, 9, 9, 3, 8, 8, 0, 18, 9, 3, 18, 18, 18, 18, 0, 0, 9, 9, 9, 9, 9, 9, 3, 8, 8, 0, 18, 9, 3, 18, 18, 18, 18] : List Nat).getD i 0
def xc (i : Nat) : Nat := ([0, 0, 0, 0, 0, 0, 0, 0, 0, 0, 0, 0, 0, 0, 0, 0, 0, 0, 0, 0, 0, 0, 0, 3, 0, 0, 0, 0, 0, 0, 0, 3, 0, 0, 0, 0, 0, 0, 0, 0, 0, 0, 0, 0, 0, 0, 0, 0, 3, 0, 0, 0, 0, 0, 0, 0, 0, 3, 0, 0, 0, 0, 0, 0, 0, 0, 0, 0, 0, 0, 0, 0, 0, 0, 0, 0, 0, 0, 0, 0, 0, 0, 0, 0, 0, 0, 76, 0, 0, 0, 0, 0, 0, 0, 0, 0, 0, 0, 0, 0, 0, 0, 0, 0, 0, 95, 0, 0, 0, 0, 0, 0, 0, 0, 0, 0, 0, 0, 0, 0, 0, 0, 0, 0, 114, 0, 0, 0, 0, 0, 0, 0] : List Nat).getD i 0
def xrow (ad : Nat → Nat) : Nat → Option Nat := fun j => if j = 3 then some (ad 73) else if j = 2 then some (ad 71) else if j = 1 then some (ad 69) else if j = 0 then some (ad 67) else none
def ximg (ad : Nat → Nat) : Nat → Option Nat := fun j => if j = 2 then some (ad 113) else if j = 1 then some (ad 94) else if j = 0 then some (ad 75) else none
def xG (ad : Nat → Nat) (K : Nat → ClassId) (mm : Option Nat) : gT := fun i v a l => match xk i with
  | 0 => .inr (0, [.int (v 0), .ref (ad (i + 1)), .ref (ad (i + 2)), .ref (ad (i + 3)), .ref (ad (i + 4)), .ref (ad (i + 5))])
  | 1 => .inr (1, [.int (v 0), .int (v 1), .int (v 2), .int (v 3), .int (v 4), .int (v 5), .int (v 6), .int (v 7), .int (v 8), .int (v 9), .int (v 10), .ref (ad (i + 1)), .ref (ad (i + 2)), .ref (ad (i + 3)), .ref (ad (i + 4)), .ref (ad (i + 5)), .ref (ad (i + 6)), .ref (ad (i + 7)), .ref (ad (i + 8)), .ref (ad (i + 9))])
  | 2 => .inr (2, [.ref (ad 3), .ref (ad (i + 1)), va_rf mm, .int (v 3), .int (v 4)])
  | 3 => .inr (3, [.ref (ad (i + 1)), .ref (ad (i + 11)), .int (v 2)])
  | 4 => .inr (4, [.int (v 0), .int (v 1), .int (v 2), .ref (ad (i + 1)), .int (v 4), .int (v 5), .int (v 6)])
  | 5 => .inr (5, [.ref (ad (i + 1)), .int (v 1), .int (v 2)])
  | 6 => .inr (6, [.ref (ad (i + 3)), .ref (ad 39), .ref (ad (i + 1)), .ref (ad (i + 2)), .int (v 4), .int (v 5), .int (v 6), .int (v 7)])
  | 7 => .inr (7, [.ref (ad (i + 1)), .ref (ad (i + 2)), .int (v 2), .int (v 3), .int (v 4), .int (v 5), .ref (ad (xc i)), .ref (ad (i + 3)), .int (v 8), .int (v 9), .ref (ad (i + 4)), .ref (ad (i + 5)), .ref (ad (i + 6)), .ref (ad (i + 7))])
  | 8 => .inr (8, [.ref (ad 1), .ref (ad 3), .ref (ad 13), .ref (ad 23), .ref (ad 31), .ref (ad 39), .ref (ad 45), .ref (ad 56), .ref (ad 65), .ref (ad 66)])
  | 10 => .inl (K 0, xn i, .inl a)
  | 11 => .inl (K 1, xn i, .inr (.inl l))
  | 12 => .inl (K 2, xn i, .inl a)
  | 13 => .inl (K 4, 4, .inr (.inr (.inr (.inr (xrow ad)))))
  | 14 => .inl (K 5, 3, .inr (.inr (.inr (.inr (ximg ad)))))
  | _ => .inr (0, [])
theorem xG_0 {ad : Nat → Nat} {K : Nat → ClassId} {mm : Option Nat} {i : Nat} {v a : Nat → Int32} {l : Nat → Int64} (h : xk i = 0) : xG ad K mm i v a l = .inr (0, [.int (v 0), .ref (ad (i + 1)), .ref (ad (i + 2)), .ref (ad (i + 3)), .ref (ad (i + 4)), .ref (ad (i + 5))]) := by unfold xG; rw [h]; rfl
theorem xG_1 {ad : Nat → Nat} {K : Nat → ClassId} {mm : Option Nat} {i : Nat} {v a : Nat → Int32} {l : Nat → Int64} (h : xk i = 1) : xG ad K mm i v a l = .inr (1, [.int (v 0), .int (v 1), .int (v 2), .int (v 3), .int (v 4), .int (v 5), .int (v 6), .int (v 7), .int (v 8), .int (v 9), .int (v 10), .ref (ad (i + 1)), .ref (ad (i + 2)), .ref (ad (i + 3)), .ref (ad (i + 4)), .ref (ad (i + 5)), .ref (ad (i + 6)), .ref (ad (i + 7)), .ref (ad (i + 8)), .ref (ad (i + 9))]) := by unfold xG; rw [h]; rfl
theorem xG_2 {ad : Nat → Nat} {K : Nat → ClassId} {mm : Option Nat} {i : Nat} {v a : Nat → Int32} {l : Nat → Int64} (h : xk i = 2) : xG ad K mm i v a l = .inr (2, [.ref (ad 3), .ref (ad (i + 1)), va_rf mm, .int (v 3), .int (v 4)]) := by unfold xG; rw [h]; rfl
theorem xG_3 {ad : Nat → Nat} {K : Nat → ClassId} {mm : Option Nat} {i : Nat} {v a : Nat → Int32} {l : Nat → Int64} (h : xk i = 3) : xG ad K mm i v a l = .inr (3, [.ref (ad (i + 1)), .ref (ad (i + 11)), .int (v 2)]) := by unfold xG; rw [h]; rfl
theorem xG_4 {ad : Nat → Nat} {K : Nat → ClassId} {mm : Option Nat} {i : Nat} {v a : Nat → Int32} {l : Nat → Int64} (h : xk i = 4) : xG ad K mm i v a l = .inr (4, [.int (v 0), .int (v 1), .int (v 2), .ref (ad (i + 1)), .int (v 4), .int (v 5), .int (v 6)]) := by unfold xG; rw [h]; rfl
theorem xG_5 {ad : Nat → Nat} {K : Nat → ClassId} {mm : Option Nat} {i : Nat} {v a : Nat → Int32} {l : Nat → Int64} (h : xk i = 5) : xG ad K mm i v a l = .inr (5, [.ref (ad (i + 1)), .int (v 1), .int (v 2)]) := by unfold xG; rw [h]; rfl
theorem xG_6 {ad : Nat → Nat} {K : Nat → ClassId} {mm : Option Nat} {i : Nat} {v a : Nat → Int32} {l : Nat → Int64} (h : xk i = 6) : xG ad K mm i v a l = .inr (6, [.ref (ad (i + 3)), .ref (ad 39), .ref (ad (i + 1)), .ref (ad (i + 2)), .int (v 4), .int (v 5), .int (v 6), .int (v 7)]) := by unfold xG; rw [h]; rfl
theorem xG_7 {ad : Nat → Nat} {K : Nat → ClassId} {mm : Option Nat} {i : Nat} {v a : Nat → Int32} {l : Nat → Int64} (h : xk i = 7) : xG ad K mm i v a l = .inr (7, [.ref (ad (i + 1)), .ref (ad (i + 2)), .int (v 2), .int (v 3), .int (v 4), .int (v 5), .ref (ad (xc i)), .ref (ad (i + 3)), .int (v 8), .int (v 9), .ref (ad (i + 4)), .ref (ad (i + 5)), .ref (ad (i + 6)), .ref (ad (i + 7))]) := by unfold xG; rw [h]; rfl
theorem xG_8 {ad : Nat → Nat} {K : Nat → ClassId} {mm : Option Nat} {i : Nat} {v a : Nat → Int32} {l : Nat → Int64} (h : xk i = 8) : xG ad K mm i v a l = .inr (8, [.ref (ad 1), .ref (ad 3), .ref (ad 13), .ref (ad 23), .ref (ad 31), .ref (ad 39), .ref (ad 45), .ref (ad 56), .ref (ad 65), .ref (ad 66)]) := by unfold xG; rw [h]; rfl
theorem xG_10 {ad : Nat → Nat} {K : Nat → ClassId} {mm : Option Nat} {i : Nat} {v a : Nat → Int32} {l : Nat → Int64} (h : xk i = 10) : xG ad K mm i v a l = .inl (K 0, xn i, .inl a) := by unfold xG; rw [h]; rfl
theorem xG_11 {ad : Nat → Nat} {K : Nat → ClassId} {mm : Option Nat} {i : Nat} {v a : Nat → Int32} {l : Nat → Int64} (h : xk i = 11) : xG ad K mm i v a l = .inl (K 1, xn i, .inr (.inl l)) := by unfold xG; rw [h]; rfl
theorem xG_12 {ad : Nat → Nat} {K : Nat → ClassId} {mm : Option Nat} {i : Nat} {v a : Nat → Int32} {l : Nat → Int64} (h : xk i = 12) : xG ad K mm i v a l = .inl (K 2, xn i, .inl a) := by unfold xG; rw [h]; rfl
theorem xG_13 {ad : Nat → Nat} {K : Nat → ClassId} {mm : Option Nat} {i : Nat} {v a : Nat → Int32} {l : Nat → Int64} (h : xk i = 13) : xG ad K mm i v a l = .inl (K 4, 4, .inr (.inr (.inr (.inr (xrow ad))))) := by unfold xG; rw [h]; rfl
theorem xG_14 {ad : Nat → Nat} {K : Nat → ClassId} {mm : Option Nat} {i : Nat} {v a : Nat → Int32} {l : Nat → Int64} (h : xk i = 14) : xG ad K mm i v a l = .inl (K 5, 3, .inr (.inr (.inr (.inr (ximg ad))))) := by unfold xG; rw [h]; rfl
def xv0 : sI := fun i k => if (xk i = 7 ∧ k = 4) ∨ (i = 1 ∧ k = 2) ∨ (xk i = 5 ∧ k = 2) then -1 else 0
def xa0 : sI := fun _ _ => 0
def xl0 : sL := fun _ _ => 0
def yk (i : Nat) : Nat := ([9, 10, 10, 11, 11, 12, 10, 10, 10, 10, 10, 15, 10, 10, 10, 10, 10, 10, 10, 10, 10] : List Nat).getD i 99
def yn (i : Nat) : Nat := ([0, 4, 4, 240, 60, 1600, 5, 30, 405, 80, 90, 3, 60, 9, 3, 9, 10, 9, 163840, 512, 512] : List Nat).getD i 0
def yG (ad : Nat → Nat) (K : Nat → ClassId) : gT := fun i v a l => match yk i with
  | 9 => .inr (9, [.int (v 0), .ref (ad 1), .ref (ad 2), .ref (ad 3), .ref (ad 4), .ref (ad 5), .int (v 6), .int (v 7), .int (v 8), .int (v 9), .int (v 10), .long (l 0), .int (v 12), .int (v 13), .int (v 14), .int (v 15), .ref (ad 6), .ref (ad 7), .ref (ad 8), .ref (ad 9), .ref (ad 10), .ref (ad 11), .ref (ad 12), .ref (ad 13), .int (v 24), .int (v 25), .int (v 26), .int (v 27), .ref (ad 14), .int (v 29), .int (v 30), .int (v 31), .int (v 32), .int (v 33), .ref (ad 15), .ref (ad 16), .ref (ad 17), .int (v 37), .int (v 38), .int (v 39), .int (v 40), .int (v 41), .int (v 42), .ref (ad 18), .int (v 44), .int (v 45), .int (v 46), .ref (ad 19), .ref (ad 20), .int (v 49)])
  | 10 => .inl (K 0, yn i, .inl a)
  | 11 => .inl (K 1, yn i, .inr (.inl l))
  | 12 => .inl (K 2, yn i, .inl a)
  | 15 => .inl (K 3, yn i, .inl a)
  | _ => .inr (0, [])
theorem yG_9 {ad : Nat → Nat} {K : Nat → ClassId} {i : Nat} {v a : Nat → Int32} {l : Nat → Int64} (h : yk i = 9) : yG ad K i v a l = .inr (9, [.int (v 0), .ref (ad 1), .ref (ad 2), .ref (ad 3), .ref (ad 4), .ref (ad 5), .int (v 6), .int (v 7), .int (v 8), .int (v 9), .int (v 10), .long (l 0), .int (v 12), .int (v 13), .int (v 14), .int (v 15), .ref (ad 6), .ref (ad 7), .ref (ad 8), .ref (ad 9), .ref (ad 10), .ref (ad 11), .ref (ad 12), .ref (ad 13), .int (v 24), .int (v 25), .int (v 26), .int (v 27), .ref (ad 14), .int (v 29), .int (v 30), .int (v 31), .int (v 32), .int (v 33), .ref (ad 15), .ref (ad 16), .ref (ad 17), .int (v 37), .int (v 38), .int (v 39), .int (v 40), .int (v 41), .int (v 42), .ref (ad 18), .int (v 44), .int (v 45), .int (v 46), .ref (ad 19), .ref (ad 20), .int (v 49)]) := by unfold yG; rw [h]; rfl
theorem yG_10 {ad : Nat → Nat} {K : Nat → ClassId} {i : Nat} {v a : Nat → Int32} {l : Nat → Int64} (h : yk i = 10) : yG ad K i v a l = .inl (K 0, yn i, .inl a) := by unfold yG; rw [h]; rfl
theorem yG_11 {ad : Nat → Nat} {K : Nat → ClassId} {i : Nat} {v a : Nat → Int32} {l : Nat → Int64} (h : yk i = 11) : yG ad K i v a l = .inl (K 1, yn i, .inr (.inl l)) := by unfold yG; rw [h]; rfl
theorem yG_12 {ad : Nat → Nat} {K : Nat → ClassId} {i : Nat} {v a : Nat → Int32} {l : Nat → Int64} (h : yk i = 12) : yG ad K i v a l = .inl (K 2, yn i, .inl a) := by unfold yG; rw [h]; rfl
theorem yG_15 {ad : Nat → Nat} {K : Nat → ClassId} {i : Nat} {v a : Nat → Int32} {l : Nat → Int64} (h : yk i = 15) : yG ad K i v a l = .inl (K 3, yn i, .inl a) := by unfold yG; rw [h]; rfl
def yv0 : sI := fun _ k => if k = 15 ∨ k = 42 then -1 else 0
def ya0 : sI := fun i => if i = 1 then upd (upd (upd (upd (fun _ => 0) 0 (-1)) 1 (-1)) 2 (-1)) 3 (-1) else fun _ => 0
def yl0 : sL := fun _ _ => 0
theorem up_same {v : sI} {i k : Nat} {x : Int32} (h : v i k = x) : va_up v i (upd (v i) k x) = v := by
  funext a b
  by_cases ha : a = i
  · subst ha
    by_cases hb : b = k
    · subst hb; simp [va_up, upd, h]
    · simp [va_up, upd, hb]
  · simp [va_up, ha]
theorem hin0 : ∀ w ∈ u_ws RX0 TX0 6, w ∈ tbG := List.forall_mem_cons.mpr ⟨mw_365, List.forall_mem_cons.mpr ⟨mw_367, List.forall_mem_cons.mpr ⟨mw_369, List.forall_mem_cons.mpr ⟨mw_371, List.forall_mem_cons.mpr ⟨mw_373, List.forall_mem_cons.mpr ⟨mw_375, fun _ h => absurd h List.not_mem_nil⟩⟩⟩⟩⟩⟩
theorem hin1 : ∀ w ∈ u_ws RX1 TX1 20, w ∈ tbG := List.forall_mem_cons.mpr ⟨mw_247, List.forall_mem_cons.mpr ⟨mw_249, List.forall_mem_cons.mpr ⟨mw_251, List.forall_mem_cons.mpr ⟨mw_253, List.forall_mem_cons.mpr ⟨mw_255, List.forall_mem_cons.mpr ⟨mw_257, List.forall_mem_cons.mpr ⟨mw_259, List.forall_mem_cons.mpr ⟨mw_261, List.forall_mem_cons.mpr ⟨mw_263, List.forall_mem_cons.mpr ⟨mw_265, List.forall_mem_cons.mpr ⟨mw_267, List.forall_mem_cons.mpr ⟨mw_269, List.forall_mem_cons.mpr ⟨mw_271, List.forall_mem_cons.mpr ⟨mw_273, List.forall_mem_cons.mpr ⟨mw_275, List.forall_mem_cons.mpr ⟨mw_277, List.forall_mem_cons.mpr ⟨mw_279, List.forall_mem_cons.mpr ⟨mw_281, List.forall_mem_cons.mpr ⟨mw_283, List.forall_mem_cons.mpr ⟨mw_285, fun _ h => absurd h List.not_mem_nil⟩⟩⟩⟩⟩⟩⟩⟩⟩⟩⟩⟩⟩⟩⟩⟩⟩⟩⟩⟩
theorem hin2 : ∀ w ∈ u_ws RX2 TX2 5, w ∈ tbG := List.forall_mem_cons.mpr ⟨mw_425, List.forall_mem_cons.mpr ⟨mw_427, List.forall_mem_cons.mpr ⟨mw_429, List.forall_mem_cons.mpr ⟨mw_431, List.forall_mem_cons.mpr ⟨mw_433, fun _ h => absurd h List.not_mem_nil⟩⟩⟩⟩⟩
theorem hin3 : ∀ w ∈ u_ws RX3 TX3 3, w ∈ tbG := List.forall_mem_cons.mpr ⟨mw_473, List.forall_mem_cons.mpr ⟨mw_475, List.forall_mem_cons.mpr ⟨mw_477, fun _ h => absurd h List.not_mem_nil⟩⟩⟩
theorem hin4 : ∀ w ∈ u_ws RX4 TX4 7, w ∈ tbG := List.forall_mem_cons.mpr ⟨mw_156, List.forall_mem_cons.mpr ⟨mw_158, List.forall_mem_cons.mpr ⟨mw_160, List.forall_mem_cons.mpr ⟨mw_162, List.forall_mem_cons.mpr ⟨mw_164, List.forall_mem_cons.mpr ⟨mw_166, List.forall_mem_cons.mpr ⟨mw_168, fun _ h => absurd h List.not_mem_nil⟩⟩⟩⟩⟩⟩⟩
theorem hin5 : ∀ w ∈ u_ws RX5 TX5 3, w ∈ tbG := List.forall_mem_cons.mpr ⟨mw_452, List.forall_mem_cons.mpr ⟨mw_454, List.forall_mem_cons.mpr ⟨mw_456, fun _ h => absurd h List.not_mem_nil⟩⟩⟩
theorem hin6 : ∀ w ∈ u_ws RX6 TX6 8, w ∈ tbG := List.forall_mem_cons.mpr ⟨mw_394, List.forall_mem_cons.mpr ⟨mw_396, List.forall_mem_cons.mpr ⟨mw_398, List.forall_mem_cons.mpr ⟨mw_400, List.forall_mem_cons.mpr ⟨mw_402, List.forall_mem_cons.mpr ⟨mw_404, List.forall_mem_cons.mpr ⟨mw_406, List.forall_mem_cons.mpr ⟨mw_408, fun _ h => absurd h List.not_mem_nil⟩⟩⟩⟩⟩⟩⟩⟩
theorem hin7 : ∀ w ∈ u_ws RX7 TX7 14, w ∈ tbG := List.forall_mem_cons.mpr ⟨mw_323, List.forall_mem_cons.mpr ⟨mw_325, List.forall_mem_cons.mpr ⟨mw_327, List.forall_mem_cons.mpr ⟨mw_329, List.forall_mem_cons.mpr ⟨mw_331, List.forall_mem_cons.mpr ⟨mw_333, List.forall_mem_cons.mpr ⟨mw_335, List.forall_mem_cons.mpr ⟨mw_337, List.forall_mem_cons.mpr ⟨mw_339, List.forall_mem_cons.mpr ⟨mw_341, List.forall_mem_cons.mpr ⟨mw_343, List.forall_mem_cons.mpr ⟨mw_345, List.forall_mem_cons.mpr ⟨mw_347, List.forall_mem_cons.mpr ⟨mw_349, fun _ h => absurd h List.not_mem_nil⟩⟩⟩⟩⟩⟩⟩⟩⟩⟩⟩⟩⟩⟩
theorem hin8 : ∀ w ∈ u_ws RX8 TX8 10, w ∈ tbG := List.forall_mem_cons.mpr ⟨mw_490, List.forall_mem_cons.mpr ⟨mw_492, List.forall_mem_cons.mpr ⟨mw_494, List.forall_mem_cons.mpr ⟨mw_496, List.forall_mem_cons.mpr ⟨mw_498, List.forall_mem_cons.mpr ⟨mw_500, List.forall_mem_cons.mpr ⟨mw_502, List.forall_mem_cons.mpr ⟨mw_504, List.forall_mem_cons.mpr ⟨mw_506, List.forall_mem_cons.mpr ⟨mw_508, fun _ h => absurd h List.not_mem_nil⟩⟩⟩⟩⟩⟩⟩⟩⟩⟩
theorem hin9 : ∀ w ∈ u_ws RX9 TX9 50, w ∈ tbG := List.forall_mem_cons.mpr ⟨mw_1384, List.forall_mem_cons.mpr ⟨mw_1386, List.forall_mem_cons.mpr ⟨mw_1388, List.forall_mem_cons.mpr ⟨mw_1390, List.forall_mem_cons.mpr ⟨mw_1392, List.forall_mem_cons.mpr ⟨mw_1394, List.forall_mem_cons.mpr ⟨mw_1396, List.forall_mem_cons.mpr ⟨mw_1398, List.forall_mem_cons.mpr ⟨mw_1400, List.forall_mem_cons.mpr ⟨mw_1402, List.forall_mem_cons.mpr ⟨mw_1404, List.forall_mem_cons.mpr ⟨mw_1406, List.forall_mem_cons.mpr ⟨mw_1408, List.forall_mem_cons.mpr ⟨mw_1410, List.forall_mem_cons.mpr ⟨mw_1412, List.forall_mem_cons.mpr ⟨mw_1414, List.forall_mem_cons.mpr ⟨mw_1416, List.forall_mem_cons.mpr ⟨mw_1418, List.forall_mem_cons.mpr ⟨mw_1420, List.forall_mem_cons.mpr ⟨mw_1422, List.forall_mem_cons.mpr ⟨mw_1424, List.forall_mem_cons.mpr ⟨mw_1426, List.forall_mem_cons.mpr ⟨mw_1428, List.forall_mem_cons.mpr ⟨mw_1430, List.forall_mem_cons.mpr ⟨mw_1432, List.forall_mem_cons.mpr ⟨mw_1434, List.forall_mem_cons.mpr ⟨mw_1436, List.forall_mem_cons.mpr ⟨mw_1438, List.forall_mem_cons.mpr ⟨mw_1440, List.forall_mem_cons.mpr ⟨mw_1442, List.forall_mem_cons.mpr ⟨mw_1444, List.forall_mem_cons.mpr ⟨mw_1446, List.forall_mem_cons.mpr ⟨mw_1448, List.forall_mem_cons.mpr ⟨mw_1450, List.forall_mem_cons.mpr ⟨mw_1452, List.forall_mem_cons.mpr ⟨mw_1454, List.forall_mem_cons.mpr ⟨mw_1456, List.forall_mem_cons.mpr ⟨mw_1458, List.forall_mem_cons.mpr ⟨mw_1460, List.forall_mem_cons.mpr ⟨mw_1462, List.forall_mem_cons.mpr ⟨mw_1464, List.forall_mem_cons.mpr ⟨mw_1466, List.forall_mem_cons.mpr ⟨mw_1468, List.forall_mem_cons.mpr ⟨mw_1470, List.forall_mem_cons.mpr ⟨mw_1472, List.forall_mem_cons.mpr ⟨mw_1474, List.forall_mem_cons.mpr ⟨mw_1476, List.forall_mem_cons.mpr ⟨mw_1478, List.forall_mem_cons.mpr ⟨mw_1480, List.forall_mem_cons.mpr ⟨mw_1482, fun _ h => absurd h List.not_mem_nil⟩⟩⟩⟩⟩⟩⟩⟩⟩⟩⟩⟩⟩⟩⟩⟩⟩⟩⟩⟩⟩⟩⟩⟩⟩⟩⟩⟩⟩⟩⟩⟩⟩⟩⟩⟩⟩⟩⟩⟩⟩⟩⟩⟩⟩⟩⟩⟩⟩⟩
section XR2
variable {p : Program} {l : Launch} {e : Env} {R : Room} {s : State} {m : MethodId} {args : Array Value} {below : List Frame} {meth : Method} {c : Code} {cc : ByteArray} {H : Heap} {locs : List Loc} {cells slots : Nat} {Q : State → Prop} {pc nL : Nat} {ls : Array Slot} {rest st : List Value} {D : va_G} {K : Nat → ClassId} {ad : Nat → Nat} {G : gT} {N : Nat} {v ar : sI} {al : sL} {own : String}
theorem x_top {x y : Int32} (h : x = y) (k : W p l e R s m args below meth c H locs cells slots Q (F0 m pc ls (.int y :: rest))) : W p l e R s m args below meth c H locs cells slots Q (F0 m pc ls (.int x :: rest)) := h ▸ k
theorem x_topl {x y : Int64} (h : x = y) (k : W p l e R s m args below meth c H locs cells slots Q (F0 m pc ls (.long y :: rest))) : W p l e R s m args below meth c H locs cells slots Q (F0 m pc ls (.long x :: rest)) := h ▸ k
theorem x_putl (hE : CallFix p m c cc nL s args tbG own) (hK : va_K D xcl (xty K) s) (hN : apart ad N) (hP : va_P D xcl (wW ad G N v ar al) H) (hS : va_S (inW ad N) s.heap H locs) (i : Nat) (hi : i < N) {ci : Nat} {fs : List Value} (hf : G i (v i) (ar i) (al i) = .inr (ci, fs)) {C : String} {T : u_T} {Nc : Nat} (hc : xcl[ci]? = some (C, T, Nc)) (hin : ∀ w ∈ u_ws C T Nc, w ∈ tbG) (ty0 : Nat → FieldType) (hty : ∀ k, k < Nc → parseFieldDescriptor (T k).2.2.1 = some (ty0 k)) (hnm : ∀ a, a < Nc → ∀ b, b < Nc → a ≠ b → (T a).2.1 ≠ (T b).2.1) (k : Nat) (hk : k < Nc) {index : Nat} (hlink : Cond.fieldLink own index (T k).1 (T k).2.1 (T k).2.2.1 ∈ tbG) (hfin : (T k).2.2.2 = false) {x : Int64} (hn : narrow (ty0 k) (.long x) = .long x) (hfit : fits (ty0 k) (.long x) = true) (hl : k < fs.length) (hg : G i (v i) (ar i) (vp_updL (al i) 0 x) = .inr (ci, fs.set k (.long x))) (hdg : decode cc pc = .ok (.putfield index, 3))
    (kk : ∀ (al' : sL) (H1 : Heap) (locs1 : List Loc), al' = va_up al i (vp_updL (al i) 0 x) → va_P D xcl (wW ad G N v ar al') H1 → va_S (inW ad N) s.heap H1 locs1 → W p l e R s m args below meth c H1 locs1 cells slots Q (F0 m (pc + 3) ls rest)) : W p l e R s m args below meth c H locs cells slots Q (F0 m pc ls (.long x :: .ref (ad i) :: rest)) := by
  refine va_put hE.1 hE.2.1 hE.2.2.2.2 hin ty0 hty hnm hE.2.2.2.1 hK hP (pw_D hN (fun i hi => ⟨i, hi, rfl⟩)) hS i (wW_at hi hf) hc k hk (hE.2.2.2.2 _ hlink) (fun _ h => h) hfin (hty k hk) hn hfit hl hdg (fun H1 locs1 h1 _ h3 => ?_)
  rw [wW_l hg] at h1
  exact kk _ H1 locs1 rfl h1 h3
end XR2
end
section
def slB (x : Int32) : Int32 := if x < 0 then 0 else if 4 ≤ x then 0 else 1
def inL (x lo hi : Int64) : Int32 := if x < lo then 0 else if hi < x then 0 else 1
theorem inL_none (x : Int64) : inL x 0 (-1) = 0 := by
  unfold inL
  by_cases h : x < 0
  · rw [if_pos h]
  · rw [if_neg h, if_pos]
    have h1 : ¬ x.toInt < 0 := fun q => h (Int64.lt_iff_toInt_lt.mpr q)
    exact Int64.lt_iff_toInt_lt.mpr (by have e : (-1 : Int64).toInt = -1 := by decide
                                        rw [e]; omega)
theorem inL_slot (x : Int32) : inL x.toInt64 0 3 = slB x := by
  unfold inL slB
  have e0 : (0 : Int64).toInt = 0 := by decide
  have e3 : (3 : Int64).toInt = 3 := by decide
  have f0 : (0 : Int32).toInt = 0 := by decide
  have f4 : (4 : Int32).toInt = 4 := by decide
  by_cases h : x < 0
  · rw [if_pos h, if_pos]
    rw [Int64.lt_iff_toInt_lt, Int32.toInt_toInt64, e0]
    rw [Int32.lt_iff_toInt_lt, f0] at h
    exact h
  · have h1 : ¬ x.toInt64 < 0 := by
      rw [Int64.lt_iff_toInt_lt, Int32.toInt_toInt64, e0]
      rw [Int32.lt_iff_toInt_lt, f0] at h
      exact h
    rw [if_neg h, if_neg h1]
    by_cases h4 : 4 ≤ x
    · have h2 : (3 : Int64) < x.toInt64 := by
        rw [Int64.lt_iff_toInt_lt, Int32.toInt_toInt64, e3]
        rw [Int32.le_iff_toInt_le, f4] at h4
        omega
      rw [if_pos h4, if_pos h2]
    · have h2 : ¬ (3 : Int64) < x.toInt64 := by
        rw [Int64.lt_iff_toInt_lt, Int32.toInt_toInt64, e3]
        rw [Int32.le_iff_toInt_le, f4] at h4
        omega
      rw [if_neg h4, if_neg h2]

theorem dX1_stands_0 : decode cX1_stands 0 = .ok (.aload_n 0, 1) := by decide +kernel
theorem dX1_stands_1 : decode cX1_stands 1 = .ok (.getfield 52, 3) := by decide +kernel
theorem dX1_stands_4 : decode cX1_stands 4 = .ok (.ifCond .le 7, 3) := by decide +kernel
theorem dX1_stands_11 : decode cX1_stands 11 = .ok (.iconst 0, 1) := by decide +kernel
theorem dX1_stands_12 : decode cX1_stands 12 = .ok (.ireturn, 1) := by decide +kernel
set_option maxHeartbeats 4000000 in
set_option maxRecDepth 100000 in
theorem k_X1_stands (l : Launch) (D : va_G) (K : Nat → ClassId) (ad : Nat → Nat) (mm : Option Nat) : Met l yX1_stands (wM yX1_stands cX1_stands 1 (some .boolean)) (rmD 0) (va_Pc [.ref (ad 3)] (wPre D K ad (xG ad K mm) 132 xv0 xa0 xl0)) (vp_Si (fun r => r = 0)) 0 0 (fun _ => False) := by
  refine x_met (by decide) (Nat.le_of_ble_eq_true rfl) ?_
  intro p e s m below meth c ls hE hr hlo hnm hB hl
  have hE : CallFix p m c cX1_stands 1 s _ tbG "TaleCourt$Court" := hE
  obtain ⟨hP, hK, hN⟩ := hB
  have hS : va_S (inW ad 132) s.heap s.heap [] := va_S.rf
  have hl : lv_has ls 1 [(0, .ref (ad 3))] := hl
  refine lv_aload_n hE.1 hE.2.1 dX1_stands_0 rfl (lv_at hl 0 rfl) ?_
  refine x_get (x := .int 0) hE hK hP 3 (by decide) (xG_1 rfl) rfl hin1 4 (by decide) mw_194 rfl dX1_stands_1 ?_
  refine lv_if_le (tgt := 11) hE.1 hE.2.1 dX1_stands_4 (by decide) (fun _ => ?_) (fun h => absurd (by decide) h)
  refine lv_iconst (v := 0) hE.1 hE.2.1 dX1_stands_11 (by decide) ?_
  exact x_ri hE hr hlo rfl rfl dX1_stands_12

theorem dX1_hasMotif_0 : decode cX1_hasMotif 0 = .ok (.iload_n 1, 1) := by decide +kernel
theorem dX1_hasMotif_1 : decode cX1_hasMotif 1 = .ok (.ifCond .lt 21, 3) := by decide +kernel
theorem dX1_hasMotif_4 : decode cX1_hasMotif 4 = .ok (.iload_n 1, 1) := by decide +kernel
theorem dX1_hasMotif_5 : decode cX1_hasMotif 5 = .ok (.aload_n 0, 1) := by decide +kernel
theorem dX1_hasMotif_6 : decode cX1_hasMotif 6 = .ok (.getfield 46, 3) := by decide +kernel
theorem dX1_hasMotif_9 : decode cX1_hasMotif 9 = .ok (.if_icmp .ge 13, 3) := by decide +kernel
theorem dX1_hasMotif_22 : decode cX1_hasMotif 22 = .ok (.iconst 0, 1) := by decide +kernel
theorem dX1_hasMotif_23 : decode cX1_hasMotif 23 = .ok (.ireturn, 1) := by decide +kernel
set_option maxHeartbeats 4000000 in
set_option maxRecDepth 100000 in
theorem k_X1_hasMotif (l : Launch) (D : va_G) (K : Nat → ClassId) (ad : Nat → Nat) (mm : Option Nat) (p1 : Int32) : Met l yX1_hasMotif (wM yX1_hasMotif cX1_hasMotif 2 (some .boolean)) (rmD 0) (va_Pc [.ref (ad 3), .int p1] (wPre D K ad (xG ad K mm) 132 xv0 xa0 xl0)) (vp_Si (fun r => r = 0)) 0 0 (fun _ => False) := by
  refine x_met (by decide) (Nat.le_of_ble_eq_true rfl) ?_
  intro p e s m below meth c ls hE hr hlo hnm hB hl
  have hE : CallFix p m c cX1_hasMotif 2 s _ tbG "TaleCourt$Court" := hE
  obtain ⟨hP, hK, hN⟩ := hB
  have hS : va_S (inW ad 132) s.heap s.heap [] := va_S.rf
  have hl : lv_has ls 2 [(0, .ref (ad 3)), (1, .int p1)] := hl
  refine lv_iload_n hE.1 hE.2.1 dX1_hasMotif_0 rfl (lv_at hl 1 rfl) ?_
  refine lv_if_lt (tgt := 22) hE.1 hE.2.1 dX1_hasMotif_1 (by decide) (fun c_1 => ?_) (fun c_1 => ?_)
  · skip
    refine lv_iconst (v := 0) hE.1 hE.2.1 dX1_hasMotif_22 (by decide) ?_
    exact x_ri hE hr hlo rfl rfl dX1_hasMotif_23
  · skip
    refine lv_iload_n hE.1 hE.2.1 dX1_hasMotif_4 rfl (lv_at hl 1 rfl) ?_
    refine lv_aload_n hE.1 hE.2.1 dX1_hasMotif_5 rfl (lv_at hl 0 rfl) ?_
    refine x_get (x := .int 0) hE hK hP 3 (by decide) (xG_1 rfl) rfl hin1 2 (by decide) mw_187 rfl dX1_hasMotif_6 ?_
    refine lv_icmp_ge (tgt := 22) hE.1 hE.2.1 dX1_hasMotif_9 (by decide) (fun _ => ?_) (fun h => absurd (k2_le c_1) h)
    refine lv_iconst (v := 0) hE.1 hE.2.1 dX1_hasMotif_22 (by decide) ?_
    exact x_ri hE hr hlo rfl rfl dX1_hasMotif_23

theorem dX1_hasTeller_0 : decode cX1_hasTeller 0 = .ok (.iload_n 1, 1) := by decide +kernel
theorem dX1_hasTeller_1 : decode cX1_hasTeller 1 = .ok (.ifCond .lt 20, 3) := by decide +kernel
theorem dX1_hasTeller_4 : decode cX1_hasTeller 4 = .ok (.iload_n 1, 1) := by decide +kernel
theorem dX1_hasTeller_5 : decode cX1_hasTeller 5 = .ok (.aload_n 0, 1) := by decide +kernel
theorem dX1_hasTeller_6 : decode cX1_hasTeller 6 = .ok (.getfield 39, 3) := by decide +kernel
theorem dX1_hasTeller_9 : decode cX1_hasTeller 9 = .ok (.if_icmp .ge 12, 3) := by decide +kernel
theorem dX1_hasTeller_21 : decode cX1_hasTeller 21 = .ok (.iconst 0, 1) := by decide +kernel
theorem dX1_hasTeller_22 : decode cX1_hasTeller 22 = .ok (.ireturn, 1) := by decide +kernel
set_option maxHeartbeats 4000000 in
set_option maxRecDepth 100000 in
theorem k_X1_hasTeller (l : Launch) (D : va_G) (K : Nat → ClassId) (ad : Nat → Nat) (mm : Option Nat) (p1 : Int32) : Met l yX1_hasTeller (wM yX1_hasTeller cX1_hasTeller 2 (some .boolean)) (rmD 0) (va_Pc [.ref (ad 3), .int p1] (wPre D K ad (xG ad K mm) 132 xv0 xa0 xl0)) (vp_Si (fun r => r = 0)) 0 0 (fun _ => False) := by
  refine x_met (by decide) (Nat.le_of_ble_eq_true rfl) ?_
  intro p e s m below meth c ls hE hr hlo hnm hB hl
  have hE : CallFix p m c cX1_hasTeller 2 s _ tbG "TaleCourt$Court" := hE
  obtain ⟨hP, hK, hN⟩ := hB
  have hS : va_S (inW ad 132) s.heap s.heap [] := va_S.rf
  have hl : lv_has ls 2 [(0, .ref (ad 3)), (1, .int p1)] := hl
  refine lv_iload_n hE.1 hE.2.1 dX1_hasTeller_0 rfl (lv_at hl 1 rfl) ?_
  refine lv_if_lt (tgt := 21) hE.1 hE.2.1 dX1_hasTeller_1 (by decide) (fun c_1 => ?_) (fun c_1 => ?_)
  · skip
    refine lv_iconst (v := 0) hE.1 hE.2.1 dX1_hasTeller_21 (by decide) ?_
    exact x_ri hE hr hlo rfl rfl dX1_hasTeller_22
  · skip
    refine lv_iload_n hE.1 hE.2.1 dX1_hasTeller_4 rfl (lv_at hl 1 rfl) ?_
    refine lv_aload_n hE.1 hE.2.1 dX1_hasTeller_5 rfl (lv_at hl 0 rfl) ?_
    refine x_get (x := .int 0) hE hK hP 3 (by decide) (xG_1 rfl) rfl hin1 0 (by decide) mw_178 rfl dX1_hasTeller_6 ?_
    refine lv_icmp_ge (tgt := 21) hE.1 hE.2.1 dX1_hasTeller_9 (by decide) (fun _ => ?_) (fun h => absurd (k2_le c_1) h)
    refine lv_iconst (v := 0) hE.1 hE.2.1 dX1_hasTeller_21 (by decide) ?_
    exact x_ri hE hr hlo rfl rfl dX1_hasTeller_22

theorem dX1_hasListener_0 : decode cX1_hasListener 0 = .ok (.iload_n 1, 1) := by decide +kernel
theorem dX1_hasListener_1 : decode cX1_hasListener 1 = .ok (.ifCond .lt 21, 3) := by decide +kernel
theorem dX1_hasListener_4 : decode cX1_hasListener 4 = .ok (.iload_n 1, 1) := by decide +kernel
theorem dX1_hasListener_5 : decode cX1_hasListener 5 = .ok (.aload_n 0, 1) := by decide +kernel
theorem dX1_hasListener_6 : decode cX1_hasListener 6 = .ok (.getfield 49, 3) := by decide +kernel
theorem dX1_hasListener_9 : decode cX1_hasListener 9 = .ok (.if_icmp .ge 13, 3) := by decide +kernel
theorem dX1_hasListener_22 : decode cX1_hasListener 22 = .ok (.iconst 0, 1) := by decide +kernel
theorem dX1_hasListener_23 : decode cX1_hasListener 23 = .ok (.ireturn, 1) := by decide +kernel
set_option maxHeartbeats 4000000 in
set_option maxRecDepth 100000 in
theorem k_X1_hasListener (l : Launch) (D : va_G) (K : Nat → ClassId) (ad : Nat → Nat) (mm : Option Nat) (p1 : Int32) : Met l yX1_hasListener (wM yX1_hasListener cX1_hasListener 2 (some .boolean)) (rmD 0) (va_Pc [.ref (ad 3), .int p1] (wPre D K ad (xG ad K mm) 132 xv0 xa0 xl0)) (vp_Si (fun r => r = 0)) 0 0 (fun _ => False) := by
  refine x_met (by decide) (Nat.le_of_ble_eq_true rfl) ?_
  intro p e s m below meth c ls hE hr hlo hnm hB hl
  have hE : CallFix p m c cX1_hasListener 2 s _ tbG "TaleCourt$Court" := hE
  obtain ⟨hP, hK, hN⟩ := hB
  have hS : va_S (inW ad 132) s.heap s.heap [] := va_S.rf
  have hl : lv_has ls 2 [(0, .ref (ad 3)), (1, .int p1)] := hl
  refine lv_iload_n hE.1 hE.2.1 dX1_hasListener_0 rfl (lv_at hl 1 rfl) ?_
  refine lv_if_lt (tgt := 22) hE.1 hE.2.1 dX1_hasListener_1 (by decide) (fun c_1 => ?_) (fun c_1 => ?_)
  · skip
    refine lv_iconst (v := 0) hE.1 hE.2.1 dX1_hasListener_22 (by decide) ?_
    exact x_ri hE hr hlo rfl rfl dX1_hasListener_23
  · skip
    refine lv_iload_n hE.1 hE.2.1 dX1_hasListener_4 rfl (lv_at hl 1 rfl) ?_
    refine lv_aload_n hE.1 hE.2.1 dX1_hasListener_5 rfl (lv_at hl 0 rfl) ?_
    refine x_get (x := .int 0) hE hK hP 3 (by decide) (xG_1 rfl) rfl hin1 3 (by decide) mw_190 rfl dX1_hasListener_6 ?_
    refine lv_icmp_ge (tgt := 22) hE.1 hE.2.1 dX1_hasListener_9 (by decide) (fun _ => ?_) (fun h => absurd (k2_le c_1) h)
    refine lv_iconst (v := 0) hE.1 hE.2.1 dX1_hasListener_22 (by decide) ?_
    exact x_ri hE hr hlo rfl rfl dX1_hasListener_23

theorem dX8_isSlot_0 : decode cX8_isSlot 0 = .ok (.iload_n 0, 1) := by decide +kernel
theorem dX8_isSlot_1 : decode cX8_isSlot 1 = .ok (.ifCond .lt 12, 3) := by decide +kernel
theorem dX8_isSlot_4 : decode cX8_isSlot 4 = .ok (.iload_n 0, 1) := by decide +kernel
theorem dX8_isSlot_5 : decode cX8_isSlot 5 = .ok (.iconst 4, 1) := by decide +kernel
theorem dX8_isSlot_6 : decode cX8_isSlot 6 = .ok (.if_icmp .ge 7, 3) := by decide +kernel
theorem dX8_isSlot_9 : decode cX8_isSlot 9 = .ok (.iconst 1, 1) := by decide +kernel
theorem dX8_isSlot_10 : decode cX8_isSlot 10 = .ok (.goto 4, 3) := by decide +kernel
theorem dX8_isSlot_13 : decode cX8_isSlot 13 = .ok (.iconst 0, 1) := by decide +kernel
theorem dX8_isSlot_14 : decode cX8_isSlot 14 = .ok (.ireturn, 1) := by decide +kernel
set_option maxHeartbeats 4000000 in
set_option maxRecDepth 100000 in
theorem k_X8_isSlot (l : Launch) (p1 : Int32) : Met l yX8_isSlot (wM yX8_isSlot cX8_isSlot 1 (some .boolean)) (rmD 0) (va_Pc [.int p1] (fun _ => True)) (vp_Si (fun r => r = slB p1)) 0 0 (fun _ => False) := by
  refine x_met (by decide) (Nat.le_of_ble_eq_true rfl) ?_
  intro p e s m below meth c ls hE hr hlo hnm hB hl
  have hE : CallFix p m c cX8_isSlot 1 s _ tbG "TaleCourt" := hE
  have hl : lv_has ls 1 [(0, .int p1)] := hl
  refine lv_iload_n hE.1 hE.2.1 dX8_isSlot_0 rfl (lv_at hl 0 rfl) ?_
  refine lv_if_lt (tgt := 13) hE.1 hE.2.1 dX8_isSlot_1 (by decide) (fun c_1 => ?_) (fun c_1 => ?_)
  · skip
    refine lv_iconst (v := 0) hE.1 hE.2.1 dX8_isSlot_13 (by decide) ?_
    exact x_ri (post := fun r => r = slB p1) hE hr hlo rfl (show _ = slB p1 from (if_pos c_1).symm) dX8_isSlot_14
  · skip
    refine lv_iload_n hE.1 hE.2.1 dX8_isSlot_4 rfl (lv_at hl 0 rfl) ?_
    refine lv_iconst (v := 4) hE.1 hE.2.1 dX8_isSlot_5 (by decide) ?_
    refine lv_icmp_ge (tgt := 13) hE.1 hE.2.1 dX8_isSlot_6 (by decide) (fun c_2 => ?_) (fun c_2 => ?_)
    · skip
      refine lv_iconst (v := 0) hE.1 hE.2.1 dX8_isSlot_13 (by decide) ?_
      exact x_ri (post := fun r => r = slB p1) hE hr hlo rfl (show _ = slB p1 from ((if_neg c_1).trans (if_pos c_2)).symm) dX8_isSlot_14
    · skip
      refine lv_iconst (v := 1) hE.1 hE.2.1 dX8_isSlot_9 (by decide) ?_
      refine lv_goto (tgt := 14) hE.1 hE.2.1 dX8_isSlot_10 (by decide) ?_
      exact x_ri (post := fun r => r = slB p1) hE hr hlo rfl (show _ = slB p1 from ((if_neg c_1).trans (if_neg c_2)).symm) dX8_isSlot_14

theorem dX8_gameBar_0 : decode cX8_gameBar 0 = .ok (.aload_n 0, 1) := by decide +kernel
theorem dX8_gameBar_1 : decode cX8_gameBar 1 = .ok (.getfield 19, 3) := by decide +kernel
theorem dX8_gameBar_4 : decode cX8_gameBar 4 = .ok (.invokevirtual 157, 3) := by decide +kernel
theorem dX8_gameBar_7 : decode cX8_gameBar 7 = .ok (.ifCond .ne 6, 3) := by decide +kernel
theorem dX8_gameBar_10 : decode cX8_gameBar 10 = .ok (.bipush (-2), 2) := by decide +kernel
theorem dX8_gameBar_12 : decode cX8_gameBar 12 = .ok (.ireturn, 1) := by decide +kernel
set_option maxHeartbeats 4000000 in
set_option maxRecDepth 100000 in
theorem k_X8_gameBar (l : Launch) (D : va_G) (K : Nat → ClassId) (ad : Nat → Nat) (mm : Option Nat) : Met l yX8_gameBar (wM yX8_gameBar cX8_gameBar 1 (some .int)) (rmD 1) (va_Pc [.ref (ad 0)] (wPre D K ad (xG ad K mm) 132 xv0 xa0 xl0)) (vp_Si (fun r => r = (-2))) 0 0 (fun _ => False) := by
  refine x_met (by decide) (Nat.le_of_ble_eq_true rfl) ?_
  intro p e s m below meth c ls hE hr hlo hnm hB hl
  have hE : CallFix p m c cX8_gameBar 1 s _ tbG "TaleCourt" := hE
  obtain ⟨hP, hK, hN⟩ := hB
  have hS : va_S (inW ad 132) s.heap s.heap [] := va_S.rf
  have hl : lv_has ls 1 [(0, .ref (ad 0))] := hl
  refine lv_aload_n hE.1 hE.2.1 dX8_gameBar_0 rfl (lv_at hl 0 rfl) ?_
  refine x_get (x := .ref (ad 3)) hE hK hP 0 (by decide) (xG_8 rfl) rfl hin8 1 (by decide) mw_481 rfl dX8_gameBar_1 ?_
  refine x_vp (nn := 0) (As := []) (rest := []) hE (k_X1_stands l D K ad mm ) wPre_blind (wPre_now hK hN hP) (x_recv hK hP 3 (by decide) (xG_1 rfl) rfl) rfl mw_788 mw_789 mw_790 mw_116 mw_791 (by decide +kernel) ⟨by decide, by decide⟩ hl.1 rfl (by decide) ⟨Nat.zero_le _, Nat.zero_le _⟩ dX8_gameBar_4 (fun r hr => ?_)
  subst hr
  refine lv_if_ne (tgt := 13) hE.1 hE.2.1 dX8_gameBar_7 (by decide) (fun h => absurd (by decide) h) (fun _ => ?_)
  refine lv_bipush (v := (-2)) hE.1 hE.2.1 dX8_gameBar_10 (by decide) ?_
  exact x_ri hE hr hlo rfl rfl dX8_gameBar_12

theorem dX8_mayDraw_0 : decode cX8_mayDraw 0 = .ok (.aload_n 0, 1) := by decide +kernel
theorem dX8_mayDraw_1 : decode cX8_mayDraw 1 = .ok (.getfield 19, 3) := by decide +kernel
theorem dX8_mayDraw_4 : decode cX8_mayDraw 4 = .ok (.invokevirtual 157, 3) := by decide +kernel
theorem dX8_mayDraw_7 : decode cX8_mayDraw 7 = .ok (.ifCond .eq 18, 3) := by decide +kernel
theorem dX8_mayDraw_25 : decode cX8_mayDraw 25 = .ok (.iconst 0, 1) := by decide +kernel
theorem dX8_mayDraw_26 : decode cX8_mayDraw 26 = .ok (.ireturn, 1) := by decide +kernel
set_option maxHeartbeats 4000000 in
set_option maxRecDepth 100000 in
theorem k_X8_mayDraw (l : Launch) (D : va_G) (K : Nat → ClassId) (ad : Nat → Nat) (mm : Option Nat) (p1 : Int32) : Met l yX8_mayDraw (wM yX8_mayDraw cX8_mayDraw 2 (some .boolean)) (rmD 1) (va_Pc [.ref (ad 0), .int p1] (wPre D K ad (xG ad K mm) 132 xv0 xa0 xl0)) (vp_Si (fun r => r = 0)) 0 0 (fun _ => False) := by
  refine x_met (by decide) (Nat.le_of_ble_eq_true rfl) ?_
  intro p e s m below meth c ls hE hr hlo hnm hB hl
  have hE : CallFix p m c cX8_mayDraw 2 s _ tbG "TaleCourt" := hE
  obtain ⟨hP, hK, hN⟩ := hB
  have hS : va_S (inW ad 132) s.heap s.heap [] := va_S.rf
  have hl : lv_has ls 2 [(0, .ref (ad 0)), (1, .int p1)] := hl
  refine lv_aload_n hE.1 hE.2.1 dX8_mayDraw_0 rfl (lv_at hl 0 rfl) ?_
  refine x_get (x := .ref (ad 3)) hE hK hP 0 (by decide) (xG_8 rfl) rfl hin8 1 (by decide) mw_481 rfl dX8_mayDraw_1 ?_
  refine x_vp (nn := 0) (As := []) (rest := []) hE (k_X1_stands l D K ad mm ) wPre_blind (wPre_now hK hN hP) (x_recv hK hP 3 (by decide) (xG_1 rfl) rfl) rfl mw_788 mw_789 mw_790 mw_116 mw_791 (by decide +kernel) ⟨by decide, by decide⟩ hl.1 rfl (by decide) ⟨Nat.zero_le _, Nat.zero_le _⟩ dX8_mayDraw_4 (fun r hr => ?_)
  subst hr
  refine lv_if_eq (tgt := 25) hE.1 hE.2.1 dX8_mayDraw_7 (by decide) (fun _ => ?_) (fun h => absurd (by decide) h)
  refine lv_iconst (v := 0) hE.1 hE.2.1 dX8_mayDraw_25 (by decide) ?_
  exact x_ri hE hr hlo rfl rfl dX8_mayDraw_26

theorem dX8_slotBar_0 : decode cX8_slotBar 0 = .ok (.iload_n 1, 1) := by decide +kernel
theorem dX8_slotBar_1 : decode cX8_slotBar 1 = .ok (.invokestatic 260, 3) := by decide +kernel
theorem dX8_slotBar_4 : decode cX8_slotBar 4 = .ok (.ifCond .eq 13, 3) := by decide +kernel
theorem dX8_slotBar_7 : decode cX8_slotBar 7 = .ok (.aload_n 0, 1) := by decide +kernel
theorem dX8_slotBar_8 : decode cX8_slotBar 8 = .ok (.getfield 19, 3) := by decide +kernel
theorem dX8_slotBar_11 : decode cX8_slotBar 11 = .ok (.invokevirtual 157, 3) := by decide +kernel
theorem dX8_slotBar_14 : decode cX8_slotBar 14 = .ok (.ifCond .ne 6, 3) := by decide +kernel
theorem dX8_slotBar_17 : decode cX8_slotBar 17 = .ok (.bipush (-2), 2) := by decide +kernel
theorem dX8_slotBar_19 : decode cX8_slotBar 19 = .ok (.ireturn, 1) := by decide +kernel
set_option maxHeartbeats 4000000 in
set_option maxRecDepth 100000 in
theorem k_X8_slotBar (l : Launch) (D : va_G) (K : Nat → ClassId) (ad : Nat → Nat) (mm : Option Nat) (p1 : Int32) : Met l yX8_slotBar (wM yX8_slotBar cX8_slotBar 2 (some .int)) (rmD 1) (va_Pc [.ref (ad 0), .int p1] (wPre D K ad (xG ad K mm) 132 xv0 xa0 xl0)) (vp_Si (fun r => r = (-2))) 0 0 (fun _ => False) := by
  refine x_met (by decide) (Nat.le_of_ble_eq_true rfl) ?_
  intro p e s m below meth c ls hE hr hlo hnm hB hl
  have hE : CallFix p m c cX8_slotBar 2 s _ tbG "TaleCourt" := hE
  obtain ⟨hP, hK, hN⟩ := hB
  have hS : va_S (inW ad 132) s.heap s.heap [] := va_S.rf
  have hl : lv_has ls 2 [(0, .ref (ad 0)), (1, .int p1)] := hl
  refine lv_iload_n hE.1 hE.2.1 dX8_slotBar_0 rfl (lv_at hl 1 rfl) ?_
  refine x_sp (nn := 1) (As := [.int p1]) (rest := []) hE (k_X8_isSlot l p1) tt_blind (fun _ _ _ => trivial) rfl mw_1134 mw_1135 mw_114 mw_1136 (by decide +kernel) ⟨by decide, by decide⟩ hl.1 rfl (by decide) ⟨Nat.zero_le _, Nat.zero_le _⟩ dX8_slotBar_1 (fun r hr => ?_)
  subst hr
  refine lv_if_eq (tgt := 17) hE.1 hE.2.1 dX8_slotBar_4 (by decide) (fun c_1 => ?_) (fun c_1 => ?_)
  · skip
    refine lv_bipush (v := (-2)) hE.1 hE.2.1 dX8_slotBar_17 (by decide) ?_
    exact x_ri hE hr hlo rfl rfl dX8_slotBar_19
  · skip
    refine lv_aload_n hE.1 hE.2.1 dX8_slotBar_7 rfl (lv_at hl 0 rfl) ?_
    refine x_get (x := .ref (ad 3)) hE hK hP 0 (by decide) (xG_8 rfl) rfl hin8 1 (by decide) mw_481 rfl dX8_slotBar_8 ?_
    refine x_vp (nn := 0) (As := []) (rest := []) hE (k_X1_stands l D K ad mm ) wPre_blind (wPre_now hK hN hP) (x_recv hK hP 3 (by decide) (xG_1 rfl) rfl) rfl mw_788 mw_789 mw_790 mw_116 mw_791 (by decide +kernel) ⟨by decide, by decide⟩ hl.1 rfl (by decide) ⟨Nat.zero_le _, Nat.zero_le _⟩ dX8_slotBar_11 (fun r hr => ?_)
    subst hr
    refine lv_if_ne (tgt := 20) hE.1 hE.2.1 dX8_slotBar_14 (by decide) (fun h => absurd (by decide) h) (fun _ => ?_)
    refine lv_bipush (v := (-2)) hE.1 hE.2.1 dX8_slotBar_17 (by decide) ?_
    exact x_ri hE hr hlo rfl rfl dX8_slotBar_19

theorem dX8_claimsBar_0 : decode cX8_claimsBar 0 = .ok (.aload_n 0, 1) := by decide +kernel
theorem dX8_claimsBar_1 : decode cX8_claimsBar 1 = .ok (.iload_n 1, 1) := by decide +kernel
theorem dX8_claimsBar_2 : decode cX8_claimsBar 2 = .ok (.invokevirtual 264, 3) := by decide +kernel
theorem dX8_claimsBar_5 : decode cX8_claimsBar 5 = .ok (.istore_n 3, 1) := by decide +kernel
theorem dX8_claimsBar_6 : decode cX8_claimsBar 6 = .ok (.iload_n 3, 1) := by decide +kernel
theorem dX8_claimsBar_7 : decode cX8_claimsBar 7 = .ok (.ifCond .eq 5, 3) := by decide +kernel
theorem dX8_claimsBar_10 : decode cX8_claimsBar 10 = .ok (.iload_n 3, 1) := by decide +kernel
theorem dX8_claimsBar_11 : decode cX8_claimsBar 11 = .ok (.ireturn, 1) := by decide +kernel
set_option maxHeartbeats 4000000 in
set_option maxRecDepth 100000 in
theorem k_X8_claimsBar (l : Launch) (D : va_G) (K : Nat → ClassId) (ad : Nat → Nat) (mm : Option Nat) (p1 : Int32) (p2 : Int32) : Met l yX8_claimsBar (wM yX8_claimsBar cX8_claimsBar 4 (some .int)) (rmD 2) (va_Pc [.ref (ad 0), .int p1, .int p2] (wPre D K ad (xG ad K mm) 132 xv0 xa0 xl0)) (vp_Si (fun r => r = (-2))) 0 0 (fun _ => False) := by
  refine x_met (by decide) (Nat.le_of_ble_eq_true rfl) ?_
  intro p e s m below meth c ls hE hr hlo hnm hB hl
  have hE : CallFix p m c cX8_claimsBar 4 s _ tbG "TaleCourt" := hE
  obtain ⟨hP, hK, hN⟩ := hB
  have hS : va_S (inW ad 132) s.heap s.heap [] := va_S.rf
  have hl : lv_has ls 4 [(0, .ref (ad 0)), (1, .int p1), (2, .int p2)] := hl
  refine lv_aload_n hE.1 hE.2.1 dX8_claimsBar_0 rfl (lv_at hl 0 rfl) ?_
  refine lv_iload_n hE.1 hE.2.1 dX8_claimsBar_1 rfl (lv_at hl 1 rfl) ?_
  refine x_vp (nn := 1) (As := [.int p1]) (rest := []) hE (k_X8_slotBar l D K ad mm p1) wPre_blind (wPre_now hK hN hP) (x_recv hK hP 0 (by decide) (xG_8 rfl) rfl) rfl mw_1130 mw_1132 mw_36 mw_114 mw_1133 (by decide +kernel) ⟨by decide, by decide⟩ hl.1 rfl (by decide) ⟨Nat.zero_le _, Nat.zero_le _⟩ dX8_claimsBar_2 (fun r hr => ?_)
  subst hr
  refine lv_istore_n (lv' := [(3, .int (-2)), (0, .ref (ad 0)), (1, .int p1), (2, .int p2)]) hE.1 hE.2.1 dX8_claimsBar_5 rfl hl (by decide) rfl (fun ls hl => ?_)
  refine lv_iload_n hE.1 hE.2.1 dX8_claimsBar_6 rfl (lv_at hl 0 rfl) ?_
  refine lv_if_eq (tgt := 12) hE.1 hE.2.1 dX8_claimsBar_7 (by decide) (fun h => absurd h (by decide)) (fun _ => ?_)
  refine lv_iload_n hE.1 hE.2.1 dX8_claimsBar_10 rfl (lv_at hl 0 rfl) ?_
  exact x_ri hE hr hlo rfl rfl dX8_claimsBar_11
end
section
theorem dX8_motif_0 : decode cX8_motif 0 = .ok (.aload_n 0, 1) := by decide +kernel
theorem dX8_motif_1 : decode cX8_motif 1 = .ok (.getfield 19, 3) := by decide +kernel
theorem dX8_motif_4 : decode cX8_motif 4 = .ok (.iload_n 1, 1) := by decide +kernel
theorem dX8_motif_5 : decode cX8_motif 5 = .ok (.invokevirtual 102, 3) := by decide +kernel
theorem dX8_motif_8 : decode cX8_motif 8 = .ok (.ifCond .ne 6, 3) := by decide +kernel
theorem dX8_motif_11 : decode cX8_motif 11 = .ok (.bipush (-2), 2) := by decide +kernel
theorem dX8_motif_13 : decode cX8_motif 13 = .ok (.ireturn, 1) := by decide +kernel
set_option maxHeartbeats 4000000 in
set_option maxRecDepth 100000 in
theorem k_X8_motif (l : Launch) (D : va_G) (K : Nat → ClassId) (ad : Nat → Nat) (mm : Option Nat) (p1 : Int32) (p2 : Int32) : Met l yX8_motif (wM yX8_motif cX8_motif 3 (some .int)) (rmD 1) (va_Pc [.ref (ad 0), .int p1, .int p2] (wPre D K ad (xG ad K mm) 132 xv0 xa0 xl0)) (vp_Si (fun r => r = (-2))) 0 0 (fun _ => False) := by
  refine x_met (by decide) (Nat.le_of_ble_eq_true rfl) ?_
  intro p e s m below meth c ls hE hr hlo hnm hB hl
  have hE : CallFix p m c cX8_motif 3 s _ tbG "TaleCourt" := hE
  obtain ⟨hP, hK, hN⟩ := hB
  have hS : va_S (inW ad 132) s.heap s.heap [] := va_S.rf
  have hl : lv_has ls 3 [(0, .ref (ad 0)), (1, .int p1), (2, .int p2)] := hl
  refine lv_aload_n hE.1 hE.2.1 dX8_motif_0 rfl (lv_at hl 0 rfl) ?_
  refine x_get (x := .ref (ad 3)) hE hK hP 0 (by decide) (xG_8 rfl) rfl hin8 1 (by decide) mw_481 rfl dX8_motif_1 ?_
  refine lv_iload_n hE.1 hE.2.1 dX8_motif_4 rfl (lv_at hl 1 rfl) ?_
  refine x_vp (nn := 1) (As := [.int p1]) (rest := []) hE (k_X1_hasMotif l D K ad mm p1) wPre_blind (wPre_now hK hN hP) (x_recv hK hP 3 (by decide) (xG_1 rfl) rfl) rfl mw_694 mw_695 mw_696 mw_116 mw_697 (by decide +kernel) ⟨by decide, by decide⟩ hl.1 rfl (by decide) ⟨Nat.zero_le _, Nat.zero_le _⟩ dX8_motif_5 (fun r hr => ?_)
  subst hr
  refine lv_if_ne (tgt := 14) hE.1 hE.2.1 dX8_motif_8 (by decide) (fun h => absurd (by decide) h) (fun _ => ?_)
  refine lv_bipush (v := (-2)) hE.1 hE.2.1 dX8_motif_11 (by decide) ?_
  exact x_ri hE hr hlo rfl rfl dX8_motif_13

theorem dX8_joins_0 : decode cX8_joins 0 = .ok (.aload_n 0, 1) := by decide +kernel
theorem dX8_joins_1 : decode cX8_joins 1 = .ok (.getfield 19, 3) := by decide +kernel
theorem dX8_joins_4 : decode cX8_joins 4 = .ok (.iload_n 1, 1) := by decide +kernel
theorem dX8_joins_5 : decode cX8_joins 5 = .ok (.invokevirtual 102, 3) := by decide +kernel
theorem dX8_joins_8 : decode cX8_joins 8 = .ok (.ifCond .eq 14, 3) := by decide +kernel
theorem dX8_joins_22 : decode cX8_joins 22 = .ok (.bipush (-2), 2) := by decide +kernel
theorem dX8_joins_24 : decode cX8_joins 24 = .ok (.ireturn, 1) := by decide +kernel
set_option maxHeartbeats 4000000 in
set_option maxRecDepth 100000 in
theorem k_X8_joins (l : Launch) (D : va_G) (K : Nat → ClassId) (ad : Nat → Nat) (mm : Option Nat) (p1 : Int32) (p2 : Int32) : Met l yX8_joins (wM yX8_joins cX8_joins 3 (some .int)) (rmD 1) (va_Pc [.ref (ad 0), .int p1, .int p2] (wPre D K ad (xG ad K mm) 132 xv0 xa0 xl0)) (vp_Si (fun r => r = (-2))) 0 0 (fun _ => False) := by
  refine x_met (by decide) (Nat.le_of_ble_eq_true rfl) ?_
  intro p e s m below meth c ls hE hr hlo hnm hB hl
  have hE : CallFix p m c cX8_joins 3 s _ tbG "TaleCourt" := hE
  obtain ⟨hP, hK, hN⟩ := hB
  have hS : va_S (inW ad 132) s.heap s.heap [] := va_S.rf
  have hl : lv_has ls 3 [(0, .ref (ad 0)), (1, .int p1), (2, .int p2)] := hl
  refine lv_aload_n hE.1 hE.2.1 dX8_joins_0 rfl (lv_at hl 0 rfl) ?_
  refine x_get (x := .ref (ad 3)) hE hK hP 0 (by decide) (xG_8 rfl) rfl hin8 1 (by decide) mw_481 rfl dX8_joins_1 ?_
  refine lv_iload_n hE.1 hE.2.1 dX8_joins_4 rfl (lv_at hl 1 rfl) ?_
  refine x_vp (nn := 1) (As := [.int p1]) (rest := []) hE (k_X1_hasMotif l D K ad mm p1) wPre_blind (wPre_now hK hN hP) (x_recv hK hP 3 (by decide) (xG_1 rfl) rfl) rfl mw_694 mw_695 mw_696 mw_116 mw_697 (by decide +kernel) ⟨by decide, by decide⟩ hl.1 rfl (by decide) ⟨Nat.zero_le _, Nat.zero_le _⟩ dX8_joins_5 (fun r hr => ?_)
  subst hr
  refine lv_if_eq (tgt := 22) hE.1 hE.2.1 dX8_joins_8 (by decide) (fun _ => ?_) (fun h => absurd (by decide) h)
  refine lv_bipush (v := (-2)) hE.1 hE.2.1 dX8_joins_22 (by decide) ?_
  exact x_ri hE hr hlo rfl rfl dX8_joins_24

theorem dX8_clash_0 : decode cX8_clash 0 = .ok (.aload_n 0, 1) := by decide +kernel
theorem dX8_clash_1 : decode cX8_clash 1 = .ok (.getfield 19, 3) := by decide +kernel
theorem dX8_clash_4 : decode cX8_clash 4 = .ok (.iload_n 1, 1) := by decide +kernel
theorem dX8_clash_5 : decode cX8_clash 5 = .ok (.invokevirtual 102, 3) := by decide +kernel
theorem dX8_clash_8 : decode cX8_clash 8 = .ok (.ifCond .eq 14, 3) := by decide +kernel
theorem dX8_clash_22 : decode cX8_clash 22 = .ok (.bipush (-2), 2) := by decide +kernel
theorem dX8_clash_24 : decode cX8_clash 24 = .ok (.ireturn, 1) := by decide +kernel
set_option maxHeartbeats 4000000 in
set_option maxRecDepth 100000 in
theorem k_X8_clash (l : Launch) (D : va_G) (K : Nat → ClassId) (ad : Nat → Nat) (mm : Option Nat) (p1 : Int32) (p2 : Int32) : Met l yX8_clash (wM yX8_clash cX8_clash 3 (some .int)) (rmD 1) (va_Pc [.ref (ad 0), .int p1, .int p2] (wPre D K ad (xG ad K mm) 132 xv0 xa0 xl0)) (vp_Si (fun r => r = (-2))) 0 0 (fun _ => False) := by
  refine x_met (by decide) (Nat.le_of_ble_eq_true rfl) ?_
  intro p e s m below meth c ls hE hr hlo hnm hB hl
  have hE : CallFix p m c cX8_clash 3 s _ tbG "TaleCourt" := hE
  obtain ⟨hP, hK, hN⟩ := hB
  have hS : va_S (inW ad 132) s.heap s.heap [] := va_S.rf
  have hl : lv_has ls 3 [(0, .ref (ad 0)), (1, .int p1), (2, .int p2)] := hl
  refine lv_aload_n hE.1 hE.2.1 dX8_clash_0 rfl (lv_at hl 0 rfl) ?_
  refine x_get (x := .ref (ad 3)) hE hK hP 0 (by decide) (xG_8 rfl) rfl hin8 1 (by decide) mw_481 rfl dX8_clash_1 ?_
  refine lv_iload_n hE.1 hE.2.1 dX8_clash_4 rfl (lv_at hl 1 rfl) ?_
  refine x_vp (nn := 1) (As := [.int p1]) (rest := []) hE (k_X1_hasMotif l D K ad mm p1) wPre_blind (wPre_now hK hN hP) (x_recv hK hP 3 (by decide) (xG_1 rfl) rfl) rfl mw_694 mw_695 mw_696 mw_116 mw_697 (by decide +kernel) ⟨by decide, by decide⟩ hl.1 rfl (by decide) ⟨Nat.zero_le _, Nat.zero_le _⟩ dX8_clash_5 (fun r hr => ?_)
  subst hr
  refine lv_if_eq (tgt := 22) hE.1 hE.2.1 dX8_clash_8 (by decide) (fun _ => ?_) (fun h => absurd (by decide) h)
  refine lv_bipush (v := (-2)) hE.1 hE.2.1 dX8_clash_22 (by decide) ?_
  exact x_ri hE hr hlo rfl rfl dX8_clash_24

theorem dX8_behind_0 : decode cX8_behind 0 = .ok (.aload_n 0, 1) := by decide +kernel
theorem dX8_behind_1 : decode cX8_behind 1 = .ok (.getfield 19, 3) := by decide +kernel
theorem dX8_behind_4 : decode cX8_behind 4 = .ok (.iload_n 1, 1) := by decide +kernel
theorem dX8_behind_5 : decode cX8_behind 5 = .ok (.invokevirtual 102, 3) := by decide +kernel
theorem dX8_behind_8 : decode cX8_behind 8 = .ok (.ifCond .eq 15, 3) := by decide +kernel
theorem dX8_behind_23 : decode cX8_behind 23 = .ok (.bipush (-2), 2) := by decide +kernel
theorem dX8_behind_25 : decode cX8_behind 25 = .ok (.ireturn, 1) := by decide +kernel
set_option maxHeartbeats 4000000 in
set_option maxRecDepth 100000 in
theorem k_X8_behind (l : Launch) (D : va_G) (K : Nat → ClassId) (ad : Nat → Nat) (mm : Option Nat) (p1 : Int32) : Met l yX8_behind (wM yX8_behind cX8_behind 2 (some .int)) (rmD 1) (va_Pc [.ref (ad 0), .int p1] (wPre D K ad (xG ad K mm) 132 xv0 xa0 xl0)) (vp_Si (fun r => r = (-2))) 0 0 (fun _ => False) := by
  refine x_met (by decide) (Nat.le_of_ble_eq_true rfl) ?_
  intro p e s m below meth c ls hE hr hlo hnm hB hl
  have hE : CallFix p m c cX8_behind 2 s _ tbG "TaleCourt" := hE
  obtain ⟨hP, hK, hN⟩ := hB
  have hS : va_S (inW ad 132) s.heap s.heap [] := va_S.rf
  have hl : lv_has ls 2 [(0, .ref (ad 0)), (1, .int p1)] := hl
  refine lv_aload_n hE.1 hE.2.1 dX8_behind_0 rfl (lv_at hl 0 rfl) ?_
  refine x_get (x := .ref (ad 3)) hE hK hP 0 (by decide) (xG_8 rfl) rfl hin8 1 (by decide) mw_481 rfl dX8_behind_1 ?_
  refine lv_iload_n hE.1 hE.2.1 dX8_behind_4 rfl (lv_at hl 1 rfl) ?_
  refine x_vp (nn := 1) (As := [.int p1]) (rest := []) hE (k_X1_hasMotif l D K ad mm p1) wPre_blind (wPre_now hK hN hP) (x_recv hK hP 3 (by decide) (xG_1 rfl) rfl) rfl mw_694 mw_695 mw_696 mw_116 mw_697 (by decide +kernel) ⟨by decide, by decide⟩ hl.1 rfl (by decide) ⟨Nat.zero_le _, Nat.zero_le _⟩ dX8_behind_5 (fun r hr => ?_)
  subst hr
  refine lv_if_eq (tgt := 23) hE.1 hE.2.1 dX8_behind_8 (by decide) (fun _ => ?_) (fun h => absurd (by decide) h)
  refine lv_bipush (v := (-2)) hE.1 hE.2.1 dX8_behind_23 (by decide) ?_
  exact x_ri hE hr hlo rfl rfl dX8_behind_25

theorem dX8_ahead_0 : decode cX8_ahead 0 = .ok (.aload_n 0, 1) := by decide +kernel
theorem dX8_ahead_1 : decode cX8_ahead 1 = .ok (.getfield 19, 3) := by decide +kernel
theorem dX8_ahead_4 : decode cX8_ahead 4 = .ok (.iload_n 1, 1) := by decide +kernel
theorem dX8_ahead_5 : decode cX8_ahead 5 = .ok (.invokevirtual 102, 3) := by decide +kernel
theorem dX8_ahead_8 : decode cX8_ahead 8 = .ok (.ifCond .eq 14, 3) := by decide +kernel
theorem dX8_ahead_22 : decode cX8_ahead 22 = .ok (.bipush (-2), 2) := by decide +kernel
theorem dX8_ahead_24 : decode cX8_ahead 24 = .ok (.ireturn, 1) := by decide +kernel
set_option maxHeartbeats 4000000 in
set_option maxRecDepth 100000 in
theorem k_X8_ahead (l : Launch) (D : va_G) (K : Nat → ClassId) (ad : Nat → Nat) (mm : Option Nat) (p1 : Int32) : Met l yX8_ahead (wM yX8_ahead cX8_ahead 2 (some .int)) (rmD 1) (va_Pc [.ref (ad 0), .int p1] (wPre D K ad (xG ad K mm) 132 xv0 xa0 xl0)) (vp_Si (fun r => r = (-2))) 0 0 (fun _ => False) := by
  refine x_met (by decide) (Nat.le_of_ble_eq_true rfl) ?_
  intro p e s m below meth c ls hE hr hlo hnm hB hl
  have hE : CallFix p m c cX8_ahead 2 s _ tbG "TaleCourt" := hE
  obtain ⟨hP, hK, hN⟩ := hB
  have hS : va_S (inW ad 132) s.heap s.heap [] := va_S.rf
  have hl : lv_has ls 2 [(0, .ref (ad 0)), (1, .int p1)] := hl
  refine lv_aload_n hE.1 hE.2.1 dX8_ahead_0 rfl (lv_at hl 0 rfl) ?_
  refine x_get (x := .ref (ad 3)) hE hK hP 0 (by decide) (xG_8 rfl) rfl hin8 1 (by decide) mw_481 rfl dX8_ahead_1 ?_
  refine lv_iload_n hE.1 hE.2.1 dX8_ahead_4 rfl (lv_at hl 1 rfl) ?_
  refine x_vp (nn := 1) (As := [.int p1]) (rest := []) hE (k_X1_hasMotif l D K ad mm p1) wPre_blind (wPre_now hK hN hP) (x_recv hK hP 3 (by decide) (xG_1 rfl) rfl) rfl mw_694 mw_695 mw_696 mw_116 mw_697 (by decide +kernel) ⟨by decide, by decide⟩ hl.1 rfl (by decide) ⟨Nat.zero_le _, Nat.zero_le _⟩ dX8_ahead_5 (fun r hr => ?_)
  subst hr
  refine lv_if_eq (tgt := 22) hE.1 hE.2.1 dX8_ahead_8 (by decide) (fun _ => ?_) (fun h => absurd (by decide) h)
  refine lv_bipush (v := (-2)) hE.1 hE.2.1 dX8_ahead_22 (by decide) ?_
  exact x_ri hE hr hlo rfl rfl dX8_ahead_24

theorem dX8_comes_0 : decode cX8_comes 0 = .ok (.aload_n 0, 1) := by decide +kernel
theorem dX8_comes_1 : decode cX8_comes 1 = .ok (.getfield 19, 3) := by decide +kernel
theorem dX8_comes_4 : decode cX8_comes 4 = .ok (.iload_n 1, 1) := by decide +kernel
theorem dX8_comes_5 : decode cX8_comes 5 = .ok (.invokevirtual 102, 3) := by decide +kernel
theorem dX8_comes_8 : decode cX8_comes 8 = .ok (.ifCond .eq 14, 3) := by decide +kernel
theorem dX8_comes_22 : decode cX8_comes 22 = .ok (.bipush (-2), 2) := by decide +kernel
theorem dX8_comes_24 : decode cX8_comes 24 = .ok (.ireturn, 1) := by decide +kernel
set_option maxHeartbeats 4000000 in
set_option maxRecDepth 100000 in
theorem k_X8_comes (l : Launch) (D : va_G) (K : Nat → ClassId) (ad : Nat → Nat) (mm : Option Nat) (p1 : Int32) : Met l yX8_comes (wM yX8_comes cX8_comes 2 (some .int)) (rmD 1) (va_Pc [.ref (ad 0), .int p1] (wPre D K ad (xG ad K mm) 132 xv0 xa0 xl0)) (vp_Si (fun r => r = (-2))) 0 0 (fun _ => False) := by
  refine x_met (by decide) (Nat.le_of_ble_eq_true rfl) ?_
  intro p e s m below meth c ls hE hr hlo hnm hB hl
  have hE : CallFix p m c cX8_comes 2 s _ tbG "TaleCourt" := hE
  obtain ⟨hP, hK, hN⟩ := hB
  have hS : va_S (inW ad 132) s.heap s.heap [] := va_S.rf
  have hl : lv_has ls 2 [(0, .ref (ad 0)), (1, .int p1)] := hl
  refine lv_aload_n hE.1 hE.2.1 dX8_comes_0 rfl (lv_at hl 0 rfl) ?_
  refine x_get (x := .ref (ad 3)) hE hK hP 0 (by decide) (xG_8 rfl) rfl hin8 1 (by decide) mw_481 rfl dX8_comes_1 ?_
  refine lv_iload_n hE.1 hE.2.1 dX8_comes_4 rfl (lv_at hl 1 rfl) ?_
  refine x_vp (nn := 1) (As := [.int p1]) (rest := []) hE (k_X1_hasMotif l D K ad mm p1) wPre_blind (wPre_now hK hN hP) (x_recv hK hP 3 (by decide) (xG_1 rfl) rfl) rfl mw_694 mw_695 mw_696 mw_116 mw_697 (by decide +kernel) ⟨by decide, by decide⟩ hl.1 rfl (by decide) ⟨Nat.zero_le _, Nat.zero_le _⟩ dX8_comes_5 (fun r hr => ?_)
  subst hr
  refine lv_if_eq (tgt := 22) hE.1 hE.2.1 dX8_comes_8 (by decide) (fun _ => ?_) (fun h => absurd (by decide) h)
  refine lv_bipush (v := (-2)) hE.1 hE.2.1 dX8_comes_22 (by decide) ?_
  exact x_ri hE hr hlo rfl rfl dX8_comes_24

theorem dX8_chain_0 : decode cX8_chain 0 = .ok (.aload_n 0, 1) := by decide +kernel
theorem dX8_chain_1 : decode cX8_chain 1 = .ok (.getfield 19, 3) := by decide +kernel
theorem dX8_chain_4 : decode cX8_chain 4 = .ok (.iload_n 1, 1) := by decide +kernel
theorem dX8_chain_5 : decode cX8_chain 5 = .ok (.invokevirtual 102, 3) := by decide +kernel
theorem dX8_chain_8 : decode cX8_chain 8 = .ok (.ifCond .eq 14, 3) := by decide +kernel
theorem dX8_chain_22 : decode cX8_chain 22 = .ok (.bipush (-2), 2) := by decide +kernel
theorem dX8_chain_24 : decode cX8_chain 24 = .ok (.ireturn, 1) := by decide +kernel
set_option maxHeartbeats 4000000 in
set_option maxRecDepth 100000 in
theorem k_X8_chain (l : Launch) (D : va_G) (K : Nat → ClassId) (ad : Nat → Nat) (mm : Option Nat) (p1 : Int32) (p2 : Int32) : Met l yX8_chain (wM yX8_chain cX8_chain 3 (some .int)) (rmD 1) (va_Pc [.ref (ad 0), .int p1, .int p2] (wPre D K ad (xG ad K mm) 132 xv0 xa0 xl0)) (vp_Si (fun r => r = (-2))) 0 0 (fun _ => False) := by
  refine x_met (by decide) (Nat.le_of_ble_eq_true rfl) ?_
  intro p e s m below meth c ls hE hr hlo hnm hB hl
  have hE : CallFix p m c cX8_chain 3 s _ tbG "TaleCourt" := hE
  obtain ⟨hP, hK, hN⟩ := hB
  have hS : va_S (inW ad 132) s.heap s.heap [] := va_S.rf
  have hl : lv_has ls 3 [(0, .ref (ad 0)), (1, .int p1), (2, .int p2)] := hl
  refine lv_aload_n hE.1 hE.2.1 dX8_chain_0 rfl (lv_at hl 0 rfl) ?_
  refine x_get (x := .ref (ad 3)) hE hK hP 0 (by decide) (xG_8 rfl) rfl hin8 1 (by decide) mw_481 rfl dX8_chain_1 ?_
  refine lv_iload_n hE.1 hE.2.1 dX8_chain_4 rfl (lv_at hl 1 rfl) ?_
  refine x_vp (nn := 1) (As := [.int p1]) (rest := []) hE (k_X1_hasMotif l D K ad mm p1) wPre_blind (wPre_now hK hN hP) (x_recv hK hP 3 (by decide) (xG_1 rfl) rfl) rfl mw_694 mw_695 mw_696 mw_116 mw_697 (by decide +kernel) ⟨by decide, by decide⟩ hl.1 rfl (by decide) ⟨Nat.zero_le _, Nat.zero_le _⟩ dX8_chain_5 (fun r hr => ?_)
  subst hr
  refine lv_if_eq (tgt := 22) hE.1 hE.2.1 dX8_chain_8 (by decide) (fun _ => ?_) (fun h => absurd (by decide) h)
  refine lv_bipush (v := (-2)) hE.1 hE.2.1 dX8_chain_22 (by decide) ?_
  exact x_ri hE hr hlo rfl rfl dX8_chain_24

theorem dX8_say_0 : decode cX8_say 0 = .ok (.aload_n 0, 1) := by decide +kernel
theorem dX8_say_1 : decode cX8_say 1 = .ok (.getfield 19, 3) := by decide +kernel
theorem dX8_say_4 : decode cX8_say 4 = .ok (.iload_n 1, 1) := by decide +kernel
theorem dX8_say_5 : decode cX8_say 5 = .ok (.invokevirtual 102, 3) := by decide +kernel
theorem dX8_say_8 : decode cX8_say 8 = .ok (.ifCond .ne 6, 3) := by decide +kernel
theorem dX8_say_11 : decode cX8_say 11 = .ok (.bipush (-2), 2) := by decide +kernel
theorem dX8_say_13 : decode cX8_say 13 = .ok (.ireturn, 1) := by decide +kernel
set_option maxHeartbeats 4000000 in
set_option maxRecDepth 100000 in
theorem k_X8_say (l : Launch) (D : va_G) (K : Nat → ClassId) (ad : Nat → Nat) (mm : Option Nat) (p1 : Int32) : Met l yX8_say (wM yX8_say cX8_say 2 (some .int)) (rmD 1) (va_Pc [.ref (ad 0), .int p1] (wPre D K ad (xG ad K mm) 132 xv0 xa0 xl0)) (vp_Si (fun r => r = (-2))) 0 0 (fun _ => False) := by
  refine x_met (by decide) (Nat.le_of_ble_eq_true rfl) ?_
  intro p e s m below meth c ls hE hr hlo hnm hB hl
  have hE : CallFix p m c cX8_say 2 s _ tbG "TaleCourt" := hE
  obtain ⟨hP, hK, hN⟩ := hB
  have hS : va_S (inW ad 132) s.heap s.heap [] := va_S.rf
  have hl : lv_has ls 2 [(0, .ref (ad 0)), (1, .int p1)] := hl
  refine lv_aload_n hE.1 hE.2.1 dX8_say_0 rfl (lv_at hl 0 rfl) ?_
  refine x_get (x := .ref (ad 3)) hE hK hP 0 (by decide) (xG_8 rfl) rfl hin8 1 (by decide) mw_481 rfl dX8_say_1 ?_
  refine lv_iload_n hE.1 hE.2.1 dX8_say_4 rfl (lv_at hl 1 rfl) ?_
  refine x_vp (nn := 1) (As := [.int p1]) (rest := []) hE (k_X1_hasMotif l D K ad mm p1) wPre_blind (wPre_now hK hN hP) (x_recv hK hP 3 (by decide) (xG_1 rfl) rfl) rfl mw_694 mw_695 mw_696 mw_116 mw_697 (by decide +kernel) ⟨by decide, by decide⟩ hl.1 rfl (by decide) ⟨Nat.zero_le _, Nat.zero_le _⟩ dX8_say_5 (fun r hr => ?_)
  subst hr
  refine lv_if_ne (tgt := 14) hE.1 hE.2.1 dX8_say_8 (by decide) (fun h => absurd (by decide) h) (fun _ => ?_)
  refine lv_bipush (v := (-2)) hE.1 hE.2.1 dX8_say_11 (by decide) ?_
  exact x_ri hE hr hlo rfl rfl dX8_say_13

theorem dX8_hush_0 : decode cX8_hush 0 = .ok (.aload_n 0, 1) := by decide +kernel
theorem dX8_hush_1 : decode cX8_hush 1 = .ok (.getfield 19, 3) := by decide +kernel
theorem dX8_hush_4 : decode cX8_hush 4 = .ok (.invokevirtual 157, 3) := by decide +kernel
theorem dX8_hush_7 : decode cX8_hush 7 = .ok (.ifCond .ne 6, 3) := by decide +kernel
theorem dX8_hush_10 : decode cX8_hush 10 = .ok (.bipush (-2), 2) := by decide +kernel
theorem dX8_hush_12 : decode cX8_hush 12 = .ok (.ireturn, 1) := by decide +kernel
set_option maxHeartbeats 4000000 in
set_option maxRecDepth 100000 in
theorem k_X8_hush (l : Launch) (D : va_G) (K : Nat → ClassId) (ad : Nat → Nat) (mm : Option Nat) : Met l yX8_hush (wM yX8_hush cX8_hush 1 (some .int)) (rmD 1) (va_Pc [.ref (ad 0)] (wPre D K ad (xG ad K mm) 132 xv0 xa0 xl0)) (vp_Si (fun r => r = (-2))) 0 0 (fun _ => False) := by
  refine x_met (by decide) (Nat.le_of_ble_eq_true rfl) ?_
  intro p e s m below meth c ls hE hr hlo hnm hB hl
  have hE : CallFix p m c cX8_hush 1 s _ tbG "TaleCourt" := hE
  obtain ⟨hP, hK, hN⟩ := hB
  have hS : va_S (inW ad 132) s.heap s.heap [] := va_S.rf
  have hl : lv_has ls 1 [(0, .ref (ad 0))] := hl
  refine lv_aload_n hE.1 hE.2.1 dX8_hush_0 rfl (lv_at hl 0 rfl) ?_
  refine x_get (x := .ref (ad 3)) hE hK hP 0 (by decide) (xG_8 rfl) rfl hin8 1 (by decide) mw_481 rfl dX8_hush_1 ?_
  refine x_vp (nn := 0) (As := []) (rest := []) hE (k_X1_stands l D K ad mm ) wPre_blind (wPre_now hK hN hP) (x_recv hK hP 3 (by decide) (xG_1 rfl) rfl) rfl mw_788 mw_789 mw_790 mw_116 mw_791 (by decide +kernel) ⟨by decide, by decide⟩ hl.1 rfl (by decide) ⟨Nat.zero_le _, Nat.zero_le _⟩ dX8_hush_4 (fun r hr => ?_)
  subst hr
  refine lv_if_ne (tgt := 13) hE.1 hE.2.1 dX8_hush_7 (by decide) (fun h => absurd (by decide) h) (fun _ => ?_)
  refine lv_bipush (v := (-2)) hE.1 hE.2.1 dX8_hush_10 (by decide) ?_
  exact x_ri hE hr hlo rfl rfl dX8_hush_12

theorem dX8_unsay_0 : decode cX8_unsay 0 = .ok (.aload_n 0, 1) := by decide +kernel
theorem dX8_unsay_1 : decode cX8_unsay 1 = .ok (.getfield 19, 3) := by decide +kernel
theorem dX8_unsay_4 : decode cX8_unsay 4 = .ok (.invokevirtual 157, 3) := by decide +kernel
theorem dX8_unsay_7 : decode cX8_unsay 7 = .ok (.ifCond .ne 6, 3) := by decide +kernel
theorem dX8_unsay_10 : decode cX8_unsay 10 = .ok (.bipush (-2), 2) := by decide +kernel
theorem dX8_unsay_12 : decode cX8_unsay 12 = .ok (.ireturn, 1) := by decide +kernel
set_option maxHeartbeats 4000000 in
set_option maxRecDepth 100000 in
theorem k_X8_unsay (l : Launch) (D : va_G) (K : Nat → ClassId) (ad : Nat → Nat) (mm : Option Nat) : Met l yX8_unsay (wM yX8_unsay cX8_unsay 1 (some .int)) (rmD 1) (va_Pc [.ref (ad 0)] (wPre D K ad (xG ad K mm) 132 xv0 xa0 xl0)) (vp_Si (fun r => r = (-2))) 0 0 (fun _ => False) := by
  refine x_met (by decide) (Nat.le_of_ble_eq_true rfl) ?_
  intro p e s m below meth c ls hE hr hlo hnm hB hl
  have hE : CallFix p m c cX8_unsay 1 s _ tbG "TaleCourt" := hE
  obtain ⟨hP, hK, hN⟩ := hB
  have hS : va_S (inW ad 132) s.heap s.heap [] := va_S.rf
  have hl : lv_has ls 1 [(0, .ref (ad 0))] := hl
  refine lv_aload_n hE.1 hE.2.1 dX8_unsay_0 rfl (lv_at hl 0 rfl) ?_
  refine x_get (x := .ref (ad 3)) hE hK hP 0 (by decide) (xG_8 rfl) rfl hin8 1 (by decide) mw_481 rfl dX8_unsay_1 ?_
  refine x_vp (nn := 0) (As := []) (rest := []) hE (k_X1_stands l D K ad mm ) wPre_blind (wPre_now hK hN hP) (x_recv hK hP 3 (by decide) (xG_1 rfl) rfl) rfl mw_788 mw_789 mw_790 mw_116 mw_791 (by decide +kernel) ⟨by decide, by decide⟩ hl.1 rfl (by decide) ⟨Nat.zero_le _, Nat.zero_le _⟩ dX8_unsay_4 (fun r hr => ?_)
  subst hr
  refine lv_if_ne (tgt := 13) hE.1 hE.2.1 dX8_unsay_7 (by decide) (fun h => absurd (by decide) h) (fun _ => ?_)
  refine lv_bipush (v := (-2)) hE.1 hE.2.1 dX8_unsay_10 (by decide) ?_
  exact x_ri hE hr hlo rfl rfl dX8_unsay_12

theorem dX8_anew_0 : decode cX8_anew 0 = .ok (.aload_n 0, 1) := by decide +kernel
theorem dX8_anew_1 : decode cX8_anew 1 = .ok (.getfield 19, 3) := by decide +kernel
theorem dX8_anew_4 : decode cX8_anew 4 = .ok (.invokevirtual 157, 3) := by decide +kernel
theorem dX8_anew_7 : decode cX8_anew 7 = .ok (.ifCond .ne 6, 3) := by decide +kernel
theorem dX8_anew_10 : decode cX8_anew 10 = .ok (.bipush (-2), 2) := by decide +kernel
theorem dX8_anew_12 : decode cX8_anew 12 = .ok (.ireturn, 1) := by decide +kernel
set_option maxHeartbeats 4000000 in
set_option maxRecDepth 100000 in
theorem k_X8_anew (l : Launch) (D : va_G) (K : Nat → ClassId) (ad : Nat → Nat) (mm : Option Nat) : Met l yX8_anew (wM yX8_anew cX8_anew 2 (some .int)) (rmD 1) (va_Pc [.ref (ad 0)] (wPre D K ad (xG ad K mm) 132 xv0 xa0 xl0)) (vp_Si (fun r => r = (-2))) 0 0 (fun _ => False) := by
  refine x_met (by decide) (Nat.le_of_ble_eq_true rfl) ?_
  intro p e s m below meth c ls hE hr hlo hnm hB hl
  have hE : CallFix p m c cX8_anew 2 s _ tbG "TaleCourt" := hE
  obtain ⟨hP, hK, hN⟩ := hB
  have hS : va_S (inW ad 132) s.heap s.heap [] := va_S.rf
  have hl : lv_has ls 2 [(0, .ref (ad 0))] := hl
  refine lv_aload_n hE.1 hE.2.1 dX8_anew_0 rfl (lv_at hl 0 rfl) ?_
  refine x_get (x := .ref (ad 3)) hE hK hP 0 (by decide) (xG_8 rfl) rfl hin8 1 (by decide) mw_481 rfl dX8_anew_1 ?_
  refine x_vp (nn := 0) (As := []) (rest := []) hE (k_X1_stands l D K ad mm ) wPre_blind (wPre_now hK hN hP) (x_recv hK hP 3 (by decide) (xG_1 rfl) rfl) rfl mw_788 mw_789 mw_790 mw_116 mw_791 (by decide +kernel) ⟨by decide, by decide⟩ hl.1 rfl (by decide) ⟨Nat.zero_le _, Nat.zero_le _⟩ dX8_anew_4 (fun r hr => ?_)
  subst hr
  refine lv_if_ne (tgt := 13) hE.1 hE.2.1 dX8_anew_7 (by decide) (fun h => absurd (by decide) h) (fun _ => ?_)
  refine lv_bipush (v := (-2)) hE.1 hE.2.1 dX8_anew_10 (by decide) ?_
  exact x_ri hE hr hlo rfl rfl dX8_anew_12

theorem dX8_told_0 : decode cX8_told 0 = .ok (.aload_n 0, 1) := by decide +kernel
theorem dX8_told_1 : decode cX8_told 1 = .ok (.getfield 19, 3) := by decide +kernel
theorem dX8_told_4 : decode cX8_told 4 = .ok (.invokevirtual 157, 3) := by decide +kernel
theorem dX8_told_7 : decode cX8_told 7 = .ok (.ifCond .ne 6, 3) := by decide +kernel
theorem dX8_told_10 : decode cX8_told 10 = .ok (.bipush (-2), 2) := by decide +kernel
theorem dX8_told_12 : decode cX8_told 12 = .ok (.ireturn, 1) := by decide +kernel
set_option maxHeartbeats 4000000 in
set_option maxRecDepth 100000 in
theorem k_X8_told (l : Launch) (D : va_G) (K : Nat → ClassId) (ad : Nat → Nat) (mm : Option Nat) (p1 : Int32) : Met l yX8_told (wM yX8_told cX8_told 2 (some .int)) (rmD 1) (va_Pc [.ref (ad 0), .int p1] (wPre D K ad (xG ad K mm) 132 xv0 xa0 xl0)) (vp_Si (fun r => r = (-2))) 0 0 (fun _ => False) := by
  refine x_met (by decide) (Nat.le_of_ble_eq_true rfl) ?_
  intro p e s m below meth c ls hE hr hlo hnm hB hl
  have hE : CallFix p m c cX8_told 2 s _ tbG "TaleCourt" := hE
  obtain ⟨hP, hK, hN⟩ := hB
  have hS : va_S (inW ad 132) s.heap s.heap [] := va_S.rf
  have hl : lv_has ls 2 [(0, .ref (ad 0)), (1, .int p1)] := hl
  refine lv_aload_n hE.1 hE.2.1 dX8_told_0 rfl (lv_at hl 0 rfl) ?_
  refine x_get (x := .ref (ad 3)) hE hK hP 0 (by decide) (xG_8 rfl) rfl hin8 1 (by decide) mw_481 rfl dX8_told_1 ?_
  refine x_vp (nn := 0) (As := []) (rest := []) hE (k_X1_stands l D K ad mm ) wPre_blind (wPre_now hK hN hP) (x_recv hK hP 3 (by decide) (xG_1 rfl) rfl) rfl mw_788 mw_789 mw_790 mw_116 mw_791 (by decide +kernel) ⟨by decide, by decide⟩ hl.1 rfl (by decide) ⟨Nat.zero_le _, Nat.zero_le _⟩ dX8_told_4 (fun r hr => ?_)
  subst hr
  refine lv_if_ne (tgt := 13) hE.1 hE.2.1 dX8_told_7 (by decide) (fun h => absurd (by decide) h) (fun _ => ?_)
  refine lv_bipush (v := (-2)) hE.1 hE.2.1 dX8_told_10 (by decide) ?_
  exact x_ri hE hr hlo rfl rfl dX8_told_12

theorem dX8_length_0 : decode cX8_length 0 = .ok (.aload_n 0, 1) := by decide +kernel
theorem dX8_length_1 : decode cX8_length 1 = .ok (.getfield 19, 3) := by decide +kernel
theorem dX8_length_4 : decode cX8_length 4 = .ok (.invokevirtual 157, 3) := by decide +kernel
theorem dX8_length_7 : decode cX8_length 7 = .ok (.ifCond .eq 13, 3) := by decide +kernel
theorem dX8_length_20 : decode cX8_length 20 = .ok (.bipush (-2), 2) := by decide +kernel
theorem dX8_length_22 : decode cX8_length 22 = .ok (.ireturn, 1) := by decide +kernel
set_option maxHeartbeats 4000000 in
set_option maxRecDepth 100000 in
theorem k_X8_length (l : Launch) (D : va_G) (K : Nat → ClassId) (ad : Nat → Nat) (mm : Option Nat) : Met l yX8_length (wM yX8_length cX8_length 1 (some .int)) (rmD 1) (va_Pc [.ref (ad 0)] (wPre D K ad (xG ad K mm) 132 xv0 xa0 xl0)) (vp_Si (fun r => r = (-2))) 0 0 (fun _ => False) := by
  refine x_met (by decide) (Nat.le_of_ble_eq_true rfl) ?_
  intro p e s m below meth c ls hE hr hlo hnm hB hl
  have hE : CallFix p m c cX8_length 1 s _ tbG "TaleCourt" := hE
  obtain ⟨hP, hK, hN⟩ := hB
  have hS : va_S (inW ad 132) s.heap s.heap [] := va_S.rf
  have hl : lv_has ls 1 [(0, .ref (ad 0))] := hl
  refine lv_aload_n hE.1 hE.2.1 dX8_length_0 rfl (lv_at hl 0 rfl) ?_
  refine x_get (x := .ref (ad 3)) hE hK hP 0 (by decide) (xG_8 rfl) rfl hin8 1 (by decide) mw_481 rfl dX8_length_1 ?_
  refine x_vp (nn := 0) (As := []) (rest := []) hE (k_X1_stands l D K ad mm ) wPre_blind (wPre_now hK hN hP) (x_recv hK hP 3 (by decide) (xG_1 rfl) rfl) rfl mw_788 mw_789 mw_790 mw_116 mw_791 (by decide +kernel) ⟨by decide, by decide⟩ hl.1 rfl (by decide) ⟨Nat.zero_le _, Nat.zero_le _⟩ dX8_length_4 (fun r hr => ?_)
  subst hr
  refine lv_if_eq (tgt := 20) hE.1 hE.2.1 dX8_length_7 (by decide) (fun _ => ?_) (fun h => absurd (by decide) h)
  refine lv_bipush (v := (-2)) hE.1 hE.2.1 dX8_length_20 (by decide) ?_
  exact x_ri hE hr hlo rfl rfl dX8_length_22

theorem dX8_whose_0 : decode cX8_whose 0 = .ok (.aload_n 0, 1) := by decide +kernel
theorem dX8_whose_1 : decode cX8_whose 1 = .ok (.getfield 19, 3) := by decide +kernel
theorem dX8_whose_4 : decode cX8_whose 4 = .ok (.invokevirtual 157, 3) := by decide +kernel
theorem dX8_whose_7 : decode cX8_whose 7 = .ok (.ifCond .eq 13, 3) := by decide +kernel
theorem dX8_whose_20 : decode cX8_whose 20 = .ok (.bipush (-2), 2) := by decide +kernel
theorem dX8_whose_22 : decode cX8_whose 22 = .ok (.ireturn, 1) := by decide +kernel
set_option maxHeartbeats 4000000 in
set_option maxRecDepth 100000 in
theorem k_X8_whose (l : Launch) (D : va_G) (K : Nat → ClassId) (ad : Nat → Nat) (mm : Option Nat) : Met l yX8_whose (wM yX8_whose cX8_whose 1 (some .int)) (rmD 1) (va_Pc [.ref (ad 0)] (wPre D K ad (xG ad K mm) 132 xv0 xa0 xl0)) (vp_Si (fun r => r = (-2))) 0 0 (fun _ => False) := by
  refine x_met (by decide) (Nat.le_of_ble_eq_true rfl) ?_
  intro p e s m below meth c ls hE hr hlo hnm hB hl
  have hE : CallFix p m c cX8_whose 1 s _ tbG "TaleCourt" := hE
  obtain ⟨hP, hK, hN⟩ := hB
  have hS : va_S (inW ad 132) s.heap s.heap [] := va_S.rf
  have hl : lv_has ls 1 [(0, .ref (ad 0))] := hl
  refine lv_aload_n hE.1 hE.2.1 dX8_whose_0 rfl (lv_at hl 0 rfl) ?_
  refine x_get (x := .ref (ad 3)) hE hK hP 0 (by decide) (xG_8 rfl) rfl hin8 1 (by decide) mw_481 rfl dX8_whose_1 ?_
  refine x_vp (nn := 0) (As := []) (rest := []) hE (k_X1_stands l D K ad mm ) wPre_blind (wPre_now hK hN hP) (x_recv hK hP 3 (by decide) (xG_1 rfl) rfl) rfl mw_788 mw_789 mw_790 mw_116 mw_791 (by decide +kernel) ⟨by decide, by decide⟩ hl.1 rfl (by decide) ⟨Nat.zero_le _, Nat.zero_le _⟩ dX8_whose_4 (fun r hr => ?_)
  subst hr
  refine lv_if_eq (tgt := 20) hE.1 hE.2.1 dX8_whose_7 (by decide) (fun _ => ?_) (fun h => absurd (by decide) h)
  refine lv_bipush (v := (-2)) hE.1 hE.2.1 dX8_whose_20 (by decide) ?_
  exact x_ri hE hr hlo rfl rfl dX8_whose_22

theorem dX8_may_0 : decode cX8_may 0 = .ok (.aload_n 0, 1) := by decide +kernel
theorem dX8_may_1 : decode cX8_may 1 = .ok (.getfield 19, 3) := by decide +kernel
theorem dX8_may_4 : decode cX8_may 4 = .ok (.invokevirtual 157, 3) := by decide +kernel
theorem dX8_may_7 : decode cX8_may 7 = .ok (.ifCond .eq 13, 3) := by decide +kernel
theorem dX8_may_20 : decode cX8_may 20 = .ok (.bipush (-2), 2) := by decide +kernel
theorem dX8_may_22 : decode cX8_may 22 = .ok (.ireturn, 1) := by decide +kernel
set_option maxHeartbeats 4000000 in
set_option maxRecDepth 100000 in
theorem k_X8_may (l : Launch) (D : va_G) (K : Nat → ClassId) (ad : Nat → Nat) (mm : Option Nat) : Met l yX8_may (wM yX8_may cX8_may 1 (some .int)) (rmD 1) (va_Pc [.ref (ad 0)] (wPre D K ad (xG ad K mm) 132 xv0 xa0 xl0)) (vp_Si (fun r => r = (-2))) 0 0 (fun _ => False) := by
  refine x_met (by decide) (Nat.le_of_ble_eq_true rfl) ?_
  intro p e s m below meth c ls hE hr hlo hnm hB hl
  have hE : CallFix p m c cX8_may 1 s _ tbG "TaleCourt" := hE
  obtain ⟨hP, hK, hN⟩ := hB
  have hS : va_S (inW ad 132) s.heap s.heap [] := va_S.rf
  have hl : lv_has ls 1 [(0, .ref (ad 0))] := hl
  refine lv_aload_n hE.1 hE.2.1 dX8_may_0 rfl (lv_at hl 0 rfl) ?_
  refine x_get (x := .ref (ad 3)) hE hK hP 0 (by decide) (xG_8 rfl) rfl hin8 1 (by decide) mw_481 rfl dX8_may_1 ?_
  refine x_vp (nn := 0) (As := []) (rest := []) hE (k_X1_stands l D K ad mm ) wPre_blind (wPre_now hK hN hP) (x_recv hK hP 3 (by decide) (xG_1 rfl) rfl) rfl mw_788 mw_789 mw_790 mw_116 mw_791 (by decide +kernel) ⟨by decide, by decide⟩ hl.1 rfl (by decide) ⟨Nat.zero_le _, Nat.zero_le _⟩ dX8_may_4 (fun r hr => ?_)
  subst hr
  refine lv_if_eq (tgt := 20) hE.1 hE.2.1 dX8_may_7 (by decide) (fun _ => ?_) (fun h => absurd (by decide) h)
  refine lv_bipush (v := (-2)) hE.1 hE.2.1 dX8_may_20 (by decide) ?_
  exact x_ri hE hr hlo rfl rfl dX8_may_22

theorem dX8_why_0 : decode cX8_why 0 = .ok (.aload_n 0, 1) := by decide +kernel
theorem dX8_why_1 : decode cX8_why 1 = .ok (.getfield 19, 3) := by decide +kernel
theorem dX8_why_4 : decode cX8_why 4 = .ok (.iload_n 1, 1) := by decide +kernel
theorem dX8_why_5 : decode cX8_why 5 = .ok (.invokevirtual 102, 3) := by decide +kernel
theorem dX8_why_8 : decode cX8_why 8 = .ok (.ifCond .eq 14, 3) := by decide +kernel
theorem dX8_why_22 : decode cX8_why 22 = .ok (.bipush (-2), 2) := by decide +kernel
theorem dX8_why_24 : decode cX8_why 24 = .ok (.ireturn, 1) := by decide +kernel
set_option maxHeartbeats 4000000 in
set_option maxRecDepth 100000 in
theorem k_X8_why (l : Launch) (D : va_G) (K : Nat → ClassId) (ad : Nat → Nat) (mm : Option Nat) (p1 : Int32) : Met l yX8_why (wM yX8_why cX8_why 2 (some .int)) (rmD 1) (va_Pc [.ref (ad 0), .int p1] (wPre D K ad (xG ad K mm) 132 xv0 xa0 xl0)) (vp_Si (fun r => r = (-2))) 0 0 (fun _ => False) := by
  refine x_met (by decide) (Nat.le_of_ble_eq_true rfl) ?_
  intro p e s m below meth c ls hE hr hlo hnm hB hl
  have hE : CallFix p m c cX8_why 2 s _ tbG "TaleCourt" := hE
  obtain ⟨hP, hK, hN⟩ := hB
  have hS : va_S (inW ad 132) s.heap s.heap [] := va_S.rf
  have hl : lv_has ls 2 [(0, .ref (ad 0)), (1, .int p1)] := hl
  refine lv_aload_n hE.1 hE.2.1 dX8_why_0 rfl (lv_at hl 0 rfl) ?_
  refine x_get (x := .ref (ad 3)) hE hK hP 0 (by decide) (xG_8 rfl) rfl hin8 1 (by decide) mw_481 rfl dX8_why_1 ?_
  refine lv_iload_n hE.1 hE.2.1 dX8_why_4 rfl (lv_at hl 1 rfl) ?_
  refine x_vp (nn := 1) (As := [.int p1]) (rest := []) hE (k_X1_hasMotif l D K ad mm p1) wPre_blind (wPre_now hK hN hP) (x_recv hK hP 3 (by decide) (xG_1 rfl) rfl) rfl mw_694 mw_695 mw_696 mw_116 mw_697 (by decide +kernel) ⟨by decide, by decide⟩ hl.1 rfl (by decide) ⟨Nat.zero_le _, Nat.zero_le _⟩ dX8_why_5 (fun r hr => ?_)
  subst hr
  refine lv_if_eq (tgt := 22) hE.1 hE.2.1 dX8_why_8 (by decide) (fun _ => ?_) (fun h => absurd (by decide) h)
  refine lv_bipush (v := (-2)) hE.1 hE.2.1 dX8_why_22 (by decide) ?_
  exact x_ri hE hr hlo rfl rfl dX8_why_24

theorem dX8_owed_0 : decode cX8_owed 0 = .ok (.aload_n 0, 1) := by decide +kernel
theorem dX8_owed_1 : decode cX8_owed 1 = .ok (.getfield 19, 3) := by decide +kernel
theorem dX8_owed_4 : decode cX8_owed 4 = .ok (.invokevirtual 157, 3) := by decide +kernel
theorem dX8_owed_7 : decode cX8_owed 7 = .ok (.ifCond .eq 13, 3) := by decide +kernel
theorem dX8_owed_20 : decode cX8_owed 20 = .ok (.bipush (-2), 2) := by decide +kernel
theorem dX8_owed_22 : decode cX8_owed 22 = .ok (.ireturn, 1) := by decide +kernel
set_option maxHeartbeats 4000000 in
set_option maxRecDepth 100000 in
theorem k_X8_owed (l : Launch) (D : va_G) (K : Nat → ClassId) (ad : Nat → Nat) (mm : Option Nat) : Met l yX8_owed (wM yX8_owed cX8_owed 1 (some .int)) (rmD 1) (va_Pc [.ref (ad 0)] (wPre D K ad (xG ad K mm) 132 xv0 xa0 xl0)) (vp_Si (fun r => r = (-2))) 0 0 (fun _ => False) := by
  refine x_met (by decide) (Nat.le_of_ble_eq_true rfl) ?_
  intro p e s m below meth c ls hE hr hlo hnm hB hl
  have hE : CallFix p m c cX8_owed 1 s _ tbG "TaleCourt" := hE
  obtain ⟨hP, hK, hN⟩ := hB
  have hS : va_S (inW ad 132) s.heap s.heap [] := va_S.rf
  have hl : lv_has ls 1 [(0, .ref (ad 0))] := hl
  refine lv_aload_n hE.1 hE.2.1 dX8_owed_0 rfl (lv_at hl 0 rfl) ?_
  refine x_get (x := .ref (ad 3)) hE hK hP 0 (by decide) (xG_8 rfl) rfl hin8 1 (by decide) mw_481 rfl dX8_owed_1 ?_
  refine x_vp (nn := 0) (As := []) (rest := []) hE (k_X1_stands l D K ad mm ) wPre_blind (wPre_now hK hN hP) (x_recv hK hP 3 (by decide) (xG_1 rfl) rfl) rfl mw_788 mw_789 mw_790 mw_116 mw_791 (by decide +kernel) ⟨by decide, by decide⟩ hl.1 rfl (by decide) ⟨Nat.zero_le _, Nat.zero_le _⟩ dX8_owed_4 (fun r hr => ?_)
  subst hr
  refine lv_if_eq (tgt := 20) hE.1 hE.2.1 dX8_owed_7 (by decide) (fun _ => ?_) (fun h => absurd (by decide) h)
  refine lv_bipush (v := (-2)) hE.1 hE.2.1 dX8_owed_20 (by decide) ?_
  exact x_ri hE hr hlo rfl rfl dX8_owed_22

theorem dX8_due_0 : decode cX8_due 0 = .ok (.aload_n 0, 1) := by decide +kernel
theorem dX8_due_1 : decode cX8_due 1 = .ok (.getfield 19, 3) := by decide +kernel
theorem dX8_due_4 : decode cX8_due 4 = .ok (.iload_n 1, 1) := by decide +kernel
theorem dX8_due_5 : decode cX8_due 5 = .ok (.invokevirtual 102, 3) := by decide +kernel
theorem dX8_due_8 : decode cX8_due 8 = .ok (.ifCond .ne 6, 3) := by decide +kernel
theorem dX8_due_11 : decode cX8_due 11 = .ok (.bipush (-2), 2) := by decide +kernel
theorem dX8_due_13 : decode cX8_due 13 = .ok (.ireturn, 1) := by decide +kernel
set_option maxHeartbeats 4000000 in
set_option maxRecDepth 100000 in
theorem k_X8_due (l : Launch) (D : va_G) (K : Nat → ClassId) (ad : Nat → Nat) (mm : Option Nat) (p1 : Int32) : Met l yX8_due (wM yX8_due cX8_due 2 (some .int)) (rmD 1) (va_Pc [.ref (ad 0), .int p1] (wPre D K ad (xG ad K mm) 132 xv0 xa0 xl0)) (vp_Si (fun r => r = (-2))) 0 0 (fun _ => False) := by
  refine x_met (by decide) (Nat.le_of_ble_eq_true rfl) ?_
  intro p e s m below meth c ls hE hr hlo hnm hB hl
  have hE : CallFix p m c cX8_due 2 s _ tbG "TaleCourt" := hE
  obtain ⟨hP, hK, hN⟩ := hB
  have hS : va_S (inW ad 132) s.heap s.heap [] := va_S.rf
  have hl : lv_has ls 2 [(0, .ref (ad 0)), (1, .int p1)] := hl
  refine lv_aload_n hE.1 hE.2.1 dX8_due_0 rfl (lv_at hl 0 rfl) ?_
  refine x_get (x := .ref (ad 3)) hE hK hP 0 (by decide) (xG_8 rfl) rfl hin8 1 (by decide) mw_481 rfl dX8_due_1 ?_
  refine lv_iload_n hE.1 hE.2.1 dX8_due_4 rfl (lv_at hl 1 rfl) ?_
  refine x_vp (nn := 1) (As := [.int p1]) (rest := []) hE (k_X1_hasMotif l D K ad mm p1) wPre_blind (wPre_now hK hN hP) (x_recv hK hP 3 (by decide) (xG_1 rfl) rfl) rfl mw_694 mw_695 mw_696 mw_116 mw_697 (by decide +kernel) ⟨by decide, by decide⟩ hl.1 rfl (by decide) ⟨Nat.zero_le _, Nat.zero_le _⟩ dX8_due_5 (fun r hr => ?_)
  subst hr
  refine lv_if_ne (tgt := 14) hE.1 hE.2.1 dX8_due_8 (by decide) (fun h => absurd (by decide) h) (fun _ => ?_)
  refine lv_bipush (v := (-2)) hE.1 hE.2.1 dX8_due_11 (by decide) ?_
  exact x_ri hE hr hlo rfl rfl dX8_due_13

theorem dX8_whole_0 : decode cX8_whole 0 = .ok (.aload_n 0, 1) := by decide +kernel
theorem dX8_whole_1 : decode cX8_whole 1 = .ok (.getfield 19, 3) := by decide +kernel
theorem dX8_whole_4 : decode cX8_whole 4 = .ok (.invokevirtual 157, 3) := by decide +kernel
theorem dX8_whole_7 : decode cX8_whole 7 = .ok (.ifCond .ne 6, 3) := by decide +kernel
theorem dX8_whole_10 : decode cX8_whole 10 = .ok (.bipush (-2), 2) := by decide +kernel
theorem dX8_whole_12 : decode cX8_whole 12 = .ok (.ireturn, 1) := by decide +kernel
set_option maxHeartbeats 4000000 in
set_option maxRecDepth 100000 in
theorem k_X8_whole (l : Launch) (D : va_G) (K : Nat → ClassId) (ad : Nat → Nat) (mm : Option Nat) : Met l yX8_whole (wM yX8_whole cX8_whole 1 (some .int)) (rmD 1) (va_Pc [.ref (ad 0)] (wPre D K ad (xG ad K mm) 132 xv0 xa0 xl0)) (vp_Si (fun r => r = (-2))) 0 0 (fun _ => False) := by
  refine x_met (by decide) (Nat.le_of_ble_eq_true rfl) ?_
  intro p e s m below meth c ls hE hr hlo hnm hB hl
  have hE : CallFix p m c cX8_whole 1 s _ tbG "TaleCourt" := hE
  obtain ⟨hP, hK, hN⟩ := hB
  have hS : va_S (inW ad 132) s.heap s.heap [] := va_S.rf
  have hl : lv_has ls 1 [(0, .ref (ad 0))] := hl
  refine lv_aload_n hE.1 hE.2.1 dX8_whole_0 rfl (lv_at hl 0 rfl) ?_
  refine x_get (x := .ref (ad 3)) hE hK hP 0 (by decide) (xG_8 rfl) rfl hin8 1 (by decide) mw_481 rfl dX8_whole_1 ?_
  refine x_vp (nn := 0) (As := []) (rest := []) hE (k_X1_stands l D K ad mm ) wPre_blind (wPre_now hK hN hP) (x_recv hK hP 3 (by decide) (xG_1 rfl) rfl) rfl mw_788 mw_789 mw_790 mw_116 mw_791 (by decide +kernel) ⟨by decide, by decide⟩ hl.1 rfl (by decide) ⟨Nat.zero_le _, Nat.zero_le _⟩ dX8_whole_4 (fun r hr => ?_)
  subst hr
  refine lv_if_ne (tgt := 13) hE.1 hE.2.1 dX8_whole_7 (by decide) (fun h => absurd (by decide) h) (fun _ => ?_)
  refine lv_bipush (v := (-2)) hE.1 hE.2.1 dX8_whole_10 (by decide) ?_
  exact x_ri hE hr hlo rfl rfl dX8_whole_12

theorem dX8_points_0 : decode cX8_points 0 = .ok (.aload_n 0, 1) := by decide +kernel
theorem dX8_points_1 : decode cX8_points 1 = .ok (.getfield 19, 3) := by decide +kernel
theorem dX8_points_4 : decode cX8_points 4 = .ok (.invokevirtual 157, 3) := by decide +kernel
theorem dX8_points_7 : decode cX8_points 7 = .ok (.ifCond .eq 13, 3) := by decide +kernel
theorem dX8_points_20 : decode cX8_points 20 = .ok (.bipush (-2), 2) := by decide +kernel
theorem dX8_points_22 : decode cX8_points 22 = .ok (.ireturn, 1) := by decide +kernel
set_option maxHeartbeats 4000000 in
set_option maxRecDepth 100000 in
theorem k_X8_points (l : Launch) (D : va_G) (K : Nat → ClassId) (ad : Nat → Nat) (mm : Option Nat) : Met l yX8_points (wM yX8_points cX8_points 1 (some .int)) (rmD 1) (va_Pc [.ref (ad 0)] (wPre D K ad (xG ad K mm) 132 xv0 xa0 xl0)) (vp_Si (fun r => r = (-2))) 0 0 (fun _ => False) := by
  refine x_met (by decide) (Nat.le_of_ble_eq_true rfl) ?_
  intro p e s m below meth c ls hE hr hlo hnm hB hl
  have hE : CallFix p m c cX8_points 1 s _ tbG "TaleCourt" := hE
  obtain ⟨hP, hK, hN⟩ := hB
  have hS : va_S (inW ad 132) s.heap s.heap [] := va_S.rf
  have hl : lv_has ls 1 [(0, .ref (ad 0))] := hl
  refine lv_aload_n hE.1 hE.2.1 dX8_points_0 rfl (lv_at hl 0 rfl) ?_
  refine x_get (x := .ref (ad 3)) hE hK hP 0 (by decide) (xG_8 rfl) rfl hin8 1 (by decide) mw_481 rfl dX8_points_1 ?_
  refine x_vp (nn := 0) (As := []) (rest := []) hE (k_X1_stands l D K ad mm ) wPre_blind (wPre_now hK hN hP) (x_recv hK hP 3 (by decide) (xG_1 rfl) rfl) rfl mw_788 mw_789 mw_790 mw_116 mw_791 (by decide +kernel) ⟨by decide, by decide⟩ hl.1 rfl (by decide) ⟨Nat.zero_le _, Nat.zero_le _⟩ dX8_points_4 (fun r hr => ?_)
  subst hr
  refine lv_if_eq (tgt := 20) hE.1 hE.2.1 dX8_points_7 (by decide) (fun _ => ?_) (fun h => absurd (by decide) h)
  refine lv_bipush (v := (-2)) hE.1 hE.2.1 dX8_points_20 (by decide) ?_
  exact x_ri hE hr hlo rfl rfl dX8_points_22

theorem dX8_share_0 : decode cX8_share 0 = .ok (.aload_n 0, 1) := by decide +kernel
theorem dX8_share_1 : decode cX8_share 1 = .ok (.getfield 19, 3) := by decide +kernel
theorem dX8_share_4 : decode cX8_share 4 = .ok (.iload_n 1, 1) := by decide +kernel
theorem dX8_share_5 : decode cX8_share 5 = .ok (.invokevirtual 195, 3) := by decide +kernel
theorem dX8_share_8 : decode cX8_share 8 = .ok (.ifCond .eq 14, 3) := by decide +kernel
theorem dX8_share_22 : decode cX8_share 22 = .ok (.bipush (-2), 2) := by decide +kernel
theorem dX8_share_24 : decode cX8_share 24 = .ok (.ireturn, 1) := by decide +kernel
set_option maxHeartbeats 4000000 in
set_option maxRecDepth 100000 in
theorem k_X8_share (l : Launch) (D : va_G) (K : Nat → ClassId) (ad : Nat → Nat) (mm : Option Nat) (p1 : Int32) : Met l yX8_share (wM yX8_share cX8_share 2 (some .int)) (rmD 1) (va_Pc [.ref (ad 0), .int p1] (wPre D K ad (xG ad K mm) 132 xv0 xa0 xl0)) (vp_Si (fun r => r = (-2))) 0 0 (fun _ => False) := by
  refine x_met (by decide) (Nat.le_of_ble_eq_true rfl) ?_
  intro p e s m below meth c ls hE hr hlo hnm hB hl
  have hE : CallFix p m c cX8_share 2 s _ tbG "TaleCourt" := hE
  obtain ⟨hP, hK, hN⟩ := hB
  have hS : va_S (inW ad 132) s.heap s.heap [] := va_S.rf
  have hl : lv_has ls 2 [(0, .ref (ad 0)), (1, .int p1)] := hl
  refine lv_aload_n hE.1 hE.2.1 dX8_share_0 rfl (lv_at hl 0 rfl) ?_
  refine x_get (x := .ref (ad 3)) hE hK hP 0 (by decide) (xG_8 rfl) rfl hin8 1 (by decide) mw_481 rfl dX8_share_1 ?_
  refine lv_iload_n hE.1 hE.2.1 dX8_share_4 rfl (lv_at hl 1 rfl) ?_
  refine x_vp (nn := 1) (As := [.int p1]) (rest := []) hE (k_X1_hasTeller l D K ad mm p1) wPre_blind (wPre_now hK hN hP) (x_recv hK hP 3 (by decide) (xG_1 rfl) rfl) rfl mw_884 mw_885 mw_886 mw_116 mw_887 (by decide +kernel) ⟨by decide, by decide⟩ hl.1 rfl (by decide) ⟨Nat.zero_le _, Nat.zero_le _⟩ dX8_share_5 (fun r hr => ?_)
  subst hr
  refine lv_if_eq (tgt := 22) hE.1 hE.2.1 dX8_share_8 (by decide) (fun _ => ?_) (fun h => absurd (by decide) h)
  refine lv_bipush (v := (-2)) hE.1 hE.2.1 dX8_share_22 (by decide) ?_
  exact x_ri hE hr hlo rfl rfl dX8_share_24

theorem dX8_left_0 : decode cX8_left 0 = .ok (.aload_n 0, 1) := by decide +kernel
theorem dX8_left_1 : decode cX8_left 1 = .ok (.getfield 19, 3) := by decide +kernel
theorem dX8_left_4 : decode cX8_left 4 = .ok (.iload_n 1, 1) := by decide +kernel
theorem dX8_left_5 : decode cX8_left 5 = .ok (.invokevirtual 195, 3) := by decide +kernel
theorem dX8_left_8 : decode cX8_left 8 = .ok (.ifCond .eq 14, 3) := by decide +kernel
theorem dX8_left_22 : decode cX8_left 22 = .ok (.bipush (-2), 2) := by decide +kernel
theorem dX8_left_24 : decode cX8_left 24 = .ok (.ireturn, 1) := by decide +kernel
set_option maxHeartbeats 4000000 in
set_option maxRecDepth 100000 in
theorem k_X8_left (l : Launch) (D : va_G) (K : Nat → ClassId) (ad : Nat → Nat) (mm : Option Nat) (p1 : Int32) : Met l yX8_left (wM yX8_left cX8_left 2 (some .int)) (rmD 1) (va_Pc [.ref (ad 0), .int p1] (wPre D K ad (xG ad K mm) 132 xv0 xa0 xl0)) (vp_Si (fun r => r = (-2))) 0 0 (fun _ => False) := by
  refine x_met (by decide) (Nat.le_of_ble_eq_true rfl) ?_
  intro p e s m below meth c ls hE hr hlo hnm hB hl
  have hE : CallFix p m c cX8_left 2 s _ tbG "TaleCourt" := hE
  obtain ⟨hP, hK, hN⟩ := hB
  have hS : va_S (inW ad 132) s.heap s.heap [] := va_S.rf
  have hl : lv_has ls 2 [(0, .ref (ad 0)), (1, .int p1)] := hl
  refine lv_aload_n hE.1 hE.2.1 dX8_left_0 rfl (lv_at hl 0 rfl) ?_
  refine x_get (x := .ref (ad 3)) hE hK hP 0 (by decide) (xG_8 rfl) rfl hin8 1 (by decide) mw_481 rfl dX8_left_1 ?_
  refine lv_iload_n hE.1 hE.2.1 dX8_left_4 rfl (lv_at hl 1 rfl) ?_
  refine x_vp (nn := 1) (As := [.int p1]) (rest := []) hE (k_X1_hasTeller l D K ad mm p1) wPre_blind (wPre_now hK hN hP) (x_recv hK hP 3 (by decide) (xG_1 rfl) rfl) rfl mw_884 mw_885 mw_886 mw_116 mw_887 (by decide +kernel) ⟨by decide, by decide⟩ hl.1 rfl (by decide) ⟨Nat.zero_le _, Nat.zero_le _⟩ dX8_left_5 (fun r hr => ?_)
  subst hr
  refine lv_if_eq (tgt := 22) hE.1 hE.2.1 dX8_left_8 (by decide) (fun _ => ?_) (fun h => absurd (by decide) h)
  refine lv_bipush (v := (-2)) hE.1 hE.2.1 dX8_left_22 (by decide) ?_
  exact x_ri hE hr hlo rfl rfl dX8_left_24

theorem dX8_longest_0 : decode cX8_longest 0 = .ok (.aload_n 0, 1) := by decide +kernel
theorem dX8_longest_1 : decode cX8_longest 1 = .ok (.getfield 19, 3) := by decide +kernel
theorem dX8_longest_4 : decode cX8_longest 4 = .ok (.invokevirtual 157, 3) := by decide +kernel
theorem dX8_longest_7 : decode cX8_longest 7 = .ok (.ifCond .eq 20, 3) := by decide +kernel
theorem dX8_longest_27 : decode cX8_longest 27 = .ok (.bipush (-2), 2) := by decide +kernel
theorem dX8_longest_29 : decode cX8_longest 29 = .ok (.ireturn, 1) := by decide +kernel
set_option maxHeartbeats 4000000 in
set_option maxRecDepth 100000 in
theorem k_X8_longest (l : Launch) (D : va_G) (K : Nat → ClassId) (ad : Nat → Nat) (mm : Option Nat) : Met l yX8_longest (wM yX8_longest cX8_longest 1 (some .int)) (rmD 1) (va_Pc [.ref (ad 0)] (wPre D K ad (xG ad K mm) 132 xv0 xa0 xl0)) (vp_Si (fun r => r = (-2))) 0 0 (fun _ => False) := by
  refine x_met (by decide) (Nat.le_of_ble_eq_true rfl) ?_
  intro p e s m below meth c ls hE hr hlo hnm hB hl
  have hE : CallFix p m c cX8_longest 1 s _ tbG "TaleCourt" := hE
  obtain ⟨hP, hK, hN⟩ := hB
  have hS : va_S (inW ad 132) s.heap s.heap [] := va_S.rf
  have hl : lv_has ls 1 [(0, .ref (ad 0))] := hl
  refine lv_aload_n hE.1 hE.2.1 dX8_longest_0 rfl (lv_at hl 0 rfl) ?_
  refine x_get (x := .ref (ad 3)) hE hK hP 0 (by decide) (xG_8 rfl) rfl hin8 1 (by decide) mw_481 rfl dX8_longest_1 ?_
  refine x_vp (nn := 0) (As := []) (rest := []) hE (k_X1_stands l D K ad mm ) wPre_blind (wPre_now hK hN hP) (x_recv hK hP 3 (by decide) (xG_1 rfl) rfl) rfl mw_788 mw_789 mw_790 mw_116 mw_791 (by decide +kernel) ⟨by decide, by decide⟩ hl.1 rfl (by decide) ⟨Nat.zero_le _, Nat.zero_le _⟩ dX8_longest_4 (fun r hr => ?_)
  subst hr
  refine lv_if_eq (tgt := 27) hE.1 hE.2.1 dX8_longest_7 (by decide) (fun _ => ?_) (fun h => absurd (by decide) h)
  refine lv_bipush (v := (-2)) hE.1 hE.2.1 dX8_longest_27 (by decide) ?_
  exact x_ri hE hr hlo rfl rfl dX8_longest_29

theorem dX8_full_0 : decode cX8_full 0 = .ok (.aload_n 0, 1) := by decide +kernel
theorem dX8_full_1 : decode cX8_full 1 = .ok (.getfield 19, 3) := by decide +kernel
theorem dX8_full_4 : decode cX8_full 4 = .ok (.invokevirtual 157, 3) := by decide +kernel
theorem dX8_full_7 : decode cX8_full 7 = .ok (.ifCond .eq 20, 3) := by decide +kernel
theorem dX8_full_27 : decode cX8_full 27 = .ok (.bipush (-2), 2) := by decide +kernel
theorem dX8_full_29 : decode cX8_full 29 = .ok (.ireturn, 1) := by decide +kernel
set_option maxHeartbeats 4000000 in
set_option maxRecDepth 100000 in
theorem k_X8_full (l : Launch) (D : va_G) (K : Nat → ClassId) (ad : Nat → Nat) (mm : Option Nat) : Met l yX8_full (wM yX8_full cX8_full 1 (some .int)) (rmD 1) (va_Pc [.ref (ad 0)] (wPre D K ad (xG ad K mm) 132 xv0 xa0 xl0)) (vp_Si (fun r => r = (-2))) 0 0 (fun _ => False) := by
  refine x_met (by decide) (Nat.le_of_ble_eq_true rfl) ?_
  intro p e s m below meth c ls hE hr hlo hnm hB hl
  have hE : CallFix p m c cX8_full 1 s _ tbG "TaleCourt" := hE
  obtain ⟨hP, hK, hN⟩ := hB
  have hS : va_S (inW ad 132) s.heap s.heap [] := va_S.rf
  have hl : lv_has ls 1 [(0, .ref (ad 0))] := hl
  refine lv_aload_n hE.1 hE.2.1 dX8_full_0 rfl (lv_at hl 0 rfl) ?_
  refine x_get (x := .ref (ad 3)) hE hK hP 0 (by decide) (xG_8 rfl) rfl hin8 1 (by decide) mw_481 rfl dX8_full_1 ?_
  refine x_vp (nn := 0) (As := []) (rest := []) hE (k_X1_stands l D K ad mm ) wPre_blind (wPre_now hK hN hP) (x_recv hK hP 3 (by decide) (xG_1 rfl) rfl) rfl mw_788 mw_789 mw_790 mw_116 mw_791 (by decide +kernel) ⟨by decide, by decide⟩ hl.1 rfl (by decide) ⟨Nat.zero_le _, Nat.zero_le _⟩ dX8_full_4 (fun r hr => ?_)
  subst hr
  refine lv_if_eq (tgt := 27) hE.1 hE.2.1 dX8_full_7 (by decide) (fun _ => ?_) (fun h => absurd (by decide) h)
  refine lv_bipush (v := (-2)) hE.1 hE.2.1 dX8_full_27 (by decide) ?_
  exact x_ri hE hr hlo rfl rfl dX8_full_29

theorem dX8_line_0 : decode cX8_line 0 = .ok (.aload_n 0, 1) := by decide +kernel
theorem dX8_line_1 : decode cX8_line 1 = .ok (.getfield 19, 3) := by decide +kernel
theorem dX8_line_4 : decode cX8_line 4 = .ok (.invokevirtual 157, 3) := by decide +kernel
theorem dX8_line_7 : decode cX8_line 7 = .ok (.ifCond .eq 20, 3) := by decide +kernel
theorem dX8_line_27 : decode cX8_line 27 = .ok (.bipush (-2), 2) := by decide +kernel
theorem dX8_line_29 : decode cX8_line 29 = .ok (.ireturn, 1) := by decide +kernel
set_option maxHeartbeats 4000000 in
set_option maxRecDepth 100000 in
theorem k_X8_line (l : Launch) (D : va_G) (K : Nat → ClassId) (ad : Nat → Nat) (mm : Option Nat) (p1 : Int32) : Met l yX8_line (wM yX8_line cX8_line 2 (some .int)) (rmD 1) (va_Pc [.ref (ad 0), .int p1] (wPre D K ad (xG ad K mm) 132 xv0 xa0 xl0)) (vp_Si (fun r => r = (-2))) 0 0 (fun _ => False) := by
  refine x_met (by decide) (Nat.le_of_ble_eq_true rfl) ?_
  intro p e s m below meth c ls hE hr hlo hnm hB hl
  have hE : CallFix p m c cX8_line 2 s _ tbG "TaleCourt" := hE
  obtain ⟨hP, hK, hN⟩ := hB
  have hS : va_S (inW ad 132) s.heap s.heap [] := va_S.rf
  have hl : lv_has ls 2 [(0, .ref (ad 0)), (1, .int p1)] := hl
  refine lv_aload_n hE.1 hE.2.1 dX8_line_0 rfl (lv_at hl 0 rfl) ?_
  refine x_get (x := .ref (ad 3)) hE hK hP 0 (by decide) (xG_8 rfl) rfl hin8 1 (by decide) mw_481 rfl dX8_line_1 ?_
  refine x_vp (nn := 0) (As := []) (rest := []) hE (k_X1_stands l D K ad mm ) wPre_blind (wPre_now hK hN hP) (x_recv hK hP 3 (by decide) (xG_1 rfl) rfl) rfl mw_788 mw_789 mw_790 mw_116 mw_791 (by decide +kernel) ⟨by decide, by decide⟩ hl.1 rfl (by decide) ⟨Nat.zero_le _, Nat.zero_le _⟩ dX8_line_4 (fun r hr => ?_)
  subst hr
  refine lv_if_eq (tgt := 27) hE.1 hE.2.1 dX8_line_7 (by decide) (fun _ => ?_) (fun h => absurd (by decide) h)
  refine lv_bipush (v := (-2)) hE.1 hE.2.1 dX8_line_27 (by decide) ?_
  exact x_ri hE hr hlo rfl rfl dX8_line_29

theorem dX8_best_0 : decode cX8_best 0 = .ok (.aload_n 0, 1) := by decide +kernel
theorem dX8_best_1 : decode cX8_best 1 = .ok (.getfield 19, 3) := by decide +kernel
theorem dX8_best_4 : decode cX8_best 4 = .ok (.invokevirtual 157, 3) := by decide +kernel
theorem dX8_best_7 : decode cX8_best 7 = .ok (.ifCond .eq 20, 3) := by decide +kernel
theorem dX8_best_27 : decode cX8_best 27 = .ok (.bipush (-2), 2) := by decide +kernel
theorem dX8_best_29 : decode cX8_best 29 = .ok (.ireturn, 1) := by decide +kernel
set_option maxHeartbeats 4000000 in
set_option maxRecDepth 100000 in
theorem k_X8_best (l : Launch) (D : va_G) (K : Nat → ClassId) (ad : Nat → Nat) (mm : Option Nat) : Met l yX8_best (wM yX8_best cX8_best 1 (some .int)) (rmD 1) (va_Pc [.ref (ad 0)] (wPre D K ad (xG ad K mm) 132 xv0 xa0 xl0)) (vp_Si (fun r => r = (-2))) 0 0 (fun _ => False) := by
  refine x_met (by decide) (Nat.le_of_ble_eq_true rfl) ?_
  intro p e s m below meth c ls hE hr hlo hnm hB hl
  have hE : CallFix p m c cX8_best 1 s _ tbG "TaleCourt" := hE
  obtain ⟨hP, hK, hN⟩ := hB
  have hS : va_S (inW ad 132) s.heap s.heap [] := va_S.rf
  have hl : lv_has ls 1 [(0, .ref (ad 0))] := hl
  refine lv_aload_n hE.1 hE.2.1 dX8_best_0 rfl (lv_at hl 0 rfl) ?_
  refine x_get (x := .ref (ad 3)) hE hK hP 0 (by decide) (xG_8 rfl) rfl hin8 1 (by decide) mw_481 rfl dX8_best_1 ?_
  refine x_vp (nn := 0) (As := []) (rest := []) hE (k_X1_stands l D K ad mm ) wPre_blind (wPre_now hK hN hP) (x_recv hK hP 3 (by decide) (xG_1 rfl) rfl) rfl mw_788 mw_789 mw_790 mw_116 mw_791 (by decide +kernel) ⟨by decide, by decide⟩ hl.1 rfl (by decide) ⟨Nat.zero_le _, Nat.zero_le _⟩ dX8_best_4 (fun r hr => ?_)
  subst hr
  refine lv_if_eq (tgt := 27) hE.1 hE.2.1 dX8_best_7 (by decide) (fun _ => ?_) (fun h => absurd (by decide) h)
  refine lv_bipush (v := (-2)) hE.1 hE.2.1 dX8_best_27 (by decide) ?_
  exact x_ri hE hr hlo rfl rfl dX8_best_29

theorem dX8_tale_0 : decode cX8_tale 0 = .ok (.aload_n 0, 1) := by decide +kernel
theorem dX8_tale_1 : decode cX8_tale 1 = .ok (.getfield 19, 3) := by decide +kernel
theorem dX8_tale_4 : decode cX8_tale 4 = .ok (.invokevirtual 157, 3) := by decide +kernel
theorem dX8_tale_7 : decode cX8_tale 7 = .ok (.ifCond .ne 6, 3) := by decide +kernel
theorem dX8_tale_10 : decode cX8_tale 10 = .ok (.bipush (-2), 2) := by decide +kernel
theorem dX8_tale_12 : decode cX8_tale 12 = .ok (.ireturn, 1) := by decide +kernel
set_option maxHeartbeats 4000000 in
set_option maxRecDepth 100000 in
theorem k_X8_tale (l : Launch) (D : va_G) (K : Nat → ClassId) (ad : Nat → Nat) (mm : Option Nat) (p1 : Int32) : Met l yX8_tale (wM yX8_tale cX8_tale 3 (some .int)) (rmD 1) (va_Pc [.ref (ad 0), .int p1] (wPre D K ad (xG ad K mm) 132 xv0 xa0 xl0)) (vp_Si (fun r => r = (-2))) 0 0 (fun _ => False) := by
  refine x_met (by decide) (Nat.le_of_ble_eq_true rfl) ?_
  intro p e s m below meth c ls hE hr hlo hnm hB hl
  have hE : CallFix p m c cX8_tale 3 s _ tbG "TaleCourt" := hE
  obtain ⟨hP, hK, hN⟩ := hB
  have hS : va_S (inW ad 132) s.heap s.heap [] := va_S.rf
  have hl : lv_has ls 3 [(0, .ref (ad 0)), (1, .int p1)] := hl
  refine lv_aload_n hE.1 hE.2.1 dX8_tale_0 rfl (lv_at hl 0 rfl) ?_
  refine x_get (x := .ref (ad 3)) hE hK hP 0 (by decide) (xG_8 rfl) rfl hin8 1 (by decide) mw_481 rfl dX8_tale_1 ?_
  refine x_vp (nn := 0) (As := []) (rest := []) hE (k_X1_stands l D K ad mm ) wPre_blind (wPre_now hK hN hP) (x_recv hK hP 3 (by decide) (xG_1 rfl) rfl) rfl mw_788 mw_789 mw_790 mw_116 mw_791 (by decide +kernel) ⟨by decide, by decide⟩ hl.1 rfl (by decide) ⟨Nat.zero_le _, Nat.zero_le _⟩ dX8_tale_4 (fun r hr => ?_)
  subst hr
  refine lv_if_ne (tgt := 13) hE.1 hE.2.1 dX8_tale_7 (by decide) (fun h => absurd (by decide) h) (fun _ => ?_)
  refine lv_bipush (v := (-2)) hE.1 hE.2.1 dX8_tale_10 (by decide) ?_
  exact x_ri hE hr hlo rfl rfl dX8_tale_12

theorem dX8_roof_0 : decode cX8_roof 0 = .ok (.aload_n 0, 1) := by decide +kernel
theorem dX8_roof_1 : decode cX8_roof 1 = .ok (.getfield 19, 3) := by decide +kernel
theorem dX8_roof_4 : decode cX8_roof 4 = .ok (.invokevirtual 157, 3) := by decide +kernel
theorem dX8_roof_7 : decode cX8_roof 7 = .ok (.ifCond .eq 24, 3) := by decide +kernel
theorem dX8_roof_31 : decode cX8_roof 31 = .ok (.bipush (-2), 2) := by decide +kernel
theorem dX8_roof_33 : decode cX8_roof 33 = .ok (.ireturn, 1) := by decide +kernel
set_option maxHeartbeats 4000000 in
set_option maxRecDepth 100000 in
theorem k_X8_roof (l : Launch) (D : va_G) (K : Nat → ClassId) (ad : Nat → Nat) (mm : Option Nat) (p1 : Int32) : Met l yX8_roof (wM yX8_roof cX8_roof 2 (some .int)) (rmD 1) (va_Pc [.ref (ad 0), .int p1] (wPre D K ad (xG ad K mm) 132 xv0 xa0 xl0)) (vp_Si (fun r => r = (-2))) 0 0 (fun _ => False) := by
  refine x_met (by decide) (Nat.le_of_ble_eq_true rfl) ?_
  intro p e s m below meth c ls hE hr hlo hnm hB hl
  have hE : CallFix p m c cX8_roof 2 s _ tbG "TaleCourt" := hE
  obtain ⟨hP, hK, hN⟩ := hB
  have hS : va_S (inW ad 132) s.heap s.heap [] := va_S.rf
  have hl : lv_has ls 2 [(0, .ref (ad 0)), (1, .int p1)] := hl
  refine lv_aload_n hE.1 hE.2.1 dX8_roof_0 rfl (lv_at hl 0 rfl) ?_
  refine x_get (x := .ref (ad 3)) hE hK hP 0 (by decide) (xG_8 rfl) rfl hin8 1 (by decide) mw_481 rfl dX8_roof_1 ?_
  refine x_vp (nn := 0) (As := []) (rest := []) hE (k_X1_stands l D K ad mm ) wPre_blind (wPre_now hK hN hP) (x_recv hK hP 3 (by decide) (xG_1 rfl) rfl) rfl mw_788 mw_789 mw_790 mw_116 mw_791 (by decide +kernel) ⟨by decide, by decide⟩ hl.1 rfl (by decide) ⟨Nat.zero_le _, Nat.zero_le _⟩ dX8_roof_4 (fun r hr => ?_)
  subst hr
  refine lv_if_eq (tgt := 31) hE.1 hE.2.1 dX8_roof_7 (by decide) (fun _ => ?_) (fun h => absurd (by decide) h)
  refine lv_bipush (v := (-2)) hE.1 hE.2.1 dX8_roof_31 (by decide) ?_
  exact x_ri hE hr hlo rfl rfl dX8_roof_33

theorem dX8_beam_0 : decode cX8_beam 0 = .ok (.aload_n 0, 1) := by decide +kernel
theorem dX8_beam_1 : decode cX8_beam 1 = .ok (.getfield 19, 3) := by decide +kernel
theorem dX8_beam_4 : decode cX8_beam 4 = .ok (.invokevirtual 157, 3) := by decide +kernel
theorem dX8_beam_7 : decode cX8_beam 7 = .ok (.ifCond .eq 24, 3) := by decide +kernel
theorem dX8_beam_31 : decode cX8_beam 31 = .ok (.bipush (-2), 2) := by decide +kernel
theorem dX8_beam_33 : decode cX8_beam 33 = .ok (.ireturn, 1) := by decide +kernel
set_option maxHeartbeats 4000000 in
set_option maxRecDepth 100000 in
theorem k_X8_beam (l : Launch) (D : va_G) (K : Nat → ClassId) (ad : Nat → Nat) (mm : Option Nat) (p1 : Int32) (p2 : Int32) : Met l yX8_beam (wM yX8_beam cX8_beam 3 (some .int)) (rmD 1) (va_Pc [.ref (ad 0), .int p1, .int p2] (wPre D K ad (xG ad K mm) 132 xv0 xa0 xl0)) (vp_Si (fun r => r = (-2))) 0 0 (fun _ => False) := by
  refine x_met (by decide) (Nat.le_of_ble_eq_true rfl) ?_
  intro p e s m below meth c ls hE hr hlo hnm hB hl
  have hE : CallFix p m c cX8_beam 3 s _ tbG "TaleCourt" := hE
  obtain ⟨hP, hK, hN⟩ := hB
  have hS : va_S (inW ad 132) s.heap s.heap [] := va_S.rf
  have hl : lv_has ls 3 [(0, .ref (ad 0)), (1, .int p1), (2, .int p2)] := hl
  refine lv_aload_n hE.1 hE.2.1 dX8_beam_0 rfl (lv_at hl 0 rfl) ?_
  refine x_get (x := .ref (ad 3)) hE hK hP 0 (by decide) (xG_8 rfl) rfl hin8 1 (by decide) mw_481 rfl dX8_beam_1 ?_
  refine x_vp (nn := 0) (As := []) (rest := []) hE (k_X1_stands l D K ad mm ) wPre_blind (wPre_now hK hN hP) (x_recv hK hP 3 (by decide) (xG_1 rfl) rfl) rfl mw_788 mw_789 mw_790 mw_116 mw_791 (by decide +kernel) ⟨by decide, by decide⟩ hl.1 rfl (by decide) ⟨Nat.zero_le _, Nat.zero_le _⟩ dX8_beam_4 (fun r hr => ?_)
  subst hr
  refine lv_if_eq (tgt := 31) hE.1 hE.2.1 dX8_beam_7 (by decide) (fun _ => ?_) (fun h => absurd (by decide) h)
  refine lv_bipush (v := (-2)) hE.1 hE.2.1 dX8_beam_31 (by decide) ?_
  exact x_ri hE hr hlo rfl rfl dX8_beam_33

theorem dX8_rows_0 : decode cX8_rows 0 = .ok (.aload_n 0, 1) := by decide +kernel
theorem dX8_rows_1 : decode cX8_rows 1 = .ok (.getfield 19, 3) := by decide +kernel
theorem dX8_rows_4 : decode cX8_rows 4 = .ok (.invokevirtual 157, 3) := by decide +kernel
theorem dX8_rows_7 : decode cX8_rows 7 = .ok (.ifCond .eq 30, 3) := by decide +kernel
theorem dX8_rows_37 : decode cX8_rows 37 = .ok (.bipush (-2), 2) := by decide +kernel
theorem dX8_rows_39 : decode cX8_rows 39 = .ok (.ireturn, 1) := by decide +kernel
set_option maxHeartbeats 4000000 in
set_option maxRecDepth 100000 in
theorem k_X8_rows (l : Launch) (D : va_G) (K : Nat → ClassId) (ad : Nat → Nat) (mm : Option Nat) (p1 : Int32) : Met l yX8_rows (wM yX8_rows cX8_rows 2 (some .int)) (rmD 1) (va_Pc [.ref (ad 0), .int p1] (wPre D K ad (xG ad K mm) 132 xv0 xa0 xl0)) (vp_Si (fun r => r = (-2))) 0 0 (fun _ => False) := by
  refine x_met (by decide) (Nat.le_of_ble_eq_true rfl) ?_
  intro p e s m below meth c ls hE hr hlo hnm hB hl
  have hE : CallFix p m c cX8_rows 2 s _ tbG "TaleCourt" := hE
  obtain ⟨hP, hK, hN⟩ := hB
  have hS : va_S (inW ad 132) s.heap s.heap [] := va_S.rf
  have hl : lv_has ls 2 [(0, .ref (ad 0)), (1, .int p1)] := hl
  refine lv_aload_n hE.1 hE.2.1 dX8_rows_0 rfl (lv_at hl 0 rfl) ?_
  refine x_get (x := .ref (ad 3)) hE hK hP 0 (by decide) (xG_8 rfl) rfl hin8 1 (by decide) mw_481 rfl dX8_rows_1 ?_
  refine x_vp (nn := 0) (As := []) (rest := []) hE (k_X1_stands l D K ad mm ) wPre_blind (wPre_now hK hN hP) (x_recv hK hP 3 (by decide) (xG_1 rfl) rfl) rfl mw_788 mw_789 mw_790 mw_116 mw_791 (by decide +kernel) ⟨by decide, by decide⟩ hl.1 rfl (by decide) ⟨Nat.zero_le _, Nat.zero_le _⟩ dX8_rows_4 (fun r hr => ?_)
  subst hr
  refine lv_if_eq (tgt := 37) hE.1 hE.2.1 dX8_rows_7 (by decide) (fun _ => ?_) (fun h => absurd (by decide) h)
  refine lv_bipush (v := (-2)) hE.1 hE.2.1 dX8_rows_37 (by decide) ?_
  exact x_ri hE hr hlo rfl rfl dX8_rows_39

theorem dX8_wholes_0 : decode cX8_wholes 0 = .ok (.aload_n 0, 1) := by decide +kernel
theorem dX8_wholes_1 : decode cX8_wholes 1 = .ok (.getfield 19, 3) := by decide +kernel
theorem dX8_wholes_4 : decode cX8_wholes 4 = .ok (.invokevirtual 157, 3) := by decide +kernel
theorem dX8_wholes_7 : decode cX8_wholes 7 = .ok (.ifCond .eq 11, 3) := by decide +kernel
theorem dX8_wholes_18 : decode cX8_wholes 18 = .ok (.bipush (-2), 2) := by decide +kernel
theorem dX8_wholes_20 : decode cX8_wholes 20 = .ok (.ireturn, 1) := by decide +kernel
set_option maxHeartbeats 4000000 in
set_option maxRecDepth 100000 in
theorem k_X8_wholes (l : Launch) (D : va_G) (K : Nat → ClassId) (ad : Nat → Nat) (mm : Option Nat) : Met l yX8_wholes (wM yX8_wholes cX8_wholes 1 (some .int)) (rmD 1) (va_Pc [.ref (ad 0)] (wPre D K ad (xG ad K mm) 132 xv0 xa0 xl0)) (vp_Si (fun r => r = (-2))) 0 0 (fun _ => False) := by
  refine x_met (by decide) (Nat.le_of_ble_eq_true rfl) ?_
  intro p e s m below meth c ls hE hr hlo hnm hB hl
  have hE : CallFix p m c cX8_wholes 1 s _ tbG "TaleCourt" := hE
  obtain ⟨hP, hK, hN⟩ := hB
  have hS : va_S (inW ad 132) s.heap s.heap [] := va_S.rf
  have hl : lv_has ls 1 [(0, .ref (ad 0))] := hl
  refine lv_aload_n hE.1 hE.2.1 dX8_wholes_0 rfl (lv_at hl 0 rfl) ?_
  refine x_get (x := .ref (ad 3)) hE hK hP 0 (by decide) (xG_8 rfl) rfl hin8 1 (by decide) mw_481 rfl dX8_wholes_1 ?_
  refine x_vp (nn := 0) (As := []) (rest := []) hE (k_X1_stands l D K ad mm ) wPre_blind (wPre_now hK hN hP) (x_recv hK hP 3 (by decide) (xG_1 rfl) rfl) rfl mw_788 mw_789 mw_790 mw_116 mw_791 (by decide +kernel) ⟨by decide, by decide⟩ hl.1 rfl (by decide) ⟨Nat.zero_le _, Nat.zero_le _⟩ dX8_wholes_4 (fun r hr => ?_)
  subst hr
  refine lv_if_eq (tgt := 18) hE.1 hE.2.1 dX8_wholes_7 (by decide) (fun _ => ?_) (fun h => absurd (by decide) h)
  refine lv_bipush (v := (-2)) hE.1 hE.2.1 dX8_wholes_18 (by decide) ?_
  exact x_ri hE hr hlo rfl rfl dX8_wholes_20

theorem dX8_ends_0 : decode cX8_ends 0 = .ok (.aload_n 0, 1) := by decide +kernel
theorem dX8_ends_1 : decode cX8_ends 1 = .ok (.getfield 19, 3) := by decide +kernel
theorem dX8_ends_4 : decode cX8_ends 4 = .ok (.iload_n 1, 1) := by decide +kernel
theorem dX8_ends_5 : decode cX8_ends 5 = .ok (.invokevirtual 102, 3) := by decide +kernel
theorem dX8_ends_8 : decode cX8_ends 8 = .ok (.ifCond .eq 21, 3) := by decide +kernel
theorem dX8_ends_29 : decode cX8_ends 29 = .ok (.bipush (-2), 2) := by decide +kernel
theorem dX8_ends_31 : decode cX8_ends 31 = .ok (.ireturn, 1) := by decide +kernel
set_option maxHeartbeats 4000000 in
set_option maxRecDepth 100000 in
theorem k_X8_ends (l : Launch) (D : va_G) (K : Nat → ClassId) (ad : Nat → Nat) (mm : Option Nat) (p1 : Int32) : Met l yX8_ends (wM yX8_ends cX8_ends 2 (some .int)) (rmD 1) (va_Pc [.ref (ad 0), .int p1] (wPre D K ad (xG ad K mm) 132 xv0 xa0 xl0)) (vp_Si (fun r => r = (-2))) 0 0 (fun _ => False) := by
  refine x_met (by decide) (Nat.le_of_ble_eq_true rfl) ?_
  intro p e s m below meth c ls hE hr hlo hnm hB hl
  have hE : CallFix p m c cX8_ends 2 s _ tbG "TaleCourt" := hE
  obtain ⟨hP, hK, hN⟩ := hB
  have hS : va_S (inW ad 132) s.heap s.heap [] := va_S.rf
  have hl : lv_has ls 2 [(0, .ref (ad 0)), (1, .int p1)] := hl
  refine lv_aload_n hE.1 hE.2.1 dX8_ends_0 rfl (lv_at hl 0 rfl) ?_
  refine x_get (x := .ref (ad 3)) hE hK hP 0 (by decide) (xG_8 rfl) rfl hin8 1 (by decide) mw_481 rfl dX8_ends_1 ?_
  refine lv_iload_n hE.1 hE.2.1 dX8_ends_4 rfl (lv_at hl 1 rfl) ?_
  refine x_vp (nn := 1) (As := [.int p1]) (rest := []) hE (k_X1_hasMotif l D K ad mm p1) wPre_blind (wPre_now hK hN hP) (x_recv hK hP 3 (by decide) (xG_1 rfl) rfl) rfl mw_694 mw_695 mw_696 mw_116 mw_697 (by decide +kernel) ⟨by decide, by decide⟩ hl.1 rfl (by decide) ⟨Nat.zero_le _, Nat.zero_le _⟩ dX8_ends_5 (fun r hr => ?_)
  subst hr
  refine lv_if_eq (tgt := 29) hE.1 hE.2.1 dX8_ends_8 (by decide) (fun _ => ?_) (fun h => absurd (by decide) h)
  refine lv_bipush (v := (-2)) hE.1 hE.2.1 dX8_ends_29 (by decide) ?_
  exact x_ri hE hr hlo rfl rfl dX8_ends_31

theorem dX8_always_0 : decode cX8_always 0 = .ok (.aload_n 0, 1) := by decide +kernel
theorem dX8_always_1 : decode cX8_always 1 = .ok (.getfield 19, 3) := by decide +kernel
theorem dX8_always_4 : decode cX8_always 4 = .ok (.invokevirtual 157, 3) := by decide +kernel
theorem dX8_always_7 : decode cX8_always 7 = .ok (.ifCond .eq 12, 3) := by decide +kernel
theorem dX8_always_19 : decode cX8_always 19 = .ok (.bipush (-2), 2) := by decide +kernel
theorem dX8_always_21 : decode cX8_always 21 = .ok (.ireturn, 1) := by decide +kernel
set_option maxHeartbeats 4000000 in
set_option maxRecDepth 100000 in
theorem k_X8_always (l : Launch) (D : va_G) (K : Nat → ClassId) (ad : Nat → Nat) (mm : Option Nat) (p1 : Int32) : Met l yX8_always (wM yX8_always cX8_always 6 (some .int)) (rmD 1) (va_Pc [.ref (ad 0), .int p1] (wPre D K ad (xG ad K mm) 132 xv0 xa0 xl0)) (vp_Si (fun r => r = (-2))) 0 0 (fun _ => False) := by
  refine x_met (by decide) (Nat.le_of_ble_eq_true rfl) ?_
  intro p e s m below meth c ls hE hr hlo hnm hB hl
  have hE : CallFix p m c cX8_always 6 s _ tbG "TaleCourt" := hE
  obtain ⟨hP, hK, hN⟩ := hB
  have hS : va_S (inW ad 132) s.heap s.heap [] := va_S.rf
  have hl : lv_has ls 6 [(0, .ref (ad 0)), (1, .int p1)] := hl
  refine lv_aload_n hE.1 hE.2.1 dX8_always_0 rfl (lv_at hl 0 rfl) ?_
  refine x_get (x := .ref (ad 3)) hE hK hP 0 (by decide) (xG_8 rfl) rfl hin8 1 (by decide) mw_481 rfl dX8_always_1 ?_
  refine x_vp (nn := 0) (As := []) (rest := []) hE (k_X1_stands l D K ad mm ) wPre_blind (wPre_now hK hN hP) (x_recv hK hP 3 (by decide) (xG_1 rfl) rfl) rfl mw_788 mw_789 mw_790 mw_116 mw_791 (by decide +kernel) ⟨by decide, by decide⟩ hl.1 rfl (by decide) ⟨Nat.zero_le _, Nat.zero_le _⟩ dX8_always_4 (fun r hr => ?_)
  subst hr
  refine lv_if_eq (tgt := 19) hE.1 hE.2.1 dX8_always_7 (by decide) (fun _ => ?_) (fun h => absurd (by decide) h)
  refine lv_bipush (v := (-2)) hE.1 hE.2.1 dX8_always_19 (by decide) ?_
  exact x_ri hE hr hlo rfl rfl dX8_always_21

theorem dX8_wins_0 : decode cX8_wins 0 = .ok (.aload_n 0, 1) := by decide +kernel
theorem dX8_wins_1 : decode cX8_wins 1 = .ok (.invokevirtual 226, 3) := by decide +kernel
theorem dX8_wins_4 : decode cX8_wins 4 = .ok (.istore_n 1, 1) := by decide +kernel
theorem dX8_wins_5 : decode cX8_wins 5 = .ok (.iload_n 1, 1) := by decide +kernel
theorem dX8_wins_6 : decode cX8_wins 6 = .ok (.ifCond .eq 5, 3) := by decide +kernel
theorem dX8_wins_9 : decode cX8_wins 9 = .ok (.iload_n 1, 1) := by decide +kernel
theorem dX8_wins_10 : decode cX8_wins 10 = .ok (.ireturn, 1) := by decide +kernel
set_option maxHeartbeats 4000000 in
set_option maxRecDepth 100000 in
theorem k_X8_wins (l : Launch) (D : va_G) (K : Nat → ClassId) (ad : Nat → Nat) (mm : Option Nat) : Met l yX8_wins (wM yX8_wins cX8_wins 2 (some .int)) (rmD 2) (va_Pc [.ref (ad 0)] (wPre D K ad (xG ad K mm) 132 xv0 xa0 xl0)) (vp_Si (fun r => r = (-2))) 0 0 (fun _ => False) := by
  refine x_met (by decide) (Nat.le_of_ble_eq_true rfl) ?_
  intro p e s m below meth c ls hE hr hlo hnm hB hl
  have hE : CallFix p m c cX8_wins 2 s _ tbG "TaleCourt" := hE
  obtain ⟨hP, hK, hN⟩ := hB
  have hS : va_S (inW ad 132) s.heap s.heap [] := va_S.rf
  have hl : lv_has ls 2 [(0, .ref (ad 0))] := hl
  refine lv_aload_n hE.1 hE.2.1 dX8_wins_0 rfl (lv_at hl 0 rfl) ?_
  refine x_vp (nn := 0) (As := []) (rest := []) hE (k_X8_gameBar l D K ad mm ) wPre_blind (wPre_now hK hN hP) (x_recv hK hP 0 (by decide) (xG_8 rfl) rfl) rfl mw_1027 mw_1029 mw_30 mw_114 mw_1030 (by decide +kernel) ⟨by decide, by decide⟩ hl.1 rfl (by decide) ⟨Nat.zero_le _, Nat.zero_le _⟩ dX8_wins_1 (fun r hr => ?_)
  subst hr
  refine lv_istore_n (lv' := [(1, .int (-2)), (0, .ref (ad 0))]) hE.1 hE.2.1 dX8_wins_4 rfl hl (by decide) rfl (fun ls hl => ?_)
  refine lv_iload_n hE.1 hE.2.1 dX8_wins_5 rfl (lv_at hl 0 rfl) ?_
  refine lv_if_eq (tgt := 11) hE.1 hE.2.1 dX8_wins_6 (by decide) (fun h => absurd h (by decide)) (fun _ => ?_)
  refine lv_iload_n hE.1 hE.2.1 dX8_wins_9 rfl (lv_at hl 0 rfl) ?_
  exact x_ri hE hr hlo rfl rfl dX8_wins_10

theorem dX8_move_0 : decode cX8_move 0 = .ok (.aload_n 0, 1) := by decide +kernel
theorem dX8_move_1 : decode cX8_move 1 = .ok (.invokevirtual 226, 3) := by decide +kernel
theorem dX8_move_4 : decode cX8_move 4 = .ok (.istore_n 1, 1) := by decide +kernel
theorem dX8_move_5 : decode cX8_move 5 = .ok (.iload_n 1, 1) := by decide +kernel
theorem dX8_move_6 : decode cX8_move 6 = .ok (.ifCond .eq 5, 3) := by decide +kernel
theorem dX8_move_9 : decode cX8_move 9 = .ok (.iload_n 1, 1) := by decide +kernel
theorem dX8_move_10 : decode cX8_move 10 = .ok (.ireturn, 1) := by decide +kernel
set_option maxHeartbeats 4000000 in
set_option maxRecDepth 100000 in
theorem k_X8_move (l : Launch) (D : va_G) (K : Nat → ClassId) (ad : Nat → Nat) (mm : Option Nat) : Met l yX8_move (wM yX8_move cX8_move 4 (some .int)) (rmD 2) (va_Pc [.ref (ad 0)] (wPre D K ad (xG ad K mm) 132 xv0 xa0 xl0)) (vp_Si (fun r => r = (-2))) 0 0 (fun _ => False) := by
  refine x_met (by decide) (Nat.le_of_ble_eq_true rfl) ?_
  intro p e s m below meth c ls hE hr hlo hnm hB hl
  have hE : CallFix p m c cX8_move 4 s _ tbG "TaleCourt" := hE
  obtain ⟨hP, hK, hN⟩ := hB
  have hS : va_S (inW ad 132) s.heap s.heap [] := va_S.rf
  have hl : lv_has ls 4 [(0, .ref (ad 0))] := hl
  refine lv_aload_n hE.1 hE.2.1 dX8_move_0 rfl (lv_at hl 0 rfl) ?_
  refine x_vp (nn := 0) (As := []) (rest := []) hE (k_X8_gameBar l D K ad mm ) wPre_blind (wPre_now hK hN hP) (x_recv hK hP 0 (by decide) (xG_8 rfl) rfl) rfl mw_1027 mw_1029 mw_30 mw_114 mw_1030 (by decide +kernel) ⟨by decide, by decide⟩ hl.1 rfl (by decide) ⟨Nat.zero_le _, Nat.zero_le _⟩ dX8_move_1 (fun r hr => ?_)
  subst hr
  refine lv_istore_n (lv' := [(1, .int (-2)), (0, .ref (ad 0))]) hE.1 hE.2.1 dX8_move_4 rfl hl (by decide) rfl (fun ls hl => ?_)
  refine lv_iload_n hE.1 hE.2.1 dX8_move_5 rfl (lv_at hl 0 rfl) ?_
  refine lv_if_eq (tgt := 11) hE.1 hE.2.1 dX8_move_6 (by decide) (fun h => absurd h (by decide)) (fun _ => ?_)
  refine lv_iload_n hE.1 hE.2.1 dX8_move_9 rfl (lv_at hl 0 rfl) ?_
  exact x_ri hE hr hlo rfl rfl dX8_move_10

theorem dX8_lasts_0 : decode cX8_lasts 0 = .ok (.aload_n 0, 1) := by decide +kernel
theorem dX8_lasts_1 : decode cX8_lasts 1 = .ok (.invokevirtual 226, 3) := by decide +kernel
theorem dX8_lasts_4 : decode cX8_lasts 4 = .ok (.istore_n 1, 1) := by decide +kernel
theorem dX8_lasts_5 : decode cX8_lasts 5 = .ok (.iload_n 1, 1) := by decide +kernel
theorem dX8_lasts_6 : decode cX8_lasts 6 = .ok (.ifCond .eq 5, 3) := by decide +kernel
theorem dX8_lasts_9 : decode cX8_lasts 9 = .ok (.iload_n 1, 1) := by decide +kernel
theorem dX8_lasts_10 : decode cX8_lasts 10 = .ok (.ireturn, 1) := by decide +kernel
set_option maxHeartbeats 4000000 in
set_option maxRecDepth 100000 in
theorem k_X8_lasts (l : Launch) (D : va_G) (K : Nat → ClassId) (ad : Nat → Nat) (mm : Option Nat) : Met l yX8_lasts (wM yX8_lasts cX8_lasts 2 (some .int)) (rmD 2) (va_Pc [.ref (ad 0)] (wPre D K ad (xG ad K mm) 132 xv0 xa0 xl0)) (vp_Si (fun r => r = (-2))) 0 0 (fun _ => False) := by
  refine x_met (by decide) (Nat.le_of_ble_eq_true rfl) ?_
  intro p e s m below meth c ls hE hr hlo hnm hB hl
  have hE : CallFix p m c cX8_lasts 2 s _ tbG "TaleCourt" := hE
  obtain ⟨hP, hK, hN⟩ := hB
  have hS : va_S (inW ad 132) s.heap s.heap [] := va_S.rf
  have hl : lv_has ls 2 [(0, .ref (ad 0))] := hl
  refine lv_aload_n hE.1 hE.2.1 dX8_lasts_0 rfl (lv_at hl 0 rfl) ?_
  refine x_vp (nn := 0) (As := []) (rest := []) hE (k_X8_gameBar l D K ad mm ) wPre_blind (wPre_now hK hN hP) (x_recv hK hP 0 (by decide) (xG_8 rfl) rfl) rfl mw_1027 mw_1029 mw_30 mw_114 mw_1030 (by decide +kernel) ⟨by decide, by decide⟩ hl.1 rfl (by decide) ⟨Nat.zero_le _, Nat.zero_le _⟩ dX8_lasts_1 (fun r hr => ?_)
  subst hr
  refine lv_istore_n (lv' := [(1, .int (-2)), (0, .ref (ad 0))]) hE.1 hE.2.1 dX8_lasts_4 rfl hl (by decide) rfl (fun ls hl => ?_)
  refine lv_iload_n hE.1 hE.2.1 dX8_lasts_5 rfl (lv_at hl 0 rfl) ?_
  refine lv_if_eq (tgt := 11) hE.1 hE.2.1 dX8_lasts_6 (by decide) (fun h => absurd h (by decide)) (fun _ => ?_)
  refine lv_iload_n hE.1 hE.2.1 dX8_lasts_9 rfl (lv_at hl 0 rfl) ?_
  exact x_ri hE hr hlo rfl rfl dX8_lasts_10

theorem dX8_good_0 : decode cX8_good 0 = .ok (.aload_n 0, 1) := by decide +kernel
theorem dX8_good_1 : decode cX8_good 1 = .ok (.invokevirtual 226, 3) := by decide +kernel
theorem dX8_good_4 : decode cX8_good 4 = .ok (.istore_n 1, 1) := by decide +kernel
theorem dX8_good_5 : decode cX8_good 5 = .ok (.iload_n 1, 1) := by decide +kernel
theorem dX8_good_6 : decode cX8_good 6 = .ok (.ifCond .eq 5, 3) := by decide +kernel
theorem dX8_good_9 : decode cX8_good 9 = .ok (.iload_n 1, 1) := by decide +kernel
theorem dX8_good_10 : decode cX8_good 10 = .ok (.ireturn, 1) := by decide +kernel
set_option maxHeartbeats 4000000 in
set_option maxRecDepth 100000 in
theorem k_X8_good (l : Launch) (D : va_G) (K : Nat → ClassId) (ad : Nat → Nat) (mm : Option Nat) : Met l yX8_good (wM yX8_good cX8_good 2 (some .int)) (rmD 2) (va_Pc [.ref (ad 0)] (wPre D K ad (xG ad K mm) 132 xv0 xa0 xl0)) (vp_Si (fun r => r = (-2))) 0 0 (fun _ => False) := by
  refine x_met (by decide) (Nat.le_of_ble_eq_true rfl) ?_
  intro p e s m below meth c ls hE hr hlo hnm hB hl
  have hE : CallFix p m c cX8_good 2 s _ tbG "TaleCourt" := hE
  obtain ⟨hP, hK, hN⟩ := hB
  have hS : va_S (inW ad 132) s.heap s.heap [] := va_S.rf
  have hl : lv_has ls 2 [(0, .ref (ad 0))] := hl
  refine lv_aload_n hE.1 hE.2.1 dX8_good_0 rfl (lv_at hl 0 rfl) ?_
  refine x_vp (nn := 0) (As := []) (rest := []) hE (k_X8_gameBar l D K ad mm ) wPre_blind (wPre_now hK hN hP) (x_recv hK hP 0 (by decide) (xG_8 rfl) rfl) rfl mw_1027 mw_1029 mw_30 mw_114 mw_1030 (by decide +kernel) ⟨by decide, by decide⟩ hl.1 rfl (by decide) ⟨Nat.zero_le _, Nat.zero_le _⟩ dX8_good_1 (fun r hr => ?_)
  subst hr
  refine lv_istore_n (lv' := [(1, .int (-2)), (0, .ref (ad 0))]) hE.1 hE.2.1 dX8_good_4 rfl hl (by decide) rfl (fun ls hl => ?_)
  refine lv_iload_n hE.1 hE.2.1 dX8_good_5 rfl (lv_at hl 0 rfl) ?_
  refine lv_if_eq (tgt := 11) hE.1 hE.2.1 dX8_good_6 (by decide) (fun h => absurd h (by decide)) (fun _ => ?_)
  refine lv_iload_n hE.1 hE.2.1 dX8_good_9 rfl (lv_at hl 0 rfl) ?_
  exact x_ri hE hr hlo rfl rfl dX8_good_10

theorem dX8_kept_0 : decode cX8_kept 0 = .ok (.aload_n 0, 1) := by decide +kernel
theorem dX8_kept_1 : decode cX8_kept 1 = .ok (.invokevirtual 226, 3) := by decide +kernel
theorem dX8_kept_4 : decode cX8_kept 4 = .ok (.istore_n 3, 1) := by decide +kernel
theorem dX8_kept_5 : decode cX8_kept 5 = .ok (.iload_n 3, 1) := by decide +kernel
theorem dX8_kept_6 : decode cX8_kept 6 = .ok (.ifCond .eq 5, 3) := by decide +kernel
theorem dX8_kept_9 : decode cX8_kept 9 = .ok (.iload_n 3, 1) := by decide +kernel
theorem dX8_kept_10 : decode cX8_kept 10 = .ok (.ireturn, 1) := by decide +kernel
set_option maxHeartbeats 4000000 in
set_option maxRecDepth 100000 in
theorem k_X8_kept (l : Launch) (D : va_G) (K : Nat → ClassId) (ad : Nat → Nat) (mm : Option Nat) (p1 : Int32) (p2 : Int32) : Met l yX8_kept (wM yX8_kept cX8_kept 6 (some .int)) (rmD 2) (va_Pc [.ref (ad 0), .int p1, .int p2] (wPre D K ad (xG ad K mm) 132 xv0 xa0 xl0)) (vp_Si (fun r => r = (-2))) 0 0 (fun _ => False) := by
  refine x_met (by decide) (Nat.le_of_ble_eq_true rfl) ?_
  intro p e s m below meth c ls hE hr hlo hnm hB hl
  have hE : CallFix p m c cX8_kept 6 s _ tbG "TaleCourt" := hE
  obtain ⟨hP, hK, hN⟩ := hB
  have hS : va_S (inW ad 132) s.heap s.heap [] := va_S.rf
  have hl : lv_has ls 6 [(0, .ref (ad 0)), (1, .int p1), (2, .int p2)] := hl
  refine lv_aload_n hE.1 hE.2.1 dX8_kept_0 rfl (lv_at hl 0 rfl) ?_
  refine x_vp (nn := 0) (As := []) (rest := []) hE (k_X8_gameBar l D K ad mm ) wPre_blind (wPre_now hK hN hP) (x_recv hK hP 0 (by decide) (xG_8 rfl) rfl) rfl mw_1027 mw_1029 mw_30 mw_114 mw_1030 (by decide +kernel) ⟨by decide, by decide⟩ hl.1 rfl (by decide) ⟨Nat.zero_le _, Nat.zero_le _⟩ dX8_kept_1 (fun r hr => ?_)
  subst hr
  refine lv_istore_n (lv' := [(3, .int (-2)), (0, .ref (ad 0)), (1, .int p1), (2, .int p2)]) hE.1 hE.2.1 dX8_kept_4 rfl hl (by decide) rfl (fun ls hl => ?_)
  refine lv_iload_n hE.1 hE.2.1 dX8_kept_5 rfl (lv_at hl 0 rfl) ?_
  refine lv_if_eq (tgt := 11) hE.1 hE.2.1 dX8_kept_6 (by decide) (fun h => absurd h (by decide)) (fun _ => ?_)
  refine lv_iload_n hE.1 hE.2.1 dX8_kept_9 rfl (lv_at hl 0 rfl) ?_
  exact x_ri hE hr hlo rfl rfl dX8_kept_10

theorem dX8_trade_0 : decode cX8_trade 0 = .ok (.aload_n 0, 1) := by decide +kernel
theorem dX8_trade_1 : decode cX8_trade 1 = .ok (.invokevirtual 226, 3) := by decide +kernel
theorem dX8_trade_4 : decode cX8_trade 4 = .ok (.istore_n 1, 1) := by decide +kernel
theorem dX8_trade_5 : decode cX8_trade 5 = .ok (.iload_n 1, 1) := by decide +kernel
theorem dX8_trade_6 : decode cX8_trade 6 = .ok (.ifCond .eq 5, 3) := by decide +kernel
theorem dX8_trade_9 : decode cX8_trade 9 = .ok (.iload_n 1, 1) := by decide +kernel
theorem dX8_trade_10 : decode cX8_trade 10 = .ok (.ireturn, 1) := by decide +kernel
set_option maxHeartbeats 4000000 in
set_option maxRecDepth 100000 in
theorem k_X8_trade (l : Launch) (D : va_G) (K : Nat → ClassId) (ad : Nat → Nat) (mm : Option Nat) : Met l yX8_trade (wM yX8_trade cX8_trade 4 (some .int)) (rmD 2) (va_Pc [.ref (ad 0)] (wPre D K ad (xG ad K mm) 132 xv0 xa0 xl0)) (vp_Si (fun r => r = (-2))) 0 0 (fun _ => False) := by
  refine x_met (by decide) (Nat.le_of_ble_eq_true rfl) ?_
  intro p e s m below meth c ls hE hr hlo hnm hB hl
  have hE : CallFix p m c cX8_trade 4 s _ tbG "TaleCourt" := hE
  obtain ⟨hP, hK, hN⟩ := hB
  have hS : va_S (inW ad 132) s.heap s.heap [] := va_S.rf
  have hl : lv_has ls 4 [(0, .ref (ad 0))] := hl
  refine lv_aload_n hE.1 hE.2.1 dX8_trade_0 rfl (lv_at hl 0 rfl) ?_
  refine x_vp (nn := 0) (As := []) (rest := []) hE (k_X8_gameBar l D K ad mm ) wPre_blind (wPre_now hK hN hP) (x_recv hK hP 0 (by decide) (xG_8 rfl) rfl) rfl mw_1027 mw_1029 mw_30 mw_114 mw_1030 (by decide +kernel) ⟨by decide, by decide⟩ hl.1 rfl (by decide) ⟨Nat.zero_le _, Nat.zero_le _⟩ dX8_trade_1 (fun r hr => ?_)
  subst hr
  refine lv_istore_n (lv' := [(1, .int (-2)), (0, .ref (ad 0))]) hE.1 hE.2.1 dX8_trade_4 rfl hl (by decide) rfl (fun ls hl => ?_)
  refine lv_iload_n hE.1 hE.2.1 dX8_trade_5 rfl (lv_at hl 0 rfl) ?_
  refine lv_if_eq (tgt := 11) hE.1 hE.2.1 dX8_trade_6 (by decide) (fun h => absurd h (by decide)) (fun _ => ?_)
  refine lv_iload_n hE.1 hE.2.1 dX8_trade_9 rfl (lv_at hl 0 rfl) ?_
  exact x_ri hE hr hlo rfl rfl dX8_trade_10

theorem dX8_keeps_0 : decode cX8_keeps 0 = .ok (.aload_n 0, 1) := by decide +kernel
theorem dX8_keeps_1 : decode cX8_keeps 1 = .ok (.getfield 19, 3) := by decide +kernel
theorem dX8_keeps_4 : decode cX8_keeps 4 = .ok (.iload_n 1, 1) := by decide +kernel
theorem dX8_keeps_5 : decode cX8_keeps 5 = .ok (.invokevirtual 102, 3) := by decide +kernel
theorem dX8_keeps_8 : decode cX8_keeps 8 = .ok (.ifCond .eq 14, 3) := by decide +kernel
theorem dX8_keeps_22 : decode cX8_keeps 22 = .ok (.bipush (-2), 2) := by decide +kernel
theorem dX8_keeps_24 : decode cX8_keeps 24 = .ok (.ireturn, 1) := by decide +kernel
set_option maxHeartbeats 4000000 in
set_option maxRecDepth 100000 in
theorem k_X8_keeps (l : Launch) (D : va_G) (K : Nat → ClassId) (ad : Nat → Nat) (mm : Option Nat) (p1 : Int32) (p2 : Int32) : Met l yX8_keeps (wM yX8_keeps cX8_keeps 4 (some .int)) (rmD 1) (va_Pc [.ref (ad 0), .int p1, .int p2] (wPre D K ad (xG ad K mm) 132 xv0 xa0 xl0)) (vp_Si (fun r => r = (-2))) 0 0 (fun _ => False) := by
  refine x_met (by decide) (Nat.le_of_ble_eq_true rfl) ?_
  intro p e s m below meth c ls hE hr hlo hnm hB hl
  have hE : CallFix p m c cX8_keeps 4 s _ tbG "TaleCourt" := hE
  obtain ⟨hP, hK, hN⟩ := hB
  have hS : va_S (inW ad 132) s.heap s.heap [] := va_S.rf
  have hl : lv_has ls 4 [(0, .ref (ad 0)), (1, .int p1), (2, .int p2)] := hl
  refine lv_aload_n hE.1 hE.2.1 dX8_keeps_0 rfl (lv_at hl 0 rfl) ?_
  refine x_get (x := .ref (ad 3)) hE hK hP 0 (by decide) (xG_8 rfl) rfl hin8 1 (by decide) mw_481 rfl dX8_keeps_1 ?_
  refine lv_iload_n hE.1 hE.2.1 dX8_keeps_4 rfl (lv_at hl 1 rfl) ?_
  refine x_vp (nn := 1) (As := [.int p1]) (rest := []) hE (k_X1_hasMotif l D K ad mm p1) wPre_blind (wPre_now hK hN hP) (x_recv hK hP 3 (by decide) (xG_1 rfl) rfl) rfl mw_694 mw_695 mw_696 mw_116 mw_697 (by decide +kernel) ⟨by decide, by decide⟩ hl.1 rfl (by decide) ⟨Nat.zero_le _, Nat.zero_le _⟩ dX8_keeps_5 (fun r hr => ?_)
  subst hr
  refine lv_if_eq (tgt := 22) hE.1 hE.2.1 dX8_keeps_8 (by decide) (fun _ => ?_) (fun h => absurd (by decide) h)
  refine lv_bipush (v := (-2)) hE.1 hE.2.1 dX8_keeps_22 (by decide) ?_
  exact x_ri hE hr hlo rfl rfl dX8_keeps_24

theorem dX8_forbid_0 : decode cX8_forbid 0 = .ok (.aload_n 0, 1) := by decide +kernel
theorem dX8_forbid_1 : decode cX8_forbid 1 = .ok (.getfield 19, 3) := by decide +kernel
theorem dX8_forbid_4 : decode cX8_forbid 4 = .ok (.iload_n 1, 1) := by decide +kernel
theorem dX8_forbid_5 : decode cX8_forbid 5 = .ok (.invokevirtual 102, 3) := by decide +kernel
theorem dX8_forbid_8 : decode cX8_forbid 8 = .ok (.ifCond .eq 12, 3) := by decide +kernel
theorem dX8_forbid_20 : decode cX8_forbid 20 = .ok (.bipush (-2), 2) := by decide +kernel
theorem dX8_forbid_22 : decode cX8_forbid 22 = .ok (.ireturn, 1) := by decide +kernel
set_option maxHeartbeats 4000000 in
set_option maxRecDepth 100000 in
theorem k_X8_forbid (l : Launch) (D : va_G) (K : Nat → ClassId) (ad : Nat → Nat) (mm : Option Nat) (p1 : Int32) (p2 : Int32) : Met l yX8_forbid (wM yX8_forbid cX8_forbid 4 (some .int)) (rmD 1) (va_Pc [.ref (ad 0), .int p1, .int p2] (wPre D K ad (xG ad K mm) 132 xv0 xa0 xl0)) (vp_Si (fun r => r = (-2))) 0 0 (fun _ => False) := by
  refine x_met (by decide) (Nat.le_of_ble_eq_true rfl) ?_
  intro p e s m below meth c ls hE hr hlo hnm hB hl
  have hE : CallFix p m c cX8_forbid 4 s _ tbG "TaleCourt" := hE
  obtain ⟨hP, hK, hN⟩ := hB
  have hS : va_S (inW ad 132) s.heap s.heap [] := va_S.rf
  have hl : lv_has ls 4 [(0, .ref (ad 0)), (1, .int p1), (2, .int p2)] := hl
  refine lv_aload_n hE.1 hE.2.1 dX8_forbid_0 rfl (lv_at hl 0 rfl) ?_
  refine x_get (x := .ref (ad 3)) hE hK hP 0 (by decide) (xG_8 rfl) rfl hin8 1 (by decide) mw_481 rfl dX8_forbid_1 ?_
  refine lv_iload_n hE.1 hE.2.1 dX8_forbid_4 rfl (lv_at hl 1 rfl) ?_
  refine x_vp (nn := 1) (As := [.int p1]) (rest := []) hE (k_X1_hasMotif l D K ad mm p1) wPre_blind (wPre_now hK hN hP) (x_recv hK hP 3 (by decide) (xG_1 rfl) rfl) rfl mw_694 mw_695 mw_696 mw_116 mw_697 (by decide +kernel) ⟨by decide, by decide⟩ hl.1 rfl (by decide) ⟨Nat.zero_le _, Nat.zero_le _⟩ dX8_forbid_5 (fun r hr => ?_)
  subst hr
  refine lv_if_eq (tgt := 20) hE.1 hE.2.1 dX8_forbid_8 (by decide) (fun _ => ?_) (fun h => absurd (by decide) h)
  refine lv_bipush (v := (-2)) hE.1 hE.2.1 dX8_forbid_20 (by decide) ?_
  exact x_ri hE hr hlo rfl rfl dX8_forbid_22

theorem dX8_around_0 : decode cX8_around 0 = .ok (.aload_n 0, 1) := by decide +kernel
theorem dX8_around_1 : decode cX8_around 1 = .ok (.iload_n 1, 1) := by decide +kernel
theorem dX8_around_2 : decode cX8_around 2 = .ok (.invokevirtual 220, 3) := by decide +kernel
theorem dX8_around_5 : decode cX8_around 5 = .ok (.ireturn, 1) := by decide +kernel
set_option maxHeartbeats 4000000 in
set_option maxRecDepth 100000 in
theorem k_X8_around (l : Launch) (D : va_G) (K : Nat → ClassId) (ad : Nat → Nat) (mm : Option Nat) (p1 : Int32) : Met l yX8_around (wM yX8_around cX8_around 2 (some .int)) (rmD 2) (va_Pc [.ref (ad 0), .int p1] (wPre D K ad (xG ad K mm) 132 xv0 xa0 xl0)) (vp_Si (fun r => r = (-2))) 0 0 (fun _ => False) := by
  refine x_met (by decide) (Nat.le_of_ble_eq_true rfl) ?_
  intro p e s m below meth c ls hE hr hlo hnm hB hl
  have hE : CallFix p m c cX8_around 2 s _ tbG "TaleCourt" := hE
  obtain ⟨hP, hK, hN⟩ := hB
  have hS : va_S (inW ad 132) s.heap s.heap [] := va_S.rf
  have hl : lv_has ls 2 [(0, .ref (ad 0)), (1, .int p1)] := hl
  refine lv_aload_n hE.1 hE.2.1 dX8_around_0 rfl (lv_at hl 0 rfl) ?_
  refine lv_iload_n hE.1 hE.2.1 dX8_around_1 rfl (lv_at hl 1 rfl) ?_
  refine x_vp (nn := 1) (As := [.int p1]) (rest := []) hE (k_X8_ends l D K ad mm p1) wPre_blind (wPre_now hK hN hP) (x_recv hK hP 0 (by decide) (xG_8 rfl) rfl) rfl mw_1010 mw_999 mw_1000 mw_114 mw_1001 (by decide +kernel) ⟨by decide, by decide⟩ hl.1 rfl (by decide) ⟨Nat.zero_le _, Nat.zero_le _⟩ dX8_around_2 (fun r hr => ?_)
  subst hr
  exact x_ri hE hr hlo rfl rfl dX8_around_5

theorem dX8_blunder_0 : decode cX8_blunder 0 = .ok (.aload_n 0, 1) := by decide +kernel
theorem dX8_blunder_1 : decode cX8_blunder 1 = .ok (.invokevirtual 226, 3) := by decide +kernel
theorem dX8_blunder_4 : decode cX8_blunder 4 = .ok (.istore_n 1, 1) := by decide +kernel
theorem dX8_blunder_5 : decode cX8_blunder 5 = .ok (.iload_n 1, 1) := by decide +kernel
theorem dX8_blunder_6 : decode cX8_blunder 6 = .ok (.ifCond .eq 5, 3) := by decide +kernel
theorem dX8_blunder_9 : decode cX8_blunder 9 = .ok (.iload_n 1, 1) := by decide +kernel
theorem dX8_blunder_10 : decode cX8_blunder 10 = .ok (.ireturn, 1) := by decide +kernel
set_option maxHeartbeats 4000000 in
set_option maxRecDepth 100000 in
theorem k_X8_blunder (l : Launch) (D : va_G) (K : Nat → ClassId) (ad : Nat → Nat) (mm : Option Nat) : Met l yX8_blunder (wM yX8_blunder cX8_blunder 2 (some .int)) (rmD 2) (va_Pc [.ref (ad 0)] (wPre D K ad (xG ad K mm) 132 xv0 xa0 xl0)) (vp_Si (fun r => r = (-2))) 0 0 (fun _ => False) := by
  refine x_met (by decide) (Nat.le_of_ble_eq_true rfl) ?_
  intro p e s m below meth c ls hE hr hlo hnm hB hl
  have hE : CallFix p m c cX8_blunder 2 s _ tbG "TaleCourt" := hE
  obtain ⟨hP, hK, hN⟩ := hB
  have hS : va_S (inW ad 132) s.heap s.heap [] := va_S.rf
  have hl : lv_has ls 2 [(0, .ref (ad 0))] := hl
  refine lv_aload_n hE.1 hE.2.1 dX8_blunder_0 rfl (lv_at hl 0 rfl) ?_
  refine x_vp (nn := 0) (As := []) (rest := []) hE (k_X8_gameBar l D K ad mm ) wPre_blind (wPre_now hK hN hP) (x_recv hK hP 0 (by decide) (xG_8 rfl) rfl) rfl mw_1027 mw_1029 mw_30 mw_114 mw_1030 (by decide +kernel) ⟨by decide, by decide⟩ hl.1 rfl (by decide) ⟨Nat.zero_le _, Nat.zero_le _⟩ dX8_blunder_1 (fun r hr => ?_)
  subst hr
  refine lv_istore_n (lv' := [(1, .int (-2)), (0, .ref (ad 0))]) hE.1 hE.2.1 dX8_blunder_4 rfl hl (by decide) rfl (fun ls hl => ?_)
  refine lv_iload_n hE.1 hE.2.1 dX8_blunder_5 rfl (lv_at hl 0 rfl) ?_
  refine lv_if_eq (tgt := 11) hE.1 hE.2.1 dX8_blunder_6 (by decide) (fun h => absurd h (by decide)) (fun _ => ?_)
  refine lv_iload_n hE.1 hE.2.1 dX8_blunder_9 rfl (lv_at hl 0 rfl) ?_
  exact x_ri hE hr hlo rfl rfl dX8_blunder_10

theorem dX8_lack_0 : decode cX8_lack 0 = .ok (.aload_n 0, 1) := by decide +kernel
theorem dX8_lack_1 : decode cX8_lack 1 = .ok (.getfield 19, 3) := by decide +kernel
theorem dX8_lack_4 : decode cX8_lack 4 = .ok (.iload_n 1, 1) := by decide +kernel
theorem dX8_lack_5 : decode cX8_lack 5 = .ok (.invokevirtual 102, 3) := by decide +kernel
theorem dX8_lack_8 : decode cX8_lack 8 = .ok (.ifCond .eq 19, 3) := by decide +kernel
theorem dX8_lack_27 : decode cX8_lack 27 = .ok (.bipush (-2), 2) := by decide +kernel
theorem dX8_lack_29 : decode cX8_lack 29 = .ok (.ireturn, 1) := by decide +kernel
set_option maxHeartbeats 4000000 in
set_option maxRecDepth 100000 in
theorem k_X8_lack (l : Launch) (D : va_G) (K : Nat → ClassId) (ad : Nat → Nat) (mm : Option Nat) (p1 : Int32) : Met l yX8_lack (wM yX8_lack cX8_lack 2 (some .int)) (rmD 1) (va_Pc [.ref (ad 0), .int p1] (wPre D K ad (xG ad K mm) 132 xv0 xa0 xl0)) (vp_Si (fun r => r = (-2))) 0 0 (fun _ => False) := by
  refine x_met (by decide) (Nat.le_of_ble_eq_true rfl) ?_
  intro p e s m below meth c ls hE hr hlo hnm hB hl
  have hE : CallFix p m c cX8_lack 2 s _ tbG "TaleCourt" := hE
  obtain ⟨hP, hK, hN⟩ := hB
  have hS : va_S (inW ad 132) s.heap s.heap [] := va_S.rf
  have hl : lv_has ls 2 [(0, .ref (ad 0)), (1, .int p1)] := hl
  refine lv_aload_n hE.1 hE.2.1 dX8_lack_0 rfl (lv_at hl 0 rfl) ?_
  refine x_get (x := .ref (ad 3)) hE hK hP 0 (by decide) (xG_8 rfl) rfl hin8 1 (by decide) mw_481 rfl dX8_lack_1 ?_
  refine lv_iload_n hE.1 hE.2.1 dX8_lack_4 rfl (lv_at hl 1 rfl) ?_
  refine x_vp (nn := 1) (As := [.int p1]) (rest := []) hE (k_X1_hasMotif l D K ad mm p1) wPre_blind (wPre_now hK hN hP) (x_recv hK hP 3 (by decide) (xG_1 rfl) rfl) rfl mw_694 mw_695 mw_696 mw_116 mw_697 (by decide +kernel) ⟨by decide, by decide⟩ hl.1 rfl (by decide) ⟨Nat.zero_le _, Nat.zero_le _⟩ dX8_lack_5 (fun r hr => ?_)
  subst hr
  refine lv_if_eq (tgt := 27) hE.1 hE.2.1 dX8_lack_8 (by decide) (fun _ => ?_) (fun h => absurd (by decide) h)
  refine lv_bipush (v := (-2)) hE.1 hE.2.1 dX8_lack_27 (by decide) ?_
  exact x_ri hE hr hlo rfl rfl dX8_lack_29

theorem dX8_crux_0 : decode cX8_crux 0 = .ok (.aload_n 0, 1) := by decide +kernel
theorem dX8_crux_1 : decode cX8_crux 1 = .ok (.getfield 19, 3) := by decide +kernel
theorem dX8_crux_4 : decode cX8_crux 4 = .ok (.invokevirtual 157, 3) := by decide +kernel
theorem dX8_crux_7 : decode cX8_crux 7 = .ok (.ifCond .ne 6, 3) := by decide +kernel
theorem dX8_crux_10 : decode cX8_crux 10 = .ok (.bipush (-2), 2) := by decide +kernel
theorem dX8_crux_12 : decode cX8_crux 12 = .ok (.ireturn, 1) := by decide +kernel
set_option maxHeartbeats 4000000 in
set_option maxRecDepth 100000 in
theorem k_X8_crux (l : Launch) (D : va_G) (K : Nat → ClassId) (ad : Nat → Nat) (mm : Option Nat) : Met l yX8_crux (wM yX8_crux cX8_crux 5 (some .int)) (rmD 1) (va_Pc [.ref (ad 0)] (wPre D K ad (xG ad K mm) 132 xv0 xa0 xl0)) (vp_Si (fun r => r = (-2))) 0 0 (fun _ => False) := by
  refine x_met (by decide) (Nat.le_of_ble_eq_true rfl) ?_
  intro p e s m below meth c ls hE hr hlo hnm hB hl
  have hE : CallFix p m c cX8_crux 5 s _ tbG "TaleCourt" := hE
  obtain ⟨hP, hK, hN⟩ := hB
  have hS : va_S (inW ad 132) s.heap s.heap [] := va_S.rf
  have hl : lv_has ls 5 [(0, .ref (ad 0))] := hl
  refine lv_aload_n hE.1 hE.2.1 dX8_crux_0 rfl (lv_at hl 0 rfl) ?_
  refine x_get (x := .ref (ad 3)) hE hK hP 0 (by decide) (xG_8 rfl) rfl hin8 1 (by decide) mw_481 rfl dX8_crux_1 ?_
  refine x_vp (nn := 0) (As := []) (rest := []) hE (k_X1_stands l D K ad mm ) wPre_blind (wPre_now hK hN hP) (x_recv hK hP 3 (by decide) (xG_1 rfl) rfl) rfl mw_788 mw_789 mw_790 mw_116 mw_791 (by decide +kernel) ⟨by decide, by decide⟩ hl.1 rfl (by decide) ⟨Nat.zero_le _, Nat.zero_le _⟩ dX8_crux_4 (fun r hr => ?_)
  subst hr
  refine lv_if_ne (tgt := 13) hE.1 hE.2.1 dX8_crux_7 (by decide) (fun h => absurd (by decide) h) (fun _ => ?_)
  refine lv_bipush (v := (-2)) hE.1 hE.2.1 dX8_crux_10 (by decide) ?_
  exact x_ri hE hr hlo rfl rfl dX8_crux_12

theorem dX8_cost_0 : decode cX8_cost 0 = .ok (.aload_n 0, 1) := by decide +kernel
theorem dX8_cost_1 : decode cX8_cost 1 = .ok (.getfield 19, 3) := by decide +kernel
theorem dX8_cost_4 : decode cX8_cost 4 = .ok (.iload_n 1, 1) := by decide +kernel
theorem dX8_cost_5 : decode cX8_cost 5 = .ok (.invokevirtual 102, 3) := by decide +kernel
theorem dX8_cost_8 : decode cX8_cost 8 = .ok (.ifCond .ne 6, 3) := by decide +kernel
theorem dX8_cost_11 : decode cX8_cost 11 = .ok (.bipush (-2), 2) := by decide +kernel
theorem dX8_cost_13 : decode cX8_cost 13 = .ok (.ireturn, 1) := by decide +kernel
set_option maxHeartbeats 4000000 in
set_option maxRecDepth 100000 in
theorem k_X8_cost (l : Launch) (D : va_G) (K : Nat → ClassId) (ad : Nat → Nat) (mm : Option Nat) (p1 : Int32) : Met l yX8_cost (wM yX8_cost cX8_cost 4 (some .int)) (rmD 1) (va_Pc [.ref (ad 0), .int p1] (wPre D K ad (xG ad K mm) 132 xv0 xa0 xl0)) (vp_Si (fun r => r = (-2))) 0 0 (fun _ => False) := by
  refine x_met (by decide) (Nat.le_of_ble_eq_true rfl) ?_
  intro p e s m below meth c ls hE hr hlo hnm hB hl
  have hE : CallFix p m c cX8_cost 4 s _ tbG "TaleCourt" := hE
  obtain ⟨hP, hK, hN⟩ := hB
  have hS : va_S (inW ad 132) s.heap s.heap [] := va_S.rf
  have hl : lv_has ls 4 [(0, .ref (ad 0)), (1, .int p1)] := hl
  refine lv_aload_n hE.1 hE.2.1 dX8_cost_0 rfl (lv_at hl 0 rfl) ?_
  refine x_get (x := .ref (ad 3)) hE hK hP 0 (by decide) (xG_8 rfl) rfl hin8 1 (by decide) mw_481 rfl dX8_cost_1 ?_
  refine lv_iload_n hE.1 hE.2.1 dX8_cost_4 rfl (lv_at hl 1 rfl) ?_
  refine x_vp (nn := 1) (As := [.int p1]) (rest := []) hE (k_X1_hasMotif l D K ad mm p1) wPre_blind (wPre_now hK hN hP) (x_recv hK hP 3 (by decide) (xG_1 rfl) rfl) rfl mw_694 mw_695 mw_696 mw_116 mw_697 (by decide +kernel) ⟨by decide, by decide⟩ hl.1 rfl (by decide) ⟨Nat.zero_le _, Nat.zero_le _⟩ dX8_cost_5 (fun r hr => ?_)
  subst hr
  refine lv_if_ne (tgt := 14) hE.1 hE.2.1 dX8_cost_8 (by decide) (fun h => absurd (by decide) h) (fun _ => ?_)
  refine lv_bipush (v := (-2)) hE.1 hE.2.1 dX8_cost_11 (by decide) ?_
  exact x_ri hE hr hlo rfl rfl dX8_cost_13

theorem dX8_judge_0 : decode cX8_judge 0 = .ok (.aload_n 0, 1) := by decide +kernel
theorem dX8_judge_1 : decode cX8_judge 1 = .ok (.iload_n 1, 1) := by decide +kernel
theorem dX8_judge_2 : decode cX8_judge 2 = .ok (.invokevirtual 264, 3) := by decide +kernel
theorem dX8_judge_5 : decode cX8_judge 5 = .ok (.istore_n 2, 1) := by decide +kernel
theorem dX8_judge_6 : decode cX8_judge 6 = .ok (.iload_n 2, 1) := by decide +kernel
theorem dX8_judge_7 : decode cX8_judge 7 = .ok (.ifCond .eq 5, 3) := by decide +kernel
theorem dX8_judge_10 : decode cX8_judge 10 = .ok (.iload_n 2, 1) := by decide +kernel
theorem dX8_judge_11 : decode cX8_judge 11 = .ok (.ireturn, 1) := by decide +kernel
set_option maxHeartbeats 4000000 in
set_option maxRecDepth 100000 in
theorem k_X8_judge (l : Launch) (D : va_G) (K : Nat → ClassId) (ad : Nat → Nat) (mm : Option Nat) (p1 : Int32) : Met l yX8_judge (wM yX8_judge cX8_judge 3 (some .int)) (rmD 2) (va_Pc [.ref (ad 0), .int p1] (wPre D K ad (xG ad K mm) 132 xv0 xa0 xl0)) (vp_Si (fun r => r = (-2))) 0 0 (fun _ => False) := by
  refine x_met (by decide) (Nat.le_of_ble_eq_true rfl) ?_
  intro p e s m below meth c ls hE hr hlo hnm hB hl
  have hE : CallFix p m c cX8_judge 3 s _ tbG "TaleCourt" := hE
  obtain ⟨hP, hK, hN⟩ := hB
  have hS : va_S (inW ad 132) s.heap s.heap [] := va_S.rf
  have hl : lv_has ls 3 [(0, .ref (ad 0)), (1, .int p1)] := hl
  refine lv_aload_n hE.1 hE.2.1 dX8_judge_0 rfl (lv_at hl 0 rfl) ?_
  refine lv_iload_n hE.1 hE.2.1 dX8_judge_1 rfl (lv_at hl 1 rfl) ?_
  refine x_vp (nn := 1) (As := [.int p1]) (rest := []) hE (k_X8_slotBar l D K ad mm p1) wPre_blind (wPre_now hK hN hP) (x_recv hK hP 0 (by decide) (xG_8 rfl) rfl) rfl mw_1130 mw_1132 mw_36 mw_114 mw_1133 (by decide +kernel) ⟨by decide, by decide⟩ hl.1 rfl (by decide) ⟨Nat.zero_le _, Nat.zero_le _⟩ dX8_judge_2 (fun r hr => ?_)
  subst hr
  refine lv_istore_n (lv' := [(2, .int (-2)), (0, .ref (ad 0)), (1, .int p1)]) hE.1 hE.2.1 dX8_judge_5 rfl hl (by decide) rfl (fun ls hl => ?_)
  refine lv_iload_n hE.1 hE.2.1 dX8_judge_6 rfl (lv_at hl 0 rfl) ?_
  refine lv_if_eq (tgt := 12) hE.1 hE.2.1 dX8_judge_7 (by decide) (fun h => absurd h (by decide)) (fun _ => ?_)
  refine lv_iload_n hE.1 hE.2.1 dX8_judge_10 rfl (lv_at hl 0 rfl) ?_
  exact x_ri hE hr hlo rfl rfl dX8_judge_11

theorem dX8_verdict_0 : decode cX8_verdict 0 = .ok (.aload_n 0, 1) := by decide +kernel
theorem dX8_verdict_1 : decode cX8_verdict 1 = .ok (.iload_n 1, 1) := by decide +kernel
theorem dX8_verdict_2 : decode cX8_verdict 2 = .ok (.invokevirtual 264, 3) := by decide +kernel
theorem dX8_verdict_5 : decode cX8_verdict 5 = .ok (.istore_n 2, 1) := by decide +kernel
theorem dX8_verdict_6 : decode cX8_verdict 6 = .ok (.iload_n 2, 1) := by decide +kernel
theorem dX8_verdict_7 : decode cX8_verdict 7 = .ok (.ifCond .eq 7, 3) := by decide +kernel
theorem dX8_verdict_10 : decode cX8_verdict 10 = .ok (.iload_n 2, 1) := by decide +kernel
theorem dX8_verdict_11 : decode cX8_verdict 11 = .ok (.goto 13, 3) := by decide +kernel
theorem dX8_verdict_24 : decode cX8_verdict 24 = .ok (.ireturn, 1) := by decide +kernel
set_option maxHeartbeats 4000000 in
set_option maxRecDepth 100000 in
theorem k_X8_verdict (l : Launch) (D : va_G) (K : Nat → ClassId) (ad : Nat → Nat) (mm : Option Nat) (p1 : Int32) : Met l yX8_verdict (wM yX8_verdict cX8_verdict 3 (some .int)) (rmD 2) (va_Pc [.ref (ad 0), .int p1] (wPre D K ad (xG ad K mm) 132 xv0 xa0 xl0)) (vp_Si (fun r => r = (-2))) 0 0 (fun _ => False) := by
  refine x_met (by decide) (Nat.le_of_ble_eq_true rfl) ?_
  intro p e s m below meth c ls hE hr hlo hnm hB hl
  have hE : CallFix p m c cX8_verdict 3 s _ tbG "TaleCourt" := hE
  obtain ⟨hP, hK, hN⟩ := hB
  have hS : va_S (inW ad 132) s.heap s.heap [] := va_S.rf
  have hl : lv_has ls 3 [(0, .ref (ad 0)), (1, .int p1)] := hl
  refine lv_aload_n hE.1 hE.2.1 dX8_verdict_0 rfl (lv_at hl 0 rfl) ?_
  refine lv_iload_n hE.1 hE.2.1 dX8_verdict_1 rfl (lv_at hl 1 rfl) ?_
  refine x_vp (nn := 1) (As := [.int p1]) (rest := []) hE (k_X8_slotBar l D K ad mm p1) wPre_blind (wPre_now hK hN hP) (x_recv hK hP 0 (by decide) (xG_8 rfl) rfl) rfl mw_1130 mw_1132 mw_36 mw_114 mw_1133 (by decide +kernel) ⟨by decide, by decide⟩ hl.1 rfl (by decide) ⟨Nat.zero_le _, Nat.zero_le _⟩ dX8_verdict_2 (fun r hr => ?_)
  subst hr
  refine lv_istore_n (lv' := [(2, .int (-2)), (0, .ref (ad 0)), (1, .int p1)]) hE.1 hE.2.1 dX8_verdict_5 rfl hl (by decide) rfl (fun ls hl => ?_)
  refine lv_iload_n hE.1 hE.2.1 dX8_verdict_6 rfl (lv_at hl 0 rfl) ?_
  refine lv_if_eq (tgt := 14) hE.1 hE.2.1 dX8_verdict_7 (by decide) (fun h => absurd h (by decide)) (fun _ => ?_)
  refine lv_iload_n hE.1 hE.2.1 dX8_verdict_10 rfl (lv_at hl 0 rfl) ?_
  refine lv_goto (tgt := 24) hE.1 hE.2.1 dX8_verdict_11 (by decide) ?_
  exact x_ri hE hr hlo rfl rfl dX8_verdict_24

theorem dX8_lies_0 : decode cX8_lies 0 = .ok (.aload_n 0, 1) := by decide +kernel
theorem dX8_lies_1 : decode cX8_lies 1 = .ok (.iload_n 1, 1) := by decide +kernel
theorem dX8_lies_2 : decode cX8_lies 2 = .ok (.iconst 2, 1) := by decide +kernel
theorem dX8_lies_3 : decode cX8_lies 3 = .ok (.invokevirtual 289, 3) := by decide +kernel
theorem dX8_lies_6 : decode cX8_lies 6 = .ok (.istore_n 2, 1) := by decide +kernel
theorem dX8_lies_7 : decode cX8_lies 7 = .ok (.iload_n 2, 1) := by decide +kernel
theorem dX8_lies_8 : decode cX8_lies 8 = .ok (.ifCond .eq 5, 3) := by decide +kernel
theorem dX8_lies_11 : decode cX8_lies 11 = .ok (.iload_n 2, 1) := by decide +kernel
theorem dX8_lies_12 : decode cX8_lies 12 = .ok (.ireturn, 1) := by decide +kernel
set_option maxHeartbeats 4000000 in
set_option maxRecDepth 100000 in
theorem k_X8_lies (l : Launch) (D : va_G) (K : Nat → ClassId) (ad : Nat → Nat) (mm : Option Nat) (p1 : Int32) : Met l yX8_lies (wM yX8_lies cX8_lies 3 (some .int)) (rmD 3) (va_Pc [.ref (ad 0), .int p1] (wPre D K ad (xG ad K mm) 132 xv0 xa0 xl0)) (vp_Si (fun r => r = (-2))) 0 0 (fun _ => False) := by
  refine x_met (by decide) (Nat.le_of_ble_eq_true rfl) ?_
  intro p e s m below meth c ls hE hr hlo hnm hB hl
  have hE : CallFix p m c cX8_lies 3 s _ tbG "TaleCourt" := hE
  obtain ⟨hP, hK, hN⟩ := hB
  have hS : va_S (inW ad 132) s.heap s.heap [] := va_S.rf
  have hl : lv_has ls 3 [(0, .ref (ad 0)), (1, .int p1)] := hl
  refine lv_aload_n hE.1 hE.2.1 dX8_lies_0 rfl (lv_at hl 0 rfl) ?_
  refine lv_iload_n hE.1 hE.2.1 dX8_lies_1 rfl (lv_at hl 1 rfl) ?_
  refine lv_iconst (v := 2) hE.1 hE.2.1 dX8_lies_2 (by decide) ?_
  refine x_vp (nn := 2) (As := [.int p1, .int 2]) (rest := []) hE (k_X8_claimsBar l D K ad mm p1 2) wPre_blind (wPre_now hK hN hP) (x_recv hK hP 0 (by decide) (xG_8 rfl) rfl) rfl mw_1159 mw_1161 mw_39 mw_114 mw_1162 (by decide +kernel) ⟨by decide, by decide⟩ hl.1 rfl (by decide) ⟨Nat.zero_le _, Nat.zero_le _⟩ dX8_lies_3 (fun r hr => ?_)
  subst hr
  refine lv_istore_n (lv' := [(2, .int (-2)), (0, .ref (ad 0)), (1, .int p1)]) hE.1 hE.2.1 dX8_lies_6 rfl hl (by decide) rfl (fun ls hl => ?_)
  refine lv_iload_n hE.1 hE.2.1 dX8_lies_7 rfl (lv_at hl 0 rfl) ?_
  refine lv_if_eq (tgt := 13) hE.1 hE.2.1 dX8_lies_8 (by decide) (fun h => absurd h (by decide)) (fun _ => ?_)
  refine lv_iload_n hE.1 hE.2.1 dX8_lies_11 rfl (lv_at hl 0 rfl) ?_
  exact x_ri hE hr hlo rfl rfl dX8_lies_12

theorem dX8_orders_0 : decode cX8_orders 0 = .ok (.aload_n 0, 1) := by decide +kernel
theorem dX8_orders_1 : decode cX8_orders 1 = .ok (.iload_n 1, 1) := by decide +kernel
theorem dX8_orders_2 : decode cX8_orders 2 = .ok (.iconst 2, 1) := by decide +kernel
theorem dX8_orders_3 : decode cX8_orders 3 = .ok (.invokevirtual 289, 3) := by decide +kernel
theorem dX8_orders_6 : decode cX8_orders 6 = .ok (.istore_n 2, 1) := by decide +kernel
theorem dX8_orders_7 : decode cX8_orders 7 = .ok (.iload_n 2, 1) := by decide +kernel
theorem dX8_orders_8 : decode cX8_orders 8 = .ok (.ifCond .eq 5, 3) := by decide +kernel
theorem dX8_orders_11 : decode cX8_orders 11 = .ok (.iload_n 2, 1) := by decide +kernel
theorem dX8_orders_12 : decode cX8_orders 12 = .ok (.ireturn, 1) := by decide +kernel
set_option maxHeartbeats 4000000 in
set_option maxRecDepth 100000 in
theorem k_X8_orders (l : Launch) (D : va_G) (K : Nat → ClassId) (ad : Nat → Nat) (mm : Option Nat) (p1 : Int32) : Met l yX8_orders (wM yX8_orders cX8_orders 3 (some .int)) (rmD 3) (va_Pc [.ref (ad 0), .int p1] (wPre D K ad (xG ad K mm) 132 xv0 xa0 xl0)) (vp_Si (fun r => r = (-2))) 0 0 (fun _ => False) := by
  refine x_met (by decide) (Nat.le_of_ble_eq_true rfl) ?_
  intro p e s m below meth c ls hE hr hlo hnm hB hl
  have hE : CallFix p m c cX8_orders 3 s _ tbG "TaleCourt" := hE
  obtain ⟨hP, hK, hN⟩ := hB
  have hS : va_S (inW ad 132) s.heap s.heap [] := va_S.rf
  have hl : lv_has ls 3 [(0, .ref (ad 0)), (1, .int p1)] := hl
  refine lv_aload_n hE.1 hE.2.1 dX8_orders_0 rfl (lv_at hl 0 rfl) ?_
  refine lv_iload_n hE.1 hE.2.1 dX8_orders_1 rfl (lv_at hl 1 rfl) ?_
  refine lv_iconst (v := 2) hE.1 hE.2.1 dX8_orders_2 (by decide) ?_
  refine x_vp (nn := 2) (As := [.int p1, .int 2]) (rest := []) hE (k_X8_claimsBar l D K ad mm p1 2) wPre_blind (wPre_now hK hN hP) (x_recv hK hP 0 (by decide) (xG_8 rfl) rfl) rfl mw_1159 mw_1161 mw_39 mw_114 mw_1162 (by decide +kernel) ⟨by decide, by decide⟩ hl.1 rfl (by decide) ⟨Nat.zero_le _, Nat.zero_le _⟩ dX8_orders_3 (fun r hr => ?_)
  subst hr
  refine lv_istore_n (lv' := [(2, .int (-2)), (0, .ref (ad 0)), (1, .int p1)]) hE.1 hE.2.1 dX8_orders_6 rfl hl (by decide) rfl (fun ls hl => ?_)
  refine lv_iload_n hE.1 hE.2.1 dX8_orders_7 rfl (lv_at hl 0 rfl) ?_
  refine lv_if_eq (tgt := 13) hE.1 hE.2.1 dX8_orders_8 (by decide) (fun h => absurd h (by decide)) (fun _ => ?_)
  refine lv_iload_n hE.1 hE.2.1 dX8_orders_11 rfl (lv_at hl 0 rfl) ?_
  exact x_ri hE hr hlo rfl rfl dX8_orders_12

theorem dX8_fits_0 : decode cX8_fits 0 = .ok (.aload_n 0, 1) := by decide +kernel
theorem dX8_fits_1 : decode cX8_fits 1 = .ok (.iload_n 1, 1) := by decide +kernel
theorem dX8_fits_2 : decode cX8_fits 2 = .ok (.iconst 2, 1) := by decide +kernel
theorem dX8_fits_3 : decode cX8_fits 3 = .ok (.invokevirtual 289, 3) := by decide +kernel
theorem dX8_fits_6 : decode cX8_fits 6 = .ok (.istore_n 2, 1) := by decide +kernel
theorem dX8_fits_7 : decode cX8_fits 7 = .ok (.iload_n 2, 1) := by decide +kernel
theorem dX8_fits_8 : decode cX8_fits 8 = .ok (.ifCond .eq 5, 3) := by decide +kernel
theorem dX8_fits_11 : decode cX8_fits 11 = .ok (.iload_n 2, 1) := by decide +kernel
theorem dX8_fits_12 : decode cX8_fits 12 = .ok (.ireturn, 1) := by decide +kernel
set_option maxHeartbeats 4000000 in
set_option maxRecDepth 100000 in
theorem k_X8_fits (l : Launch) (D : va_G) (K : Nat → ClassId) (ad : Nat → Nat) (mm : Option Nat) (p1 : Int32) : Met l yX8_fits (wM yX8_fits cX8_fits 3 (some .int)) (rmD 3) (va_Pc [.ref (ad 0), .int p1] (wPre D K ad (xG ad K mm) 132 xv0 xa0 xl0)) (vp_Si (fun r => r = (-2))) 0 0 (fun _ => False) := by
  refine x_met (by decide) (Nat.le_of_ble_eq_true rfl) ?_
  intro p e s m below meth c ls hE hr hlo hnm hB hl
  have hE : CallFix p m c cX8_fits 3 s _ tbG "TaleCourt" := hE
  obtain ⟨hP, hK, hN⟩ := hB
  have hS : va_S (inW ad 132) s.heap s.heap [] := va_S.rf
  have hl : lv_has ls 3 [(0, .ref (ad 0)), (1, .int p1)] := hl
  refine lv_aload_n hE.1 hE.2.1 dX8_fits_0 rfl (lv_at hl 0 rfl) ?_
  refine lv_iload_n hE.1 hE.2.1 dX8_fits_1 rfl (lv_at hl 1 rfl) ?_
  refine lv_iconst (v := 2) hE.1 hE.2.1 dX8_fits_2 (by decide) ?_
  refine x_vp (nn := 2) (As := [.int p1, .int 2]) (rest := []) hE (k_X8_claimsBar l D K ad mm p1 2) wPre_blind (wPre_now hK hN hP) (x_recv hK hP 0 (by decide) (xG_8 rfl) rfl) rfl mw_1159 mw_1161 mw_39 mw_114 mw_1162 (by decide +kernel) ⟨by decide, by decide⟩ hl.1 rfl (by decide) ⟨Nat.zero_le _, Nat.zero_le _⟩ dX8_fits_3 (fun r hr => ?_)
  subst hr
  refine lv_istore_n (lv' := [(2, .int (-2)), (0, .ref (ad 0)), (1, .int p1)]) hE.1 hE.2.1 dX8_fits_6 rfl hl (by decide) rfl (fun ls hl => ?_)
  refine lv_iload_n hE.1 hE.2.1 dX8_fits_7 rfl (lv_at hl 0 rfl) ?_
  refine lv_if_eq (tgt := 13) hE.1 hE.2.1 dX8_fits_8 (by decide) (fun h => absurd h (by decide)) (fun _ => ?_)
  refine lv_iload_n hE.1 hE.2.1 dX8_fits_11 rfl (lv_at hl 0 rfl) ?_
  exact x_ri hE hr hlo rfl rfl dX8_fits_12

theorem dX8_liars_0 : decode cX8_liars 0 = .ok (.aload_n 0, 1) := by decide +kernel
theorem dX8_liars_1 : decode cX8_liars 1 = .ok (.iload_n 1, 1) := by decide +kernel
theorem dX8_liars_2 : decode cX8_liars 2 = .ok (.iconst 3, 1) := by decide +kernel
theorem dX8_liars_3 : decode cX8_liars 3 = .ok (.invokevirtual 289, 3) := by decide +kernel
theorem dX8_liars_6 : decode cX8_liars 6 = .ok (.istore_n 2, 1) := by decide +kernel
theorem dX8_liars_7 : decode cX8_liars 7 = .ok (.iload_n 2, 1) := by decide +kernel
theorem dX8_liars_8 : decode cX8_liars 8 = .ok (.ifCond .eq 7, 3) := by decide +kernel
theorem dX8_liars_11 : decode cX8_liars 11 = .ok (.iload_n 2, 1) := by decide +kernel
theorem dX8_liars_12 : decode cX8_liars 12 = .ok (.goto 20, 3) := by decide +kernel
theorem dX8_liars_32 : decode cX8_liars 32 = .ok (.ireturn, 1) := by decide +kernel
set_option maxHeartbeats 4000000 in
set_option maxRecDepth 100000 in
theorem k_X8_liars (l : Launch) (D : va_G) (K : Nat → ClassId) (ad : Nat → Nat) (mm : Option Nat) (p1 : Int32) : Met l yX8_liars (wM yX8_liars cX8_liars 3 (some .int)) (rmD 3) (va_Pc [.ref (ad 0), .int p1] (wPre D K ad (xG ad K mm) 132 xv0 xa0 xl0)) (vp_Si (fun r => r = (-2))) 0 0 (fun _ => False) := by
  refine x_met (by decide) (Nat.le_of_ble_eq_true rfl) ?_
  intro p e s m below meth c ls hE hr hlo hnm hB hl
  have hE : CallFix p m c cX8_liars 3 s _ tbG "TaleCourt" := hE
  obtain ⟨hP, hK, hN⟩ := hB
  have hS : va_S (inW ad 132) s.heap s.heap [] := va_S.rf
  have hl : lv_has ls 3 [(0, .ref (ad 0)), (1, .int p1)] := hl
  refine lv_aload_n hE.1 hE.2.1 dX8_liars_0 rfl (lv_at hl 0 rfl) ?_
  refine lv_iload_n hE.1 hE.2.1 dX8_liars_1 rfl (lv_at hl 1 rfl) ?_
  refine lv_iconst (v := 3) hE.1 hE.2.1 dX8_liars_2 (by decide) ?_
  refine x_vp (nn := 2) (As := [.int p1, .int 3]) (rest := []) hE (k_X8_claimsBar l D K ad mm p1 3) wPre_blind (wPre_now hK hN hP) (x_recv hK hP 0 (by decide) (xG_8 rfl) rfl) rfl mw_1159 mw_1161 mw_39 mw_114 mw_1162 (by decide +kernel) ⟨by decide, by decide⟩ hl.1 rfl (by decide) ⟨Nat.zero_le _, Nat.zero_le _⟩ dX8_liars_3 (fun r hr => ?_)
  subst hr
  refine lv_istore_n (lv' := [(2, .int (-2)), (0, .ref (ad 0)), (1, .int p1)]) hE.1 hE.2.1 dX8_liars_6 rfl hl (by decide) rfl (fun ls hl => ?_)
  refine lv_iload_n hE.1 hE.2.1 dX8_liars_7 rfl (lv_at hl 0 rfl) ?_
  refine lv_if_eq (tgt := 15) hE.1 hE.2.1 dX8_liars_8 (by decide) (fun h => absurd h (by decide)) (fun _ => ?_)
  refine lv_iload_n hE.1 hE.2.1 dX8_liars_11 rfl (lv_at hl 0 rfl) ?_
  refine lv_goto (tgt := 32) hE.1 hE.2.1 dX8_liars_12 (by decide) ?_
  exact x_ri hE hr hlo rfl rfl dX8_liars_32

theorem dX8_who_0 : decode cX8_who 0 = .ok (.aload_n 0, 1) := by decide +kernel
theorem dX8_who_1 : decode cX8_who 1 = .ok (.iload_n 1, 1) := by decide +kernel
theorem dX8_who_2 : decode cX8_who 2 = .ok (.iconst 3, 1) := by decide +kernel
theorem dX8_who_3 : decode cX8_who 3 = .ok (.invokevirtual 289, 3) := by decide +kernel
theorem dX8_who_6 : decode cX8_who 6 = .ok (.istore_n 2, 1) := by decide +kernel
theorem dX8_who_7 : decode cX8_who 7 = .ok (.iload_n 2, 1) := by decide +kernel
theorem dX8_who_8 : decode cX8_who 8 = .ok (.ifCond .eq 7, 3) := by decide +kernel
theorem dX8_who_11 : decode cX8_who 11 = .ok (.iload_n 2, 1) := by decide +kernel
theorem dX8_who_12 : decode cX8_who 12 = .ok (.goto 17, 3) := by decide +kernel
theorem dX8_who_29 : decode cX8_who 29 = .ok (.ireturn, 1) := by decide +kernel
set_option maxHeartbeats 4000000 in
set_option maxRecDepth 100000 in
theorem k_X8_who (l : Launch) (D : va_G) (K : Nat → ClassId) (ad : Nat → Nat) (mm : Option Nat) (p1 : Int32) : Met l yX8_who (wM yX8_who cX8_who 3 (some .int)) (rmD 3) (va_Pc [.ref (ad 0), .int p1] (wPre D K ad (xG ad K mm) 132 xv0 xa0 xl0)) (vp_Si (fun r => r = (-2))) 0 0 (fun _ => False) := by
  refine x_met (by decide) (Nat.le_of_ble_eq_true rfl) ?_
  intro p e s m below meth c ls hE hr hlo hnm hB hl
  have hE : CallFix p m c cX8_who 3 s _ tbG "TaleCourt" := hE
  obtain ⟨hP, hK, hN⟩ := hB
  have hS : va_S (inW ad 132) s.heap s.heap [] := va_S.rf
  have hl : lv_has ls 3 [(0, .ref (ad 0)), (1, .int p1)] := hl
  refine lv_aload_n hE.1 hE.2.1 dX8_who_0 rfl (lv_at hl 0 rfl) ?_
  refine lv_iload_n hE.1 hE.2.1 dX8_who_1 rfl (lv_at hl 1 rfl) ?_
  refine lv_iconst (v := 3) hE.1 hE.2.1 dX8_who_2 (by decide) ?_
  refine x_vp (nn := 2) (As := [.int p1, .int 3]) (rest := []) hE (k_X8_claimsBar l D K ad mm p1 3) wPre_blind (wPre_now hK hN hP) (x_recv hK hP 0 (by decide) (xG_8 rfl) rfl) rfl mw_1159 mw_1161 mw_39 mw_114 mw_1162 (by decide +kernel) ⟨by decide, by decide⟩ hl.1 rfl (by decide) ⟨Nat.zero_le _, Nat.zero_le _⟩ dX8_who_3 (fun r hr => ?_)
  subst hr
  refine lv_istore_n (lv' := [(2, .int (-2)), (0, .ref (ad 0)), (1, .int p1)]) hE.1 hE.2.1 dX8_who_6 rfl hl (by decide) rfl (fun ls hl => ?_)
  refine lv_iload_n hE.1 hE.2.1 dX8_who_7 rfl (lv_at hl 0 rfl) ?_
  refine lv_if_eq (tgt := 15) hE.1 hE.2.1 dX8_who_8 (by decide) (fun h => absurd h (by decide)) (fun _ => ?_)
  refine lv_iload_n hE.1 hE.2.1 dX8_who_11 rfl (lv_at hl 0 rfl) ?_
  refine lv_goto (tgt := 29) hE.1 hE.2.1 dX8_who_12 (by decide) ?_
  exact x_ri hE hr hlo rfl rfl dX8_who_29

theorem dX8_votes_0 : decode cX8_votes 0 = .ok (.iload_n 1, 1) := by decide +kernel
theorem dX8_votes_1 : decode cX8_votes 1 = .ok (.invokestatic 260, 3) := by decide +kernel
theorem dX8_votes_4 : decode cX8_votes 4 = .ok (.ifCond .eq 20, 3) := by decide +kernel
theorem dX8_votes_7 : decode cX8_votes 7 = .ok (.iload_n 2, 1) := by decide +kernel
theorem dX8_votes_8 : decode cX8_votes 8 = .ok (.invokestatic 260, 3) := by decide +kernel
theorem dX8_votes_11 : decode cX8_votes 11 = .ok (.ifCond .eq 13, 3) := by decide +kernel
theorem dX8_votes_14 : decode cX8_votes 14 = .ok (.aload_n 0, 1) := by decide +kernel
theorem dX8_votes_15 : decode cX8_votes 15 = .ok (.getfield 19, 3) := by decide +kernel
theorem dX8_votes_18 : decode cX8_votes 18 = .ok (.invokevirtual 157, 3) := by decide +kernel
theorem dX8_votes_21 : decode cX8_votes 21 = .ok (.ifCond .ne 6, 3) := by decide +kernel
theorem dX8_votes_24 : decode cX8_votes 24 = .ok (.bipush (-2), 2) := by decide +kernel
theorem dX8_votes_26 : decode cX8_votes 26 = .ok (.ireturn, 1) := by decide +kernel
set_option maxHeartbeats 4000000 in
set_option maxRecDepth 100000 in
theorem k_X8_votes (l : Launch) (D : va_G) (K : Nat → ClassId) (ad : Nat → Nat) (mm : Option Nat) (p1 : Int32) (p2 : Int32) : Met l yX8_votes (wM yX8_votes cX8_votes 7 (some .int)) (rmD 1) (va_Pc [.ref (ad 0), .int p1, .int p2] (wPre D K ad (xG ad K mm) 132 xv0 xa0 xl0)) (vp_Si (fun r => r = (-2))) 0 0 (fun _ => False) := by
  refine x_met (by decide) (Nat.le_of_ble_eq_true rfl) ?_
  intro p e s m below meth c ls hE hr hlo hnm hB hl
  have hE : CallFix p m c cX8_votes 7 s _ tbG "TaleCourt" := hE
  obtain ⟨hP, hK, hN⟩ := hB
  have hS : va_S (inW ad 132) s.heap s.heap [] := va_S.rf
  have hl : lv_has ls 7 [(0, .ref (ad 0)), (1, .int p1), (2, .int p2)] := hl
  refine lv_iload_n hE.1 hE.2.1 dX8_votes_0 rfl (lv_at hl 1 rfl) ?_
  refine x_sp (nn := 1) (As := [.int p1]) (rest := []) hE (k_X8_isSlot l p1) tt_blind (fun _ _ _ => trivial) rfl mw_1134 mw_1135 mw_114 mw_1136 (by decide +kernel) ⟨by decide, by decide⟩ hl.1 rfl (by decide) ⟨Nat.zero_le _, Nat.zero_le _⟩ dX8_votes_1 (fun r hr => ?_)
  subst hr
  refine lv_if_eq (tgt := 24) hE.1 hE.2.1 dX8_votes_4 (by decide) (fun c_1 => ?_) (fun c_1 => ?_)
  · skip
    refine lv_bipush (v := (-2)) hE.1 hE.2.1 dX8_votes_24 (by decide) ?_
    exact x_ri hE hr hlo rfl rfl dX8_votes_26
  · skip
    refine lv_iload_n hE.1 hE.2.1 dX8_votes_7 rfl (lv_at hl 2 rfl) ?_
    refine x_sp (nn := 1) (As := [.int p2]) (rest := []) hE (k_X8_isSlot l p2) tt_blind (fun _ _ _ => trivial) rfl mw_1134 mw_1135 mw_114 mw_1136 (by decide +kernel) ⟨by decide, by decide⟩ hl.1 rfl (by decide) ⟨Nat.zero_le _, Nat.zero_le _⟩ dX8_votes_8 (fun r hr => ?_)
    subst hr
    refine lv_if_eq (tgt := 24) hE.1 hE.2.1 dX8_votes_11 (by decide) (fun c_2 => ?_) (fun c_2 => ?_)
    · skip
      refine lv_bipush (v := (-2)) hE.1 hE.2.1 dX8_votes_24 (by decide) ?_
      exact x_ri hE hr hlo rfl rfl dX8_votes_26
    · skip
      refine lv_aload_n hE.1 hE.2.1 dX8_votes_14 rfl (lv_at hl 0 rfl) ?_
      refine x_get (x := .ref (ad 3)) hE hK hP 0 (by decide) (xG_8 rfl) rfl hin8 1 (by decide) mw_481 rfl dX8_votes_15 ?_
      refine x_vp (nn := 0) (As := []) (rest := []) hE (k_X1_stands l D K ad mm ) wPre_blind (wPre_now hK hN hP) (x_recv hK hP 3 (by decide) (xG_1 rfl) rfl) rfl mw_788 mw_789 mw_790 mw_116 mw_791 (by decide +kernel) ⟨by decide, by decide⟩ hl.1 rfl (by decide) ⟨Nat.zero_le _, Nat.zero_le _⟩ dX8_votes_18 (fun r hr => ?_)
      subst hr
      refine lv_if_ne (tgt := 27) hE.1 hE.2.1 dX8_votes_21 (by decide) (fun h => absurd (by decide) h) (fun _ => ?_)
      refine lv_bipush (v := (-2)) hE.1 hE.2.1 dX8_votes_24 (by decide) ?_
      exact x_ri hE hr hlo rfl rfl dX8_votes_26

theorem dX8_drawn_0 : decode cX8_drawn 0 = .ok (.aload_n 0, 1) := by decide +kernel
theorem dX8_drawn_1 : decode cX8_drawn 1 = .ok (.iload_n 1, 1) := by decide +kernel
theorem dX8_drawn_2 : decode cX8_drawn 2 = .ok (.invokevirtual 341, 3) := by decide +kernel
theorem dX8_drawn_5 : decode cX8_drawn 5 = .ok (.ifCond .eq 12, 3) := by decide +kernel
theorem dX8_drawn_17 : decode cX8_drawn 17 = .ok (.bipush (-2), 2) := by decide +kernel
theorem dX8_drawn_19 : decode cX8_drawn 19 = .ok (.ireturn, 1) := by decide +kernel
set_option maxHeartbeats 4000000 in
set_option maxRecDepth 100000 in
theorem k_X8_drawn (l : Launch) (D : va_G) (K : Nat → ClassId) (ad : Nat → Nat) (mm : Option Nat) (p1 : Int32) (p2 : Int32) : Met l yX8_drawn (wM yX8_drawn cX8_drawn 3 (some .int)) (rmD 2) (va_Pc [.ref (ad 0), .int p1, .int p2] (wPre D K ad (xG ad K mm) 132 xv0 xa0 xl0)) (vp_Si (fun r => r = (-2))) 0 0 (fun _ => False) := by
  refine x_met (by decide) (Nat.le_of_ble_eq_true rfl) ?_
  intro p e s m below meth c ls hE hr hlo hnm hB hl
  have hE : CallFix p m c cX8_drawn 3 s _ tbG "TaleCourt" := hE
  obtain ⟨hP, hK, hN⟩ := hB
  have hS : va_S (inW ad 132) s.heap s.heap [] := va_S.rf
  have hl : lv_has ls 3 [(0, .ref (ad 0)), (1, .int p1), (2, .int p2)] := hl
  refine lv_aload_n hE.1 hE.2.1 dX8_drawn_0 rfl (lv_at hl 0 rfl) ?_
  refine lv_iload_n hE.1 hE.2.1 dX8_drawn_1 rfl (lv_at hl 1 rfl) ?_
  refine x_vp (nn := 1) (As := [.int p1]) (rest := []) hE (k_X8_mayDraw l D K ad mm p1) wPre_blind (wPre_now hK hN hP) (x_recv hK hP 0 (by decide) (xG_8 rfl) rfl) rfl mw_1258 mw_1260 mw_44 mw_114 mw_1261 (by decide +kernel) ⟨by decide, by decide⟩ hl.1 rfl (by decide) ⟨Nat.zero_le _, Nat.zero_le _⟩ dX8_drawn_2 (fun r hr => ?_)
  subst hr
  refine lv_if_eq (tgt := 17) hE.1 hE.2.1 dX8_drawn_5 (by decide) (fun _ => ?_) (fun h => absurd (by decide) h)
  refine lv_bipush (v := (-2)) hE.1 hE.2.1 dX8_drawn_17 (by decide) ?_
  exact x_ri hE hr hlo rfl rfl dX8_drawn_19

theorem dX8_lot_0 : decode cX8_lot 0 = .ok (.aload_n 0, 1) := by decide +kernel
theorem dX8_lot_1 : decode cX8_lot 1 = .ok (.iload_n 1, 1) := by decide +kernel
theorem dX8_lot_2 : decode cX8_lot 2 = .ok (.invokevirtual 341, 3) := by decide +kernel
theorem dX8_lot_5 : decode cX8_lot 5 = .ok (.ifCond .ne 6, 3) := by decide +kernel
theorem dX8_lot_8 : decode cX8_lot 8 = .ok (.bipush (-2), 2) := by decide +kernel
theorem dX8_lot_10 : decode cX8_lot 10 = .ok (.ireturn, 1) := by decide +kernel
set_option maxHeartbeats 4000000 in
set_option maxRecDepth 100000 in
theorem k_X8_lot (l : Launch) (D : va_G) (K : Nat → ClassId) (ad : Nat → Nat) (mm : Option Nat) (p1 : Int32) (p2 : Int32) : Met l yX8_lot (wM yX8_lot cX8_lot 3 (some .int)) (rmD 2) (va_Pc [.ref (ad 0), .int p1, .int p2] (wPre D K ad (xG ad K mm) 132 xv0 xa0 xl0)) (vp_Si (fun r => r = (-2))) 0 0 (fun _ => False) := by
  refine x_met (by decide) (Nat.le_of_ble_eq_true rfl) ?_
  intro p e s m below meth c ls hE hr hlo hnm hB hl
  have hE : CallFix p m c cX8_lot 3 s _ tbG "TaleCourt" := hE
  obtain ⟨hP, hK, hN⟩ := hB
  have hS : va_S (inW ad 132) s.heap s.heap [] := va_S.rf
  have hl : lv_has ls 3 [(0, .ref (ad 0)), (1, .int p1), (2, .int p2)] := hl
  refine lv_aload_n hE.1 hE.2.1 dX8_lot_0 rfl (lv_at hl 0 rfl) ?_
  refine lv_iload_n hE.1 hE.2.1 dX8_lot_1 rfl (lv_at hl 1 rfl) ?_
  refine x_vp (nn := 1) (As := [.int p1]) (rest := []) hE (k_X8_mayDraw l D K ad mm p1) wPre_blind (wPre_now hK hN hP) (x_recv hK hP 0 (by decide) (xG_8 rfl) rfl) rfl mw_1258 mw_1260 mw_44 mw_114 mw_1261 (by decide +kernel) ⟨by decide, by decide⟩ hl.1 rfl (by decide) ⟨Nat.zero_le _, Nat.zero_le _⟩ dX8_lot_2 (fun r hr => ?_)
  subst hr
  refine lv_if_ne (tgt := 11) hE.1 hE.2.1 dX8_lot_5 (by decide) (fun h => absurd (by decide) h) (fun _ => ?_)
  refine lv_bipush (v := (-2)) hE.1 hE.2.1 dX8_lot_8 (by decide) ?_
  exact x_ri hE hr hlo rfl rfl dX8_lot_10

theorem dX8_nights_0 : decode cX8_nights 0 = .ok (.aload_n 0, 1) := by decide +kernel
theorem dX8_nights_1 : decode cX8_nights 1 = .ok (.iload_n 1, 1) := by decide +kernel
theorem dX8_nights_2 : decode cX8_nights 2 = .ok (.invokevirtual 341, 3) := by decide +kernel
theorem dX8_nights_5 : decode cX8_nights 5 = .ok (.ifCond .eq 14, 3) := by decide +kernel
theorem dX8_nights_19 : decode cX8_nights 19 = .ok (.bipush (-2), 2) := by decide +kernel
theorem dX8_nights_21 : decode cX8_nights 21 = .ok (.ireturn, 1) := by decide +kernel
set_option maxHeartbeats 4000000 in
set_option maxRecDepth 100000 in
theorem k_X8_nights (l : Launch) (D : va_G) (K : Nat → ClassId) (ad : Nat → Nat) (mm : Option Nat) (p1 : Int32) (p2 : Int32) : Met l yX8_nights (wM yX8_nights cX8_nights 5 (some .int)) (rmD 2) (va_Pc [.ref (ad 0), .int p1, .int p2] (wPre D K ad (xG ad K mm) 132 xv0 xa0 xl0)) (vp_Si (fun r => r = (-2))) 0 0 (fun _ => False) := by
  refine x_met (by decide) (Nat.le_of_ble_eq_true rfl) ?_
  intro p e s m below meth c ls hE hr hlo hnm hB hl
  have hE : CallFix p m c cX8_nights 5 s _ tbG "TaleCourt" := hE
  obtain ⟨hP, hK, hN⟩ := hB
  have hS : va_S (inW ad 132) s.heap s.heap [] := va_S.rf
  have hl : lv_has ls 5 [(0, .ref (ad 0)), (1, .int p1), (2, .int p2)] := hl
  refine lv_aload_n hE.1 hE.2.1 dX8_nights_0 rfl (lv_at hl 0 rfl) ?_
  refine lv_iload_n hE.1 hE.2.1 dX8_nights_1 rfl (lv_at hl 1 rfl) ?_
  refine x_vp (nn := 1) (As := [.int p1]) (rest := []) hE (k_X8_mayDraw l D K ad mm p1) wPre_blind (wPre_now hK hN hP) (x_recv hK hP 0 (by decide) (xG_8 rfl) rfl) rfl mw_1258 mw_1260 mw_44 mw_114 mw_1261 (by decide +kernel) ⟨by decide, by decide⟩ hl.1 rfl (by decide) ⟨Nat.zero_le _, Nat.zero_le _⟩ dX8_nights_2 (fun r hr => ?_)
  subst hr
  refine lv_if_eq (tgt := 19) hE.1 hE.2.1 dX8_nights_5 (by decide) (fun _ => ?_) (fun h => absurd (by decide) h)
  refine lv_bipush (v := (-2)) hE.1 hE.2.1 dX8_nights_19 (by decide) ?_
  exact x_ri hE hr hlo rfl rfl dX8_nights_21

theorem dX8_taste_0 : decode cX8_taste 0 = .ok (.iload_n 2, 1) := by decide +kernel
theorem dX8_taste_1 : decode cX8_taste 1 = .ok (.invokestatic 260, 3) := by decide +kernel
theorem dX8_taste_4 : decode cX8_taste 4 = .ok (.ifCond .eq 14, 3) := by decide +kernel
theorem dX8_taste_7 : decode cX8_taste 7 = .ok (.aload_n 0, 1) := by decide +kernel
theorem dX8_taste_8 : decode cX8_taste 8 = .ok (.getfield 19, 3) := by decide +kernel
theorem dX8_taste_11 : decode cX8_taste 11 = .ok (.iload_n 1, 1) := by decide +kernel
theorem dX8_taste_12 : decode cX8_taste 12 = .ok (.invokevirtual 323, 3) := by decide +kernel
theorem dX8_taste_15 : decode cX8_taste 15 = .ok (.ifCond .ne 7, 3) := by decide +kernel
theorem dX8_taste_18 : decode cX8_taste 18 = .ok (.sipush (-1000), 3) := by decide +kernel
theorem dX8_taste_21 : decode cX8_taste 21 = .ok (.ireturn, 1) := by decide +kernel
set_option maxHeartbeats 4000000 in
set_option maxRecDepth 100000 in
theorem k_X8_taste (l : Launch) (D : va_G) (K : Nat → ClassId) (ad : Nat → Nat) (mm : Option Nat) (p1 : Int32) (p2 : Int32) : Met l yX8_taste (wM yX8_taste cX8_taste 4 (some .int)) (rmD 1) (va_Pc [.ref (ad 0), .int p1, .int p2] (wPre D K ad (xG ad K mm) 132 xv0 xa0 xl0)) (vp_Si (fun r => r = (-1000))) 0 0 (fun _ => False) := by
  refine x_met (by decide) (Nat.le_of_ble_eq_true rfl) ?_
  intro p e s m below meth c ls hE hr hlo hnm hB hl
  have hE : CallFix p m c cX8_taste 4 s _ tbG "TaleCourt" := hE
  obtain ⟨hP, hK, hN⟩ := hB
  have hS : va_S (inW ad 132) s.heap s.heap [] := va_S.rf
  have hl : lv_has ls 4 [(0, .ref (ad 0)), (1, .int p1), (2, .int p2)] := hl
  refine lv_iload_n hE.1 hE.2.1 dX8_taste_0 rfl (lv_at hl 2 rfl) ?_
  refine x_sp (nn := 1) (As := [.int p2]) (rest := []) hE (k_X8_isSlot l p2) tt_blind (fun _ _ _ => trivial) rfl mw_1134 mw_1135 mw_114 mw_1136 (by decide +kernel) ⟨by decide, by decide⟩ hl.1 rfl (by decide) ⟨Nat.zero_le _, Nat.zero_le _⟩ dX8_taste_1 (fun r hr => ?_)
  subst hr
  refine lv_if_eq (tgt := 18) hE.1 hE.2.1 dX8_taste_4 (by decide) (fun c_1 => ?_) (fun c_1 => ?_)
  · skip
    refine lv_sipush (v := (-1000)) hE.1 hE.2.1 dX8_taste_18 (by decide) ?_
    exact x_ri hE hr hlo rfl rfl dX8_taste_21
  · skip
    refine lv_aload_n hE.1 hE.2.1 dX8_taste_7 rfl (lv_at hl 0 rfl) ?_
    refine x_get (x := .ref (ad 3)) hE hK hP 0 (by decide) (xG_8 rfl) rfl hin8 1 (by decide) mw_481 rfl dX8_taste_8 ?_
    refine lv_iload_n hE.1 hE.2.1 dX8_taste_11 rfl (lv_at hl 1 rfl) ?_
    refine x_vp (nn := 1) (As := [.int p1]) (rest := []) hE (k_X1_hasListener l D K ad mm p1) wPre_blind (wPre_now hK hN hP) (x_recv hK hP 3 (by decide) (xG_1 rfl) rfl) rfl mw_1253 mw_1245 mw_1246 mw_116 mw_1247 (by decide +kernel) ⟨by decide, by decide⟩ hl.1 rfl (by decide) ⟨Nat.zero_le _, Nat.zero_le _⟩ dX8_taste_12 (fun r hr => ?_)
    subst hr
    refine lv_if_ne (tgt := 22) hE.1 hE.2.1 dX8_taste_15 (by decide) (fun h => absurd (by decide) h) (fun _ => ?_)
    refine lv_sipush (v := (-1000)) hE.1 hE.2.1 dX8_taste_18 (by decide) ?_
    exact x_ri hE hr hlo rfl rfl dX8_taste_21
end
section
theorem slB_nar (x : Int32) : narrow .boolean (.int (slB x)) = .int (slB x) := by
  unfold slB
  split
  · rfl
  · split <;> rfl
theorem inL_nar (x lo hi : Int64) : narrow .boolean (.int (inL x lo hi)) = .int (inL x lo hi) := by
  unfold inL
  split
  · rfl
  · split <;> rfl

theorem dX9_in_0 : decode cX9_in 0 = .ok (.lload_n 0, 1) := by decide +kernel
theorem dX9_in_1 : decode cX9_in 1 = .ok (.lload_n 2, 1) := by decide +kernel
theorem dX9_in_2 : decode cX9_in 2 = .ok (.lcmp, 1) := by decide +kernel
theorem dX9_in_3 : decode cX9_in 3 = .ok (.ifCond .lt 14, 3) := by decide +kernel
theorem dX9_in_6 : decode cX9_in 6 = .ok (.lload_n 0, 1) := by decide +kernel
theorem dX9_in_7 : decode cX9_in 7 = .ok (.lload 4, 2) := by decide +kernel
theorem dX9_in_9 : decode cX9_in 9 = .ok (.lcmp, 1) := by decide +kernel
theorem dX9_in_10 : decode cX9_in 10 = .ok (.ifCond .gt 7, 3) := by decide +kernel
theorem dX9_in_13 : decode cX9_in 13 = .ok (.iconst 1, 1) := by decide +kernel
theorem dX9_in_14 : decode cX9_in 14 = .ok (.goto 4, 3) := by decide +kernel
theorem dX9_in_17 : decode cX9_in 17 = .ok (.iconst 0, 1) := by decide +kernel
theorem dX9_in_18 : decode cX9_in 18 = .ok (.ireturn, 1) := by decide +kernel
set_option maxHeartbeats 4000000 in
set_option maxRecDepth 100000 in
theorem k_X9_in (l : Launch) (p1 p2 p3 : Int64) : Met l yX9_in (wM yX9_in cX9_in 6 (some .boolean)) (rmD 0) (va_Pc [.long p1, .long p2, .long p3] (fun _ => True)) (vp_Si (fun r => r = inL p1 p2 p3)) 0 0 (fun _ => False) := by
  refine x_met (by decide) (Nat.le_of_ble_eq_true rfl) ?_
  intro p e s m below meth c ls hE hr hlo hnm hB hl
  have hE : CallFix p m c cX9_in 6 s _ tbG "TaleCourtModel" := hE
  have hl : lv_has ls 6 [(0, .long p1), (2, .long p2), (4, .long p3)] := hl
  refine lv_lload_n hE.1 hE.2.1 dX9_in_0 rfl (lv_at hl 0 rfl) ?_
  refine lv_lload_n hE.1 hE.2.1 dX9_in_1 rfl (lv_at hl 1 rfl) ?_
  refine W.lcmp hE.1 hE.2.1 dX9_in_2 ?_
  refine lv_if_lt (tgt := 17) hE.1 hE.2.1 dX9_in_3 (by decide) (fun c_1 => ?_) (fun c_1 => ?_)
  · skip
    refine lv_iconst (v := 0) hE.1 hE.2.1 dX9_in_17 (by decide) ?_
    exact x_ri (post := fun r => r = inL p1 p2 p3) hE hr hlo rfl (show _ = inL p1 p2 p3 from (if_pos ((lg_cmp_lt _ _).mp c_1)).symm) dX9_in_18
  · skip
    refine lv_lload_n hE.1 hE.2.1 dX9_in_6 rfl (lv_at hl 0 rfl) ?_
    refine lv_lload hE.1 hE.2.1 dX9_in_7 (lv_at hl 2 rfl) ?_
    refine W.lcmp hE.1 hE.2.1 dX9_in_9 ?_
    refine lv_if_gt (tgt := 17) hE.1 hE.2.1 dX9_in_10 (by decide) (fun c_2 => ?_) (fun c_2 => ?_)
    · skip
      refine lv_iconst (v := 0) hE.1 hE.2.1 dX9_in_17 (by decide) ?_
      exact x_ri (post := fun r => r = inL p1 p2 p3) hE hr hlo rfl (show _ = inL p1 p2 p3 from ((if_neg (fun q => c_1 ((lg_cmp_lt _ _).mpr q))).trans (if_pos ((lg_cmp_gt _ _).mp c_2))).symm) dX9_in_18
    · skip
      refine lv_iconst (v := 1) hE.1 hE.2.1 dX9_in_13 (by decide) ?_
      refine lv_goto (tgt := 18) hE.1 hE.2.1 dX9_in_14 (by decide) ?_
      exact x_ri (post := fun r => r = inL p1 p2 p3) hE hr hlo rfl (show _ = inL p1 p2 p3 from ((if_neg (fun q => c_1 ((lg_cmp_lt _ _).mpr q))).trans (if_neg (fun q => c_2 ((lg_cmp_gt _ _).mpr q)))).symm) dX9_in_18

theorem dX9_isSlot_0 : decode cX9_isSlot 0 = .ok (.iload_n 0, 1) := by decide +kernel
theorem dX9_isSlot_1 : decode cX9_isSlot 1 = .ok (.i2l, 1) := by decide +kernel
theorem dX9_isSlot_2 : decode cX9_isSlot 2 = .ok (.lconst 0, 1) := by decide +kernel
theorem dX9_isSlot_3 : decode cX9_isSlot 3 = .ok (.ldc2_w 84, 3) := by decide +kernel
theorem dX9_isSlot_6 : decode cX9_isSlot 6 = .ok (.invokestatic 86, 3) := by decide +kernel
theorem dX9_isSlot_9 : decode cX9_isSlot 9 = .ok (.ireturn, 1) := by decide +kernel
set_option maxHeartbeats 4000000 in
set_option maxRecDepth 100000 in
theorem k_X9_isSlot (l : Launch) (p1 : Int32) : Met l yX9_isSlot (wM yX9_isSlot cX9_isSlot 1 (some .boolean)) (rmD 1) (va_Pc [.int p1] (fun _ => True)) (vp_Si (fun r => r = slB p1)) 0 0 (fun _ => False) := by
  refine x_met (by decide) (Nat.le_of_ble_eq_true rfl) ?_
  intro p e s m below meth c ls hE hr hlo hnm hB hl
  have hE : CallFix p m c cX9_isSlot 1 s _ tbG "TaleCourtModel" := hE
  have hl : lv_has ls 1 [(0, .int p1)] := hl
  refine lv_iload_n hE.1 hE.2.1 dX9_isSlot_0 rfl (lv_at hl 0 rfl) ?_
  refine lv_i2l (v := (p1.toInt64)) hE.1 hE.2.1 dX9_isSlot_1 rfl ?_
  refine lv_lconst (v := 0) hE.1 hE.2.1 dX9_isSlot_2 (by decide) ?_
  refine lv_ldc2 (v := 3) hE.1 hE.2.1 hE.2.2.2.1 (hE.2.2.2.2 _ mw_1493) dX9_isSlot_3 ?_
  refine x_sp (nn := 3) (As := [.long (p1.toInt64), .long 0, .long 3]) (rest := []) hE (k_X9_in l (p1.toInt64) 0 3) tt_blind (fun _ _ _ => trivial) rfl mw_1494 mw_1495 mw_123 mw_1496 (by decide +kernel) ⟨by decide, by decide⟩ hl.1 rfl (by decide) ⟨Nat.zero_le _, Nat.zero_le _⟩ dX9_isSlot_6 (fun r hr => ?_)
  subst hr
  refine x_top (y := slB p1) (inL_slot p1) ?_
  exact x_ri (post := fun r => r = slB p1) hE hr hlo (slB_nar p1) rfl dX9_isSlot_9

theorem dX9_isMotif_0 : decode cX9_isMotif 0 = .ok (.lload_n 1, 1) := by decide +kernel
theorem dX9_isMotif_1 : decode cX9_isMotif 1 = .ok (.lconst 0, 1) := by decide +kernel
theorem dX9_isMotif_2 : decode cX9_isMotif 2 = .ok (.aload_n 0, 1) := by decide +kernel
theorem dX9_isMotif_3 : decode cX9_isMotif 3 = .ok (.getfield 34, 3) := by decide +kernel
theorem dX9_isMotif_6 : decode cX9_isMotif 6 = .ok (.iconst 2, 1) := by decide +kernel
theorem dX9_isMotif_7 : decode cX9_isMotif 7 = .ok (.iaload, 1) := by decide +kernel
theorem dX9_isMotif_8 : decode cX9_isMotif 8 = .ok (.i2l, 1) := by decide +kernel
theorem dX9_isMotif_9 : decode cX9_isMotif 9 = .ok (.lconst 1, 1) := by decide +kernel
theorem dX9_isMotif_10 : decode cX9_isMotif 10 = .ok (.lsub, 1) := by decide +kernel
theorem dX9_isMotif_11 : decode cX9_isMotif 11 = .ok (.invokestatic 86, 3) := by decide +kernel
theorem dX9_isMotif_14 : decode cX9_isMotif 14 = .ok (.ireturn, 1) := by decide +kernel
set_option maxHeartbeats 4000000 in
set_option maxRecDepth 100000 in
theorem k_X9_isMotif (l : Launch) (D : va_G) (K : Nat → ClassId) (ad : Nat → Nat) (p1 : Int64) : Met l yX9_isMotif (wM yX9_isMotif cX9_isMotif 3 (some .boolean)) (rmD 1) (va_Pc [.ref (ad 0), .long p1] (wPre D K ad (yG ad K) 21 yv0 ya0 yl0)) (vp_Si (fun r => r = 0)) 0 0 (fun _ => False) := by
  refine x_met (by decide) (Nat.le_of_ble_eq_true rfl) ?_
  intro p e s m below meth c ls hE hr hlo hnm hB hl
  have hE : CallFix p m c cX9_isMotif 3 s _ tbG "TaleCourtModel" := hE
  obtain ⟨hP, hK, hN⟩ := hB
  have hS : va_S (inW ad 21) s.heap s.heap [] := va_S.rf
  have hl : lv_has ls 3 [(0, .ref (ad 0)), (1, .long p1)] := hl
  refine lv_lload_n hE.1 hE.2.1 dX9_isMotif_0 rfl (lv_at hl 1 rfl) ?_
  refine lv_lconst (v := 0) hE.1 hE.2.1 dX9_isMotif_1 (by decide) ?_
  refine lv_aload_n hE.1 hE.2.1 dX9_isMotif_2 rfl (lv_at hl 0 rfl) ?_
  refine x_get (x := .ref (ad 7)) hE hK hP 0 (by decide) (yG_9 rfl) rfl hin9 17 (by decide) mw_1351 rfl dX9_isMotif_3 ?_
  refine lv_iconst (v := 2) hE.1 hE.2.1 dX9_isMotif_6 (by decide) ?_
  refine x_iald (j := 2) hE hK hP 7 (by decide) (yG_10 rfl) (by unfold vp_in; decide) dX9_isMotif_7 ?_
  refine x_top (y := 0) (by decide) ?_
  refine lv_i2l (v := 0) hE.1 hE.2.1 dX9_isMotif_8 (by decide) ?_
  refine lv_lconst (v := 1) hE.1 hE.2.1 dX9_isMotif_9 (by decide) ?_
  refine lv_lsub hE.1 hE.2.1 dX9_isMotif_10 ?_
  refine x_topl (y := (-1)) (by decide) ?_
  refine x_sp (nn := 3) (As := [.long p1, .long 0, .long (-1)]) (rest := []) hE (k_X9_in l p1 0 (-1)) tt_blind (fun _ _ _ => trivial) rfl mw_1494 mw_1495 mw_123 mw_1496 (by decide +kernel) ⟨by decide, by decide⟩ hl.1 rfl (by decide) ⟨Nat.zero_le _, Nat.zero_le _⟩ dX9_isMotif_11 (fun r hr => ?_)
  subst hr
  refine x_top (y := 0) (inL_none _) ?_
  exact x_ri hE hr hlo rfl rfl dX9_isMotif_14

theorem dX9_isCourt_0 : decode cX9_isCourt 0 = .ok (.aload_n 0, 1) := by decide +kernel
theorem dX9_isCourt_1 : decode cX9_isCourt 1 = .ok (.getfield 31, 3) := by decide +kernel
theorem dX9_isCourt_4 : decode cX9_isCourt 4 = .ok (.iconst 0, 1) := by decide +kernel
theorem dX9_isCourt_5 : decode cX9_isCourt 5 = .ok (.iaload, 1) := by decide +kernel
theorem dX9_isCourt_6 : decode cX9_isCourt 6 = .ok (.ifCond .le 7, 3) := by decide +kernel
theorem dX9_isCourt_13 : decode cX9_isCourt 13 = .ok (.iconst 0, 1) := by decide +kernel
theorem dX9_isCourt_14 : decode cX9_isCourt 14 = .ok (.ireturn, 1) := by decide +kernel
set_option maxHeartbeats 4000000 in
set_option maxRecDepth 100000 in
theorem k_X9_isCourt (l : Launch) (D : va_G) (K : Nat → ClassId) (ad : Nat → Nat) : Met l yX9_isCourt (wM yX9_isCourt cX9_isCourt 1 (some .boolean)) (rmD 0) (va_Pc [.ref (ad 0)] (wPre D K ad (yG ad K) 21 yv0 ya0 yl0)) (vp_Si (fun r => r = 0)) 0 0 (fun _ => False) := by
  refine x_met (by decide) (Nat.le_of_ble_eq_true rfl) ?_
  intro p e s m below meth c ls hE hr hlo hnm hB hl
  have hE : CallFix p m c cX9_isCourt 1 s _ tbG "TaleCourtModel" := hE
  obtain ⟨hP, hK, hN⟩ := hB
  have hS : va_S (inW ad 21) s.heap s.heap [] := va_S.rf
  have hl : lv_has ls 1 [(0, .ref (ad 0))] := hl
  refine lv_aload_n hE.1 hE.2.1 dX9_isCourt_0 rfl (lv_at hl 0 rfl) ?_
  refine x_get (x := .ref (ad 6)) hE hK hP 0 (by decide) (yG_9 rfl) rfl hin9 16 (by decide) mw_1350 rfl dX9_isCourt_1 ?_
  refine lv_iconst (v := 0) hE.1 hE.2.1 dX9_isCourt_4 (by decide) ?_
  refine x_iald (j := 0) hE hK hP 6 (by decide) (yG_10 rfl) (by unfold vp_in; decide) dX9_isCourt_5 ?_
  refine x_top (y := 0) (by decide) ?_
  refine lv_if_le (tgt := 13) hE.1 hE.2.1 dX9_isCourt_6 (by decide) (fun _ => ?_) (fun h => absurd (by decide) h)
  refine lv_iconst (v := 0) hE.1 hE.2.1 dX9_isCourt_13 (by decide) ?_
  exact x_ri hE hr hlo rfl rfl dX9_isCourt_14

theorem dX9_isTeller_0 : decode cX9_isTeller 0 = .ok (.iload_n 1, 1) := by decide +kernel
theorem dX9_isTeller_1 : decode cX9_isTeller 1 = .ok (.i2l, 1) := by decide +kernel
theorem dX9_isTeller_2 : decode cX9_isTeller 2 = .ok (.lconst 0, 1) := by decide +kernel
theorem dX9_isTeller_3 : decode cX9_isTeller 3 = .ok (.aload_n 0, 1) := by decide +kernel
theorem dX9_isTeller_4 : decode cX9_isTeller 4 = .ok (.getfield 34, 3) := by decide +kernel
theorem dX9_isTeller_7 : decode cX9_isTeller 7 = .ok (.iconst 0, 1) := by decide +kernel
theorem dX9_isTeller_8 : decode cX9_isTeller 8 = .ok (.iaload, 1) := by decide +kernel
theorem dX9_isTeller_9 : decode cX9_isTeller 9 = .ok (.iconst 1, 1) := by decide +kernel
theorem dX9_isTeller_10 : decode cX9_isTeller 10 = .ok (.isub, 1) := by decide +kernel
theorem dX9_isTeller_11 : decode cX9_isTeller 11 = .ok (.i2l, 1) := by decide +kernel
theorem dX9_isTeller_12 : decode cX9_isTeller 12 = .ok (.invokestatic 86, 3) := by decide +kernel
theorem dX9_isTeller_15 : decode cX9_isTeller 15 = .ok (.ireturn, 1) := by decide +kernel
set_option maxHeartbeats 4000000 in
set_option maxRecDepth 100000 in
theorem k_X9_isTeller (l : Launch) (D : va_G) (K : Nat → ClassId) (ad : Nat → Nat) (p1 : Int32) : Met l yX9_isTeller (wM yX9_isTeller cX9_isTeller 2 (some .boolean)) (rmD 1) (va_Pc [.ref (ad 0), .int p1] (wPre D K ad (yG ad K) 21 yv0 ya0 yl0)) (vp_Si (fun r => r = 0)) 0 0 (fun _ => False) := by
  refine x_met (by decide) (Nat.le_of_ble_eq_true rfl) ?_
  intro p e s m below meth c ls hE hr hlo hnm hB hl
  have hE : CallFix p m c cX9_isTeller 2 s _ tbG "TaleCourtModel" := hE
  obtain ⟨hP, hK, hN⟩ := hB
  have hS : va_S (inW ad 21) s.heap s.heap [] := va_S.rf
  have hl : lv_has ls 2 [(0, .ref (ad 0)), (1, .int p1)] := hl
  refine lv_iload_n hE.1 hE.2.1 dX9_isTeller_0 rfl (lv_at hl 1 rfl) ?_
  refine lv_i2l (v := (p1.toInt64)) hE.1 hE.2.1 dX9_isTeller_1 rfl ?_
  refine lv_lconst (v := 0) hE.1 hE.2.1 dX9_isTeller_2 (by decide) ?_
  refine lv_aload_n hE.1 hE.2.1 dX9_isTeller_3 rfl (lv_at hl 0 rfl) ?_
  refine x_get (x := .ref (ad 7)) hE hK hP 0 (by decide) (yG_9 rfl) rfl hin9 17 (by decide) mw_1351 rfl dX9_isTeller_4 ?_
  refine lv_iconst (v := 0) hE.1 hE.2.1 dX9_isTeller_7 (by decide) ?_
  refine x_iald (j := 0) hE hK hP 7 (by decide) (yG_10 rfl) (by unfold vp_in; decide) dX9_isTeller_8 ?_
  refine x_top (y := 0) (by decide) ?_
  refine lv_iconst (v := 1) hE.1 hE.2.1 dX9_isTeller_9 (by decide) ?_
  refine lv_isub hE.1 hE.2.1 dX9_isTeller_10 ?_
  refine x_top (y := (-1)) (by decide) ?_
  refine lv_i2l (v := (-1)) hE.1 hE.2.1 dX9_isTeller_11 (by decide) ?_
  refine x_sp (nn := 3) (As := [.long (p1.toInt64), .long 0, .long (-1)]) (rest := []) hE (k_X9_in l (p1.toInt64) 0 (-1)) tt_blind (fun _ _ _ => trivial) rfl mw_1494 mw_1495 mw_123 mw_1496 (by decide +kernel) ⟨by decide, by decide⟩ hl.1 rfl (by decide) ⟨Nat.zero_le _, Nat.zero_le _⟩ dX9_isTeller_12 (fun r hr => ?_)
  subst hr
  refine x_top (y := 0) (inL_none _) ?_
  exact x_ri hE hr hlo rfl rfl dX9_isTeller_15

theorem dX9_whyNoGame_0 : decode cX9_whyNoGame 0 = .ok (.aload_n 0, 1) := by decide +kernel
theorem dX9_whyNoGame_1 : decode cX9_whyNoGame 1 = .ok (.invokevirtual 301, 3) := by decide +kernel
theorem dX9_whyNoGame_4 : decode cX9_whyNoGame 4 = .ok (.ifCond .ne 8, 3) := by decide +kernel
theorem dX9_whyNoGame_7 : decode cX9_whyNoGame 7 = .ok (.bipush (-2), 2) := by decide +kernel
theorem dX9_whyNoGame_9 : decode cX9_whyNoGame 9 = .ok (.goto 19, 3) := by decide +kernel
theorem dX9_whyNoGame_28 : decode cX9_whyNoGame 28 = .ok (.ireturn, 1) := by decide +kernel
set_option maxHeartbeats 4000000 in
set_option maxRecDepth 100000 in
theorem k_X9_whyNoGame (l : Launch) (D : va_G) (K : Nat → ClassId) (ad : Nat → Nat) : Met l yX9_whyNoGame (wM yX9_whyNoGame cX9_whyNoGame 1 (some .int)) (rmD 1) (va_Pc [.ref (ad 0)] (wPre D K ad (yG ad K) 21 yv0 ya0 yl0)) (vp_Si (fun r => r = (-2))) 0 0 (fun _ => False) := by
  refine x_met (by decide) (Nat.le_of_ble_eq_true rfl) ?_
  intro p e s m below meth c ls hE hr hlo hnm hB hl
  have hE : CallFix p m c cX9_whyNoGame 1 s _ tbG "TaleCourtModel" := hE
  obtain ⟨hP, hK, hN⟩ := hB
  have hS : va_S (inW ad 21) s.heap s.heap [] := va_S.rf
  have hl : lv_has ls 1 [(0, .ref (ad 0))] := hl
  refine lv_aload_n hE.1 hE.2.1 dX9_whyNoGame_0 rfl (lv_at hl 0 rfl) ?_
  refine x_vp (nn := 0) (As := []) (rest := []) hE (k_X9_isCourt l D K ad ) wPre_blind (wPre_now hK hN hP) (x_recv hK hP 0 (by decide) (yG_9 rfl) rfl) rfl mw_1718 mw_1720 mw_79 mw_123 mw_1721 (by decide +kernel) ⟨by decide, by decide⟩ hl.1 rfl (by decide) ⟨Nat.zero_le _, Nat.zero_le _⟩ dX9_whyNoGame_1 (fun r hr => ?_)
  subst hr
  refine lv_if_ne (tgt := 12) hE.1 hE.2.1 dX9_whyNoGame_4 (by decide) (fun h => absurd (by decide) h) (fun _ => ?_)
  refine lv_bipush (v := (-2)) hE.1 hE.2.1 dX9_whyNoGame_7 (by decide) ?_
  refine lv_goto (tgt := 28) hE.1 hE.2.1 dX9_whyNoGame_9 (by decide) ?_
  exact x_ri hE hr hlo rfl rfl dX9_whyNoGame_28

theorem dX9_whyNoRow_0 : decode cX9_whyNoRow 0 = .ok (.iload_n 1, 1) := by decide +kernel
theorem dX9_whyNoRow_1 : decode cX9_whyNoRow 1 = .ok (.invokestatic 90, 3) := by decide +kernel
theorem dX9_whyNoRow_4 : decode cX9_whyNoRow 4 = .ok (.ifCond .eq 10, 3) := by decide +kernel
theorem dX9_whyNoRow_7 : decode cX9_whyNoRow 7 = .ok (.aload_n 0, 1) := by decide +kernel
theorem dX9_whyNoRow_8 : decode cX9_whyNoRow 8 = .ok (.invokevirtual 301, 3) := by decide +kernel
theorem dX9_whyNoRow_11 : decode cX9_whyNoRow 11 = .ok (.ifCond .ne 8, 3) := by decide +kernel
theorem dX9_whyNoRow_14 : decode cX9_whyNoRow 14 = .ok (.bipush (-2), 2) := by decide +kernel
theorem dX9_whyNoRow_16 : decode cX9_whyNoRow 16 = .ok (.goto 19, 3) := by decide +kernel
theorem dX9_whyNoRow_35 : decode cX9_whyNoRow 35 = .ok (.ireturn, 1) := by decide +kernel
set_option maxHeartbeats 4000000 in
set_option maxRecDepth 100000 in
theorem k_X9_whyNoRow (l : Launch) (D : va_G) (K : Nat → ClassId) (ad : Nat → Nat) (p1 : Int32) : Met l yX9_whyNoRow (wM yX9_whyNoRow cX9_whyNoRow 2 (some .int)) (rmD 2) (va_Pc [.ref (ad 0), .int p1] (wPre D K ad (yG ad K) 21 yv0 ya0 yl0)) (vp_Si (fun r => r = (-2))) 0 0 (fun _ => False) := by
  refine x_met (by decide) (Nat.le_of_ble_eq_true rfl) ?_
  intro p e s m below meth c ls hE hr hlo hnm hB hl
  have hE : CallFix p m c cX9_whyNoRow 2 s _ tbG "TaleCourtModel" := hE
  obtain ⟨hP, hK, hN⟩ := hB
  have hS : va_S (inW ad 21) s.heap s.heap [] := va_S.rf
  have hl : lv_has ls 2 [(0, .ref (ad 0)), (1, .int p1)] := hl
  refine lv_iload_n hE.1 hE.2.1 dX9_whyNoRow_0 rfl (lv_at hl 1 rfl) ?_
  refine x_sp (nn := 1) (As := [.int p1]) (rest := []) hE (k_X9_isSlot l p1) tt_blind (fun _ _ _ => trivial) rfl mw_1490 mw_1491 mw_123 mw_1492 (by decide +kernel) ⟨by decide, by decide⟩ hl.1 rfl (by decide) ⟨Nat.zero_le _, Nat.zero_le _⟩ dX9_whyNoRow_1 (fun r hr => ?_)
  subst hr
  refine lv_if_eq (tgt := 14) hE.1 hE.2.1 dX9_whyNoRow_4 (by decide) (fun c_1 => ?_) (fun c_1 => ?_)
  · skip
    refine lv_bipush (v := (-2)) hE.1 hE.2.1 dX9_whyNoRow_14 (by decide) ?_
    refine lv_goto (tgt := 35) hE.1 hE.2.1 dX9_whyNoRow_16 (by decide) ?_
    exact x_ri hE hr hlo rfl rfl dX9_whyNoRow_35
  · skip
    refine lv_aload_n hE.1 hE.2.1 dX9_whyNoRow_7 rfl (lv_at hl 0 rfl) ?_
    refine x_vp (nn := 0) (As := []) (rest := []) hE (k_X9_isCourt l D K ad ) wPre_blind (wPre_now hK hN hP) (x_recv hK hP 0 (by decide) (yG_9 rfl) rfl) rfl mw_1718 mw_1720 mw_79 mw_123 mw_1721 (by decide +kernel) ⟨by decide, by decide⟩ hl.1 rfl (by decide) ⟨Nat.zero_le _, Nat.zero_le _⟩ dX9_whyNoRow_8 (fun r hr => ?_)
    subst hr
    refine lv_if_ne (tgt := 19) hE.1 hE.2.1 dX9_whyNoRow_11 (by decide) (fun h => absurd (by decide) h) (fun _ => ?_)
    refine lv_bipush (v := (-2)) hE.1 hE.2.1 dX9_whyNoRow_14 (by decide) ?_
    refine lv_goto (tgt := 35) hE.1 hE.2.1 dX9_whyNoRow_16 (by decide) ?_
    exact x_ri hE hr hlo rfl rfl dX9_whyNoRow_35

theorem dX9_whyNotTold_0 : decode cX9_whyNotTold 0 = .ok (.aload_n 0, 1) := by decide +kernel
theorem dX9_whyNotTold_1 : decode cX9_whyNotTold 1 = .ok (.iload_n 1, 1) := by decide +kernel
theorem dX9_whyNotTold_2 : decode cX9_whyNotTold 2 = .ok (.invokevirtual 418, 3) := by decide +kernel
theorem dX9_whyNotTold_5 : decode cX9_whyNotTold 5 = .ok (.istore_n 3, 1) := by decide +kernel
theorem dX9_whyNotTold_6 : decode cX9_whyNotTold 6 = .ok (.iload_n 3, 1) := by decide +kernel
theorem dX9_whyNotTold_7 : decode cX9_whyNotTold 7 = .ok (.ifCond .eq 5, 3) := by decide +kernel
theorem dX9_whyNotTold_10 : decode cX9_whyNotTold 10 = .ok (.iload_n 3, 1) := by decide +kernel
theorem dX9_whyNotTold_11 : decode cX9_whyNotTold 11 = .ok (.ireturn, 1) := by decide +kernel
set_option maxHeartbeats 4000000 in
set_option maxRecDepth 100000 in
theorem k_X9_whyNotTold (l : Launch) (D : va_G) (K : Nat → ClassId) (ad : Nat → Nat) (p1 : Int32) (p2 : Int32) : Met l yX9_whyNotTold (wM yX9_whyNotTold cX9_whyNotTold 9 (some .int)) (rmD 3) (va_Pc [.ref (ad 0), .int p1, .int p2] (wPre D K ad (yG ad K) 21 yv0 ya0 yl0)) (vp_Si (fun r => r = (-2))) 0 0 (fun _ => False) := by
  refine x_met (by decide) (Nat.le_of_ble_eq_true rfl) ?_
  intro p e s m below meth c ls hE hr hlo hnm hB hl
  have hE : CallFix p m c cX9_whyNotTold 9 s _ tbG "TaleCourtModel" := hE
  obtain ⟨hP, hK, hN⟩ := hB
  have hS : va_S (inW ad 21) s.heap s.heap [] := va_S.rf
  have hl : lv_has ls 9 [(0, .ref (ad 0)), (1, .int p1), (2, .int p2)] := hl
  refine lv_aload_n hE.1 hE.2.1 dX9_whyNotTold_0 rfl (lv_at hl 0 rfl) ?_
  refine lv_iload_n hE.1 hE.2.1 dX9_whyNotTold_1 rfl (lv_at hl 1 rfl) ?_
  refine x_vp (nn := 1) (As := [.int p1]) (rest := []) hE (k_X9_whyNoRow l D K ad p1) wPre_blind (wPre_now hK hN hP) (x_recv hK hP 0 (by decide) (yG_9 rfl) rfl) rfl mw_1974 mw_1976 mw_104 mw_123 mw_1977 (by decide +kernel) ⟨by decide, by decide⟩ hl.1 rfl (by decide) ⟨Nat.zero_le _, Nat.zero_le _⟩ dX9_whyNotTold_2 (fun r hr => ?_)
  subst hr
  refine lv_istore_n (lv' := [(3, .int (-2)), (0, .ref (ad 0)), (1, .int p1), (2, .int p2)]) hE.1 hE.2.1 dX9_whyNotTold_5 rfl hl (by decide) rfl (fun ls hl => ?_)
  refine lv_iload_n hE.1 hE.2.1 dX9_whyNotTold_6 rfl (lv_at hl 0 rfl) ?_
  refine lv_if_eq (tgt := 12) hE.1 hE.2.1 dX9_whyNotTold_7 (by decide) (fun h => absurd h (by decide)) (fun _ => ?_)
  refine lv_iload_n hE.1 hE.2.1 dX9_whyNotTold_10 rfl (lv_at hl 0 rfl) ?_
  exact x_ri hE hr hlo rfl rfl dX9_whyNotTold_11

theorem dX9_isSeed_0 : decode cX9_isSeed 0 = .ok (.aload_n 0, 1) := by decide +kernel
theorem dX9_isSeed_1 : decode cX9_isSeed 1 = .ok (.invokevirtual 301, 3) := by decide +kernel
theorem dX9_isSeed_4 : decode cX9_isSeed 4 = .ok (.ifCond .eq 19, 3) := by decide +kernel
theorem dX9_isSeed_23 : decode cX9_isSeed 23 = .ok (.iconst 0, 1) := by decide +kernel
theorem dX9_isSeed_24 : decode cX9_isSeed 24 = .ok (.ireturn, 1) := by decide +kernel
set_option maxHeartbeats 4000000 in
set_option maxRecDepth 100000 in
theorem k_X9_isSeed (l : Launch) (D : va_G) (K : Nat → ClassId) (ad : Nat → Nat) (p1 : Int32) : Met l yX9_isSeed (wM yX9_isSeed cX9_isSeed 2 (some .boolean)) (rmD 1) (va_Pc [.ref (ad 0), .int p1] (wPre D K ad (yG ad K) 21 yv0 ya0 yl0)) (vp_Si (fun r => r = 0)) 0 0 (fun _ => False) := by
  refine x_met (by decide) (Nat.le_of_ble_eq_true rfl) ?_
  intro p e s m below meth c ls hE hr hlo hnm hB hl
  have hE : CallFix p m c cX9_isSeed 2 s _ tbG "TaleCourtModel" := hE
  obtain ⟨hP, hK, hN⟩ := hB
  have hS : va_S (inW ad 21) s.heap s.heap [] := va_S.rf
  have hl : lv_has ls 2 [(0, .ref (ad 0)), (1, .int p1)] := hl
  refine lv_aload_n hE.1 hE.2.1 dX9_isSeed_0 rfl (lv_at hl 0 rfl) ?_
  refine x_vp (nn := 0) (As := []) (rest := []) hE (k_X9_isCourt l D K ad ) wPre_blind (wPre_now hK hN hP) (x_recv hK hP 0 (by decide) (yG_9 rfl) rfl) rfl mw_1718 mw_1720 mw_79 mw_123 mw_1721 (by decide +kernel) ⟨by decide, by decide⟩ hl.1 rfl (by decide) ⟨Nat.zero_le _, Nat.zero_le _⟩ dX9_isSeed_1 (fun r hr => ?_)
  subst hr
  refine lv_if_eq (tgt := 23) hE.1 hE.2.1 dX9_isSeed_4 (by decide) (fun _ => ?_) (fun h => absurd (by decide) h)
  refine lv_iconst (v := 0) hE.1 hE.2.1 dX9_isSeed_23 (by decide) ?_
  exact x_ri hE hr hlo rfl rfl dX9_isSeed_24
end
section
theorem dX9_motif_0 : decode cX9_motif 0 = .ok (.aload_n 0, 1) := by decide +kernel
theorem dX9_motif_1 : decode cX9_motif 1 = .ok (.iconst 0, 1) := by decide +kernel
theorem dX9_motif_2 : decode cX9_motif 2 = .ok (.putfield 81, 3) := by decide +kernel
theorem dX9_motif_5 : decode cX9_motif 5 = .ok (.aload_n 0, 1) := by decide +kernel
theorem dX9_motif_6 : decode cX9_motif 6 = .ok (.iload_n 1, 1) := by decide +kernel
theorem dX9_motif_7 : decode cX9_motif 7 = .ok (.i2l, 1) := by decide +kernel
theorem dX9_motif_8 : decode cX9_motif 8 = .ok (.invokevirtual 253, 3) := by decide +kernel
theorem dX9_motif_11 : decode cX9_motif 11 = .ok (.ifCond .eq 15, 3) := by decide +kernel
theorem dX9_motif_26 : decode cX9_motif 26 = .ok (.bipush (-2), 2) := by decide +kernel
theorem dX9_motif_28 : decode cX9_motif 28 = .ok (.ireturn, 1) := by decide +kernel
set_option maxHeartbeats 4000000 in
set_option maxRecDepth 100000 in
theorem k_X9_motif (l : Launch) (D : va_G) (K : Nat → ClassId) (ad : Nat → Nat) (p1 : Int32) (p2 : Int32) : Met l yX9_motif (wM yX9_motif cX9_motif 3 (some .int)) (rmD 2) (va_Pc [.ref (ad 0), .int p1, .int p2] (wPre D K ad (yG ad K) 21 yv0 ya0 yl0)) (va_Qi (fun r _ => r = (-2)) (wB D ad (yG ad K) 21) (inW ad 21)) 0 0 (inW ad 21) := by
  refine x_met (by decide) (Nat.le_of_ble_eq_true rfl) ?_
  intro p e s m below meth c ls hE hr hlo hnm hB hl
  have hE : CallFix p m c cX9_motif 3 s _ tbG "TaleCourtModel" := hE
  obtain ⟨hP, hK, hN⟩ := hB
  have hS : va_S (inW ad 21) s.heap s.heap [] := va_S.rf
  have hl : lv_has ls 3 [(0, .ref (ad 0)), (1, .int p1), (2, .int p2)] := hl
  refine lv_aload_n hE.1 hE.2.1 dX9_motif_0 rfl (lv_at hl 0 rfl) ?_
  refine lv_iconst (v := 0) hE.1 hE.2.1 dX9_motif_1 (by decide) ?_
  refine x_put hE hK hN hP hS 0 (by decide) (yG_9 rfl) rfl hin9 tyX9 tyX9_ok nmX9 0 (by decide) mw_1334 rfl rfl rfl (Nat.le_of_ble_eq_true rfl) (yG_9 rfl) dX9_motif_2 (fun v1 H locs hv hP hS => ?_)
  obtain rfl := hv.trans (up_same (by decide))
  refine lv_aload_n hE.1 hE.2.1 dX9_motif_5 rfl (lv_at hl 0 rfl) ?_
  refine lv_iload_n hE.1 hE.2.1 dX9_motif_6 rfl (lv_at hl 1 rfl) ?_
  refine lv_i2l (v := (p1.toInt64)) hE.1 hE.2.1 dX9_motif_7 rfl ?_
  refine x_vp (nn := 1) (As := [.long (p1.toInt64)]) (rest := []) hE (k_X9_isMotif l D K ad (p1.toInt64)) wPre_blind (wPre_now hK hN hP) (x_recv hK hP 0 (by decide) (yG_9 rfl) rfl) rfl mw_1662 mw_1664 mw_74 mw_123 mw_1665 (by decide +kernel) ⟨by decide, by decide⟩ hl.1 rfl (by decide) ⟨Nat.zero_le _, Nat.zero_le _⟩ dX9_motif_8 (fun r hr => ?_)
  subst hr
  refine lv_if_eq (tgt := 26) hE.1 hE.2.1 dX9_motif_11 (by decide) (fun _ => ?_) (fun h => absurd (by decide) h)
  refine lv_bipush (v := (-2)) hE.1 hE.2.1 dX9_motif_26 (by decide) ?_
  exact x_wi hE hr hlo hP hS rfl rfl dX9_motif_28

theorem dX9_joins_0 : decode cX9_joins 0 = .ok (.aload_n 0, 1) := by decide +kernel
theorem dX9_joins_1 : decode cX9_joins 1 = .ok (.iconst 0, 1) := by decide +kernel
theorem dX9_joins_2 : decode cX9_joins 2 = .ok (.putfield 81, 3) := by decide +kernel
theorem dX9_joins_5 : decode cX9_joins 5 = .ok (.aload_n 0, 1) := by decide +kernel
theorem dX9_joins_6 : decode cX9_joins 6 = .ok (.iload_n 1, 1) := by decide +kernel
theorem dX9_joins_7 : decode cX9_joins 7 = .ok (.i2l, 1) := by decide +kernel
theorem dX9_joins_8 : decode cX9_joins 8 = .ok (.invokevirtual 253, 3) := by decide +kernel
theorem dX9_joins_11 : decode cX9_joins 11 = .ok (.ifCond .eq 26, 3) := by decide +kernel
theorem dX9_joins_37 : decode cX9_joins 37 = .ok (.bipush (-2), 2) := by decide +kernel
theorem dX9_joins_39 : decode cX9_joins 39 = .ok (.ireturn, 1) := by decide +kernel
set_option maxHeartbeats 4000000 in
set_option maxRecDepth 100000 in
theorem k_X9_joins (l : Launch) (D : va_G) (K : Nat → ClassId) (ad : Nat → Nat) (p1 : Int32) (p2 : Int32) : Met l yX9_joins (wM yX9_joins cX9_joins 3 (some .int)) (rmD 2) (va_Pc [.ref (ad 0), .int p1, .int p2] (wPre D K ad (yG ad K) 21 yv0 ya0 yl0)) (va_Qi (fun r _ => r = (-2)) (wB D ad (yG ad K) 21) (inW ad 21)) 0 0 (inW ad 21) := by
  refine x_met (by decide) (Nat.le_of_ble_eq_true rfl) ?_
  intro p e s m below meth c ls hE hr hlo hnm hB hl
  have hE : CallFix p m c cX9_joins 3 s _ tbG "TaleCourtModel" := hE
  obtain ⟨hP, hK, hN⟩ := hB
  have hS : va_S (inW ad 21) s.heap s.heap [] := va_S.rf
  have hl : lv_has ls 3 [(0, .ref (ad 0)), (1, .int p1), (2, .int p2)] := hl
  refine lv_aload_n hE.1 hE.2.1 dX9_joins_0 rfl (lv_at hl 0 rfl) ?_
  refine lv_iconst (v := 0) hE.1 hE.2.1 dX9_joins_1 (by decide) ?_
  refine x_put hE hK hN hP hS 0 (by decide) (yG_9 rfl) rfl hin9 tyX9 tyX9_ok nmX9 0 (by decide) mw_1334 rfl rfl rfl (Nat.le_of_ble_eq_true rfl) (yG_9 rfl) dX9_joins_2 (fun v1 H locs hv hP hS => ?_)
  obtain rfl := hv.trans (up_same (by decide))
  refine lv_aload_n hE.1 hE.2.1 dX9_joins_5 rfl (lv_at hl 0 rfl) ?_
  refine lv_iload_n hE.1 hE.2.1 dX9_joins_6 rfl (lv_at hl 1 rfl) ?_
  refine lv_i2l (v := (p1.toInt64)) hE.1 hE.2.1 dX9_joins_7 rfl ?_
  refine x_vp (nn := 1) (As := [.long (p1.toInt64)]) (rest := []) hE (k_X9_isMotif l D K ad (p1.toInt64)) wPre_blind (wPre_now hK hN hP) (x_recv hK hP 0 (by decide) (yG_9 rfl) rfl) rfl mw_1662 mw_1664 mw_74 mw_123 mw_1665 (by decide +kernel) ⟨by decide, by decide⟩ hl.1 rfl (by decide) ⟨Nat.zero_le _, Nat.zero_le _⟩ dX9_joins_8 (fun r hr => ?_)
  subst hr
  refine lv_if_eq (tgt := 37) hE.1 hE.2.1 dX9_joins_11 (by decide) (fun _ => ?_) (fun h => absurd (by decide) h)
  refine lv_bipush (v := (-2)) hE.1 hE.2.1 dX9_joins_37 (by decide) ?_
  exact x_wi hE hr hlo hP hS rfl rfl dX9_joins_39

theorem dX9_clash_0 : decode cX9_clash 0 = .ok (.aload_n 0, 1) := by decide +kernel
theorem dX9_clash_1 : decode cX9_clash 1 = .ok (.iconst 0, 1) := by decide +kernel
theorem dX9_clash_2 : decode cX9_clash 2 = .ok (.putfield 81, 3) := by decide +kernel
theorem dX9_clash_5 : decode cX9_clash 5 = .ok (.aload_n 0, 1) := by decide +kernel
theorem dX9_clash_6 : decode cX9_clash 6 = .ok (.iload_n 1, 1) := by decide +kernel
theorem dX9_clash_7 : decode cX9_clash 7 = .ok (.i2l, 1) := by decide +kernel
theorem dX9_clash_8 : decode cX9_clash 8 = .ok (.invokevirtual 253, 3) := by decide +kernel
theorem dX9_clash_11 : decode cX9_clash 11 = .ok (.ifCond .eq 26, 3) := by decide +kernel
theorem dX9_clash_37 : decode cX9_clash 37 = .ok (.bipush (-2), 2) := by decide +kernel
theorem dX9_clash_39 : decode cX9_clash 39 = .ok (.ireturn, 1) := by decide +kernel
set_option maxHeartbeats 4000000 in
set_option maxRecDepth 100000 in
theorem k_X9_clash (l : Launch) (D : va_G) (K : Nat → ClassId) (ad : Nat → Nat) (p1 : Int32) (p2 : Int32) : Met l yX9_clash (wM yX9_clash cX9_clash 3 (some .int)) (rmD 2) (va_Pc [.ref (ad 0), .int p1, .int p2] (wPre D K ad (yG ad K) 21 yv0 ya0 yl0)) (va_Qi (fun r _ => r = (-2)) (wB D ad (yG ad K) 21) (inW ad 21)) 0 0 (inW ad 21) := by
  refine x_met (by decide) (Nat.le_of_ble_eq_true rfl) ?_
  intro p e s m below meth c ls hE hr hlo hnm hB hl
  have hE : CallFix p m c cX9_clash 3 s _ tbG "TaleCourtModel" := hE
  obtain ⟨hP, hK, hN⟩ := hB
  have hS : va_S (inW ad 21) s.heap s.heap [] := va_S.rf
  have hl : lv_has ls 3 [(0, .ref (ad 0)), (1, .int p1), (2, .int p2)] := hl
  refine lv_aload_n hE.1 hE.2.1 dX9_clash_0 rfl (lv_at hl 0 rfl) ?_
  refine lv_iconst (v := 0) hE.1 hE.2.1 dX9_clash_1 (by decide) ?_
  refine x_put hE hK hN hP hS 0 (by decide) (yG_9 rfl) rfl hin9 tyX9 tyX9_ok nmX9 0 (by decide) mw_1334 rfl rfl rfl (Nat.le_of_ble_eq_true rfl) (yG_9 rfl) dX9_clash_2 (fun v1 H locs hv hP hS => ?_)
  obtain rfl := hv.trans (up_same (by decide))
  refine lv_aload_n hE.1 hE.2.1 dX9_clash_5 rfl (lv_at hl 0 rfl) ?_
  refine lv_iload_n hE.1 hE.2.1 dX9_clash_6 rfl (lv_at hl 1 rfl) ?_
  refine lv_i2l (v := (p1.toInt64)) hE.1 hE.2.1 dX9_clash_7 rfl ?_
  refine x_vp (nn := 1) (As := [.long (p1.toInt64)]) (rest := []) hE (k_X9_isMotif l D K ad (p1.toInt64)) wPre_blind (wPre_now hK hN hP) (x_recv hK hP 0 (by decide) (yG_9 rfl) rfl) rfl mw_1662 mw_1664 mw_74 mw_123 mw_1665 (by decide +kernel) ⟨by decide, by decide⟩ hl.1 rfl (by decide) ⟨Nat.zero_le _, Nat.zero_le _⟩ dX9_clash_8 (fun r hr => ?_)
  subst hr
  refine lv_if_eq (tgt := 37) hE.1 hE.2.1 dX9_clash_11 (by decide) (fun _ => ?_) (fun h => absurd (by decide) h)
  refine lv_bipush (v := (-2)) hE.1 hE.2.1 dX9_clash_37 (by decide) ?_
  exact x_wi hE hr hlo hP hS rfl rfl dX9_clash_39

theorem dX9_behind_0 : decode cX9_behind 0 = .ok (.aload_n 0, 1) := by decide +kernel
theorem dX9_behind_1 : decode cX9_behind 1 = .ok (.iconst 0, 1) := by decide +kernel
theorem dX9_behind_2 : decode cX9_behind 2 = .ok (.putfield 81, 3) := by decide +kernel
theorem dX9_behind_5 : decode cX9_behind 5 = .ok (.aload_n 0, 1) := by decide +kernel
theorem dX9_behind_6 : decode cX9_behind 6 = .ok (.iload_n 1, 1) := by decide +kernel
theorem dX9_behind_7 : decode cX9_behind 7 = .ok (.i2l, 1) := by decide +kernel
theorem dX9_behind_8 : decode cX9_behind 8 = .ok (.invokevirtual 253, 3) := by decide +kernel
theorem dX9_behind_11 : decode cX9_behind 11 = .ok (.ifCond .eq 13, 3) := by decide +kernel
theorem dX9_behind_24 : decode cX9_behind 24 = .ok (.bipush (-2), 2) := by decide +kernel
theorem dX9_behind_26 : decode cX9_behind 26 = .ok (.ireturn, 1) := by decide +kernel
set_option maxHeartbeats 4000000 in
set_option maxRecDepth 100000 in
theorem k_X9_behind (l : Launch) (D : va_G) (K : Nat → ClassId) (ad : Nat → Nat) (p1 : Int32) : Met l yX9_behind (wM yX9_behind cX9_behind 2 (some .int)) (rmD 2) (va_Pc [.ref (ad 0), .int p1] (wPre D K ad (yG ad K) 21 yv0 ya0 yl0)) (va_Qi (fun r _ => r = (-2)) (wB D ad (yG ad K) 21) (inW ad 21)) 0 0 (inW ad 21) := by
  refine x_met (by decide) (Nat.le_of_ble_eq_true rfl) ?_
  intro p e s m below meth c ls hE hr hlo hnm hB hl
  have hE : CallFix p m c cX9_behind 2 s _ tbG "TaleCourtModel" := hE
  obtain ⟨hP, hK, hN⟩ := hB
  have hS : va_S (inW ad 21) s.heap s.heap [] := va_S.rf
  have hl : lv_has ls 2 [(0, .ref (ad 0)), (1, .int p1)] := hl
  refine lv_aload_n hE.1 hE.2.1 dX9_behind_0 rfl (lv_at hl 0 rfl) ?_
  refine lv_iconst (v := 0) hE.1 hE.2.1 dX9_behind_1 (by decide) ?_
  refine x_put hE hK hN hP hS 0 (by decide) (yG_9 rfl) rfl hin9 tyX9 tyX9_ok nmX9 0 (by decide) mw_1334 rfl rfl rfl (Nat.le_of_ble_eq_true rfl) (yG_9 rfl) dX9_behind_2 (fun v1 H locs hv hP hS => ?_)
  obtain rfl := hv.trans (up_same (by decide))
  refine lv_aload_n hE.1 hE.2.1 dX9_behind_5 rfl (lv_at hl 0 rfl) ?_
  refine lv_iload_n hE.1 hE.2.1 dX9_behind_6 rfl (lv_at hl 1 rfl) ?_
  refine lv_i2l (v := (p1.toInt64)) hE.1 hE.2.1 dX9_behind_7 rfl ?_
  refine x_vp (nn := 1) (As := [.long (p1.toInt64)]) (rest := []) hE (k_X9_isMotif l D K ad (p1.toInt64)) wPre_blind (wPre_now hK hN hP) (x_recv hK hP 0 (by decide) (yG_9 rfl) rfl) rfl mw_1662 mw_1664 mw_74 mw_123 mw_1665 (by decide +kernel) ⟨by decide, by decide⟩ hl.1 rfl (by decide) ⟨Nat.zero_le _, Nat.zero_le _⟩ dX9_behind_8 (fun r hr => ?_)
  subst hr
  refine lv_if_eq (tgt := 24) hE.1 hE.2.1 dX9_behind_11 (by decide) (fun _ => ?_) (fun h => absurd (by decide) h)
  refine lv_bipush (v := (-2)) hE.1 hE.2.1 dX9_behind_24 (by decide) ?_
  exact x_wi hE hr hlo hP hS rfl rfl dX9_behind_26

theorem dX9_ahead_0 : decode cX9_ahead 0 = .ok (.aload_n 0, 1) := by decide +kernel
theorem dX9_ahead_1 : decode cX9_ahead 1 = .ok (.iconst 0, 1) := by decide +kernel
theorem dX9_ahead_2 : decode cX9_ahead 2 = .ok (.putfield 81, 3) := by decide +kernel
theorem dX9_ahead_5 : decode cX9_ahead 5 = .ok (.aload_n 0, 1) := by decide +kernel
theorem dX9_ahead_6 : decode cX9_ahead 6 = .ok (.iload_n 1, 1) := by decide +kernel
theorem dX9_ahead_7 : decode cX9_ahead 7 = .ok (.i2l, 1) := by decide +kernel
theorem dX9_ahead_8 : decode cX9_ahead 8 = .ok (.invokevirtual 253, 3) := by decide +kernel
theorem dX9_ahead_11 : decode cX9_ahead 11 = .ok (.ifCond .ne 6, 3) := by decide +kernel
theorem dX9_ahead_14 : decode cX9_ahead 14 = .ok (.bipush (-2), 2) := by decide +kernel
theorem dX9_ahead_16 : decode cX9_ahead 16 = .ok (.ireturn, 1) := by decide +kernel
set_option maxHeartbeats 4000000 in
set_option maxRecDepth 100000 in
theorem k_X9_ahead (l : Launch) (D : va_G) (K : Nat → ClassId) (ad : Nat → Nat) (p1 : Int32) : Met l yX9_ahead (wM yX9_ahead cX9_ahead 4 (some .int)) (rmD 2) (va_Pc [.ref (ad 0), .int p1] (wPre D K ad (yG ad K) 21 yv0 ya0 yl0)) (va_Qi (fun r _ => r = (-2)) (wB D ad (yG ad K) 21) (inW ad 21)) 0 0 (inW ad 21) := by
  refine x_met (by decide) (Nat.le_of_ble_eq_true rfl) ?_
  intro p e s m below meth c ls hE hr hlo hnm hB hl
  have hE : CallFix p m c cX9_ahead 4 s _ tbG "TaleCourtModel" := hE
  obtain ⟨hP, hK, hN⟩ := hB
  have hS : va_S (inW ad 21) s.heap s.heap [] := va_S.rf
  have hl : lv_has ls 4 [(0, .ref (ad 0)), (1, .int p1)] := hl
  refine lv_aload_n hE.1 hE.2.1 dX9_ahead_0 rfl (lv_at hl 0 rfl) ?_
  refine lv_iconst (v := 0) hE.1 hE.2.1 dX9_ahead_1 (by decide) ?_
  refine x_put hE hK hN hP hS 0 (by decide) (yG_9 rfl) rfl hin9 tyX9 tyX9_ok nmX9 0 (by decide) mw_1334 rfl rfl rfl (Nat.le_of_ble_eq_true rfl) (yG_9 rfl) dX9_ahead_2 (fun v1 H locs hv hP hS => ?_)
  obtain rfl := hv.trans (up_same (by decide))
  refine lv_aload_n hE.1 hE.2.1 dX9_ahead_5 rfl (lv_at hl 0 rfl) ?_
  refine lv_iload_n hE.1 hE.2.1 dX9_ahead_6 rfl (lv_at hl 1 rfl) ?_
  refine lv_i2l (v := (p1.toInt64)) hE.1 hE.2.1 dX9_ahead_7 rfl ?_
  refine x_vp (nn := 1) (As := [.long (p1.toInt64)]) (rest := []) hE (k_X9_isMotif l D K ad (p1.toInt64)) wPre_blind (wPre_now hK hN hP) (x_recv hK hP 0 (by decide) (yG_9 rfl) rfl) rfl mw_1662 mw_1664 mw_74 mw_123 mw_1665 (by decide +kernel) ⟨by decide, by decide⟩ hl.1 rfl (by decide) ⟨Nat.zero_le _, Nat.zero_le _⟩ dX9_ahead_8 (fun r hr => ?_)
  subst hr
  refine lv_if_ne (tgt := 17) hE.1 hE.2.1 dX9_ahead_11 (by decide) (fun h => absurd (by decide) h) (fun _ => ?_)
  refine lv_bipush (v := (-2)) hE.1 hE.2.1 dX9_ahead_14 (by decide) ?_
  exact x_wi hE hr hlo hP hS rfl rfl dX9_ahead_16

theorem dX9_comes_0 : decode cX9_comes 0 = .ok (.aload_n 0, 1) := by decide +kernel
theorem dX9_comes_1 : decode cX9_comes 1 = .ok (.iconst 0, 1) := by decide +kernel
theorem dX9_comes_2 : decode cX9_comes 2 = .ok (.putfield 81, 3) := by decide +kernel
theorem dX9_comes_5 : decode cX9_comes 5 = .ok (.aload_n 0, 1) := by decide +kernel
theorem dX9_comes_6 : decode cX9_comes 6 = .ok (.iload_n 1, 1) := by decide +kernel
theorem dX9_comes_7 : decode cX9_comes 7 = .ok (.i2l, 1) := by decide +kernel
theorem dX9_comes_8 : decode cX9_comes 8 = .ok (.invokevirtual 253, 3) := by decide +kernel
theorem dX9_comes_11 : decode cX9_comes 11 = .ok (.ifCond .ne 6, 3) := by decide +kernel
theorem dX9_comes_14 : decode cX9_comes 14 = .ok (.bipush (-2), 2) := by decide +kernel
theorem dX9_comes_16 : decode cX9_comes 16 = .ok (.ireturn, 1) := by decide +kernel
set_option maxHeartbeats 4000000 in
set_option maxRecDepth 100000 in
theorem k_X9_comes (l : Launch) (D : va_G) (K : Nat → ClassId) (ad : Nat → Nat) (p1 : Int32) : Met l yX9_comes (wM yX9_comes cX9_comes 5 (some .int)) (rmD 2) (va_Pc [.ref (ad 0), .int p1] (wPre D K ad (yG ad K) 21 yv0 ya0 yl0)) (va_Qi (fun r _ => r = (-2)) (wB D ad (yG ad K) 21) (inW ad 21)) 0 0 (inW ad 21) := by
  refine x_met (by decide) (Nat.le_of_ble_eq_true rfl) ?_
  intro p e s m below meth c ls hE hr hlo hnm hB hl
  have hE : CallFix p m c cX9_comes 5 s _ tbG "TaleCourtModel" := hE
  obtain ⟨hP, hK, hN⟩ := hB
  have hS : va_S (inW ad 21) s.heap s.heap [] := va_S.rf
  have hl : lv_has ls 5 [(0, .ref (ad 0)), (1, .int p1)] := hl
  refine lv_aload_n hE.1 hE.2.1 dX9_comes_0 rfl (lv_at hl 0 rfl) ?_
  refine lv_iconst (v := 0) hE.1 hE.2.1 dX9_comes_1 (by decide) ?_
  refine x_put hE hK hN hP hS 0 (by decide) (yG_9 rfl) rfl hin9 tyX9 tyX9_ok nmX9 0 (by decide) mw_1334 rfl rfl rfl (Nat.le_of_ble_eq_true rfl) (yG_9 rfl) dX9_comes_2 (fun v1 H locs hv hP hS => ?_)
  obtain rfl := hv.trans (up_same (by decide))
  refine lv_aload_n hE.1 hE.2.1 dX9_comes_5 rfl (lv_at hl 0 rfl) ?_
  refine lv_iload_n hE.1 hE.2.1 dX9_comes_6 rfl (lv_at hl 1 rfl) ?_
  refine lv_i2l (v := (p1.toInt64)) hE.1 hE.2.1 dX9_comes_7 rfl ?_
  refine x_vp (nn := 1) (As := [.long (p1.toInt64)]) (rest := []) hE (k_X9_isMotif l D K ad (p1.toInt64)) wPre_blind (wPre_now hK hN hP) (x_recv hK hP 0 (by decide) (yG_9 rfl) rfl) rfl mw_1662 mw_1664 mw_74 mw_123 mw_1665 (by decide +kernel) ⟨by decide, by decide⟩ hl.1 rfl (by decide) ⟨Nat.zero_le _, Nat.zero_le _⟩ dX9_comes_8 (fun r hr => ?_)
  subst hr
  refine lv_if_ne (tgt := 17) hE.1 hE.2.1 dX9_comes_11 (by decide) (fun h => absurd (by decide) h) (fun _ => ?_)
  refine lv_bipush (v := (-2)) hE.1 hE.2.1 dX9_comes_14 (by decide) ?_
  exact x_wi hE hr hlo hP hS rfl rfl dX9_comes_16

theorem dX9_chain_0 : decode cX9_chain 0 = .ok (.aload_n 0, 1) := by decide +kernel
theorem dX9_chain_1 : decode cX9_chain 1 = .ok (.iconst 0, 1) := by decide +kernel
theorem dX9_chain_2 : decode cX9_chain 2 = .ok (.putfield 81, 3) := by decide +kernel
theorem dX9_chain_5 : decode cX9_chain 5 = .ok (.aload_n 0, 1) := by decide +kernel
theorem dX9_chain_6 : decode cX9_chain 6 = .ok (.iload_n 1, 1) := by decide +kernel
theorem dX9_chain_7 : decode cX9_chain 7 = .ok (.i2l, 1) := by decide +kernel
theorem dX9_chain_8 : decode cX9_chain 8 = .ok (.invokevirtual 253, 3) := by decide +kernel
theorem dX9_chain_11 : decode cX9_chain 11 = .ok (.ifCond .eq 12, 3) := by decide +kernel
theorem dX9_chain_23 : decode cX9_chain 23 = .ok (.bipush (-2), 2) := by decide +kernel
theorem dX9_chain_25 : decode cX9_chain 25 = .ok (.ireturn, 1) := by decide +kernel
set_option maxHeartbeats 4000000 in
set_option maxRecDepth 100000 in
theorem k_X9_chain (l : Launch) (D : va_G) (K : Nat → ClassId) (ad : Nat → Nat) (p1 : Int32) (p2 : Int32) : Met l yX9_chain (wM yX9_chain cX9_chain 7 (some .int)) (rmD 2) (va_Pc [.ref (ad 0), .int p1, .int p2] (wPre D K ad (yG ad K) 21 yv0 ya0 yl0)) (va_Qi (fun r _ => r = (-2)) (wB D ad (yG ad K) 21) (inW ad 21)) 0 0 (inW ad 21) := by
  refine x_met (by decide) (Nat.le_of_ble_eq_true rfl) ?_
  intro p e s m below meth c ls hE hr hlo hnm hB hl
  have hE : CallFix p m c cX9_chain 7 s _ tbG "TaleCourtModel" := hE
  obtain ⟨hP, hK, hN⟩ := hB
  have hS : va_S (inW ad 21) s.heap s.heap [] := va_S.rf
  have hl : lv_has ls 7 [(0, .ref (ad 0)), (1, .int p1), (2, .int p2)] := hl
  refine lv_aload_n hE.1 hE.2.1 dX9_chain_0 rfl (lv_at hl 0 rfl) ?_
  refine lv_iconst (v := 0) hE.1 hE.2.1 dX9_chain_1 (by decide) ?_
  refine x_put hE hK hN hP hS 0 (by decide) (yG_9 rfl) rfl hin9 tyX9 tyX9_ok nmX9 0 (by decide) mw_1334 rfl rfl rfl (Nat.le_of_ble_eq_true rfl) (yG_9 rfl) dX9_chain_2 (fun v1 H locs hv hP hS => ?_)
  obtain rfl := hv.trans (up_same (by decide))
  refine lv_aload_n hE.1 hE.2.1 dX9_chain_5 rfl (lv_at hl 0 rfl) ?_
  refine lv_iload_n hE.1 hE.2.1 dX9_chain_6 rfl (lv_at hl 1 rfl) ?_
  refine lv_i2l (v := (p1.toInt64)) hE.1 hE.2.1 dX9_chain_7 rfl ?_
  refine x_vp (nn := 1) (As := [.long (p1.toInt64)]) (rest := []) hE (k_X9_isMotif l D K ad (p1.toInt64)) wPre_blind (wPre_now hK hN hP) (x_recv hK hP 0 (by decide) (yG_9 rfl) rfl) rfl mw_1662 mw_1664 mw_74 mw_123 mw_1665 (by decide +kernel) ⟨by decide, by decide⟩ hl.1 rfl (by decide) ⟨Nat.zero_le _, Nat.zero_le _⟩ dX9_chain_8 (fun r hr => ?_)
  subst hr
  refine lv_if_eq (tgt := 23) hE.1 hE.2.1 dX9_chain_11 (by decide) (fun _ => ?_) (fun h => absurd (by decide) h)
  refine lv_bipush (v := (-2)) hE.1 hE.2.1 dX9_chain_23 (by decide) ?_
  exact x_wi hE hr hlo hP hS rfl rfl dX9_chain_25

theorem dX9_say_0 : decode cX9_say 0 = .ok (.aload_n 0, 1) := by decide +kernel
theorem dX9_say_1 : decode cX9_say 1 = .ok (.iconst 0, 1) := by decide +kernel
theorem dX9_say_2 : decode cX9_say 2 = .ok (.putfield 81, 3) := by decide +kernel
theorem dX9_say_5 : decode cX9_say 5 = .ok (.aload_n 0, 1) := by decide +kernel
theorem dX9_say_6 : decode cX9_say 6 = .ok (.iload_n 1, 1) := by decide +kernel
theorem dX9_say_7 : decode cX9_say 7 = .ok (.i2l, 1) := by decide +kernel
theorem dX9_say_8 : decode cX9_say 8 = .ok (.invokevirtual 253, 3) := by decide +kernel
theorem dX9_say_11 : decode cX9_say 11 = .ok (.ifCond .ne 6, 3) := by decide +kernel
theorem dX9_say_14 : decode cX9_say 14 = .ok (.bipush (-2), 2) := by decide +kernel
theorem dX9_say_16 : decode cX9_say 16 = .ok (.ireturn, 1) := by decide +kernel
set_option maxHeartbeats 4000000 in
set_option maxRecDepth 100000 in
theorem k_X9_say (l : Launch) (D : va_G) (K : Nat → ClassId) (ad : Nat → Nat) (p1 : Int32) : Met l yX9_say (wM yX9_say cX9_say 2 (some .int)) (rmD 2) (va_Pc [.ref (ad 0), .int p1] (wPre D K ad (yG ad K) 21 yv0 ya0 yl0)) (va_Qi (fun r _ => r = (-2)) (wB D ad (yG ad K) 21) (inW ad 21)) 0 0 (inW ad 21) := by
  refine x_met (by decide) (Nat.le_of_ble_eq_true rfl) ?_
  intro p e s m below meth c ls hE hr hlo hnm hB hl
  have hE : CallFix p m c cX9_say 2 s _ tbG "TaleCourtModel" := hE
  obtain ⟨hP, hK, hN⟩ := hB
  have hS : va_S (inW ad 21) s.heap s.heap [] := va_S.rf
  have hl : lv_has ls 2 [(0, .ref (ad 0)), (1, .int p1)] := hl
  refine lv_aload_n hE.1 hE.2.1 dX9_say_0 rfl (lv_at hl 0 rfl) ?_
  refine lv_iconst (v := 0) hE.1 hE.2.1 dX9_say_1 (by decide) ?_
  refine x_put hE hK hN hP hS 0 (by decide) (yG_9 rfl) rfl hin9 tyX9 tyX9_ok nmX9 0 (by decide) mw_1334 rfl rfl rfl (Nat.le_of_ble_eq_true rfl) (yG_9 rfl) dX9_say_2 (fun v1 H locs hv hP hS => ?_)
  obtain rfl := hv.trans (up_same (by decide))
  refine lv_aload_n hE.1 hE.2.1 dX9_say_5 rfl (lv_at hl 0 rfl) ?_
  refine lv_iload_n hE.1 hE.2.1 dX9_say_6 rfl (lv_at hl 1 rfl) ?_
  refine lv_i2l (v := (p1.toInt64)) hE.1 hE.2.1 dX9_say_7 rfl ?_
  refine x_vp (nn := 1) (As := [.long (p1.toInt64)]) (rest := []) hE (k_X9_isMotif l D K ad (p1.toInt64)) wPre_blind (wPre_now hK hN hP) (x_recv hK hP 0 (by decide) (yG_9 rfl) rfl) rfl mw_1662 mw_1664 mw_74 mw_123 mw_1665 (by decide +kernel) ⟨by decide, by decide⟩ hl.1 rfl (by decide) ⟨Nat.zero_le _, Nat.zero_le _⟩ dX9_say_8 (fun r hr => ?_)
  subst hr
  refine lv_if_ne (tgt := 17) hE.1 hE.2.1 dX9_say_11 (by decide) (fun h => absurd (by decide) h) (fun _ => ?_)
  refine lv_bipush (v := (-2)) hE.1 hE.2.1 dX9_say_14 (by decide) ?_
  exact x_wi hE hr hlo hP hS rfl rfl dX9_say_16

theorem dX9_hush_0 : decode cX9_hush 0 = .ok (.aload_n 0, 1) := by decide +kernel
theorem dX9_hush_1 : decode cX9_hush 1 = .ok (.iconst 0, 1) := by decide +kernel
theorem dX9_hush_2 : decode cX9_hush 2 = .ok (.putfield 81, 3) := by decide +kernel
theorem dX9_hush_5 : decode cX9_hush 5 = .ok (.aload_n 0, 1) := by decide +kernel
theorem dX9_hush_6 : decode cX9_hush 6 = .ok (.invokevirtual 301, 3) := by decide +kernel
theorem dX9_hush_9 : decode cX9_hush 9 = .ok (.ifCond .ne 6, 3) := by decide +kernel
theorem dX9_hush_12 : decode cX9_hush 12 = .ok (.bipush (-2), 2) := by decide +kernel
theorem dX9_hush_14 : decode cX9_hush 14 = .ok (.ireturn, 1) := by decide +kernel
set_option maxHeartbeats 4000000 in
set_option maxRecDepth 100000 in
theorem k_X9_hush (l : Launch) (D : va_G) (K : Nat → ClassId) (ad : Nat → Nat) : Met l yX9_hush (wM yX9_hush cX9_hush 1 (some .int)) (rmD 1) (va_Pc [.ref (ad 0)] (wPre D K ad (yG ad K) 21 yv0 ya0 yl0)) (va_Qi (fun r _ => r = (-2)) (wB D ad (yG ad K) 21) (inW ad 21)) 0 0 (inW ad 21) := by
  refine x_met (by decide) (Nat.le_of_ble_eq_true rfl) ?_
  intro p e s m below meth c ls hE hr hlo hnm hB hl
  have hE : CallFix p m c cX9_hush 1 s _ tbG "TaleCourtModel" := hE
  obtain ⟨hP, hK, hN⟩ := hB
  have hS : va_S (inW ad 21) s.heap s.heap [] := va_S.rf
  have hl : lv_has ls 1 [(0, .ref (ad 0))] := hl
  refine lv_aload_n hE.1 hE.2.1 dX9_hush_0 rfl (lv_at hl 0 rfl) ?_
  refine lv_iconst (v := 0) hE.1 hE.2.1 dX9_hush_1 (by decide) ?_
  refine x_put hE hK hN hP hS 0 (by decide) (yG_9 rfl) rfl hin9 tyX9 tyX9_ok nmX9 0 (by decide) mw_1334 rfl rfl rfl (Nat.le_of_ble_eq_true rfl) (yG_9 rfl) dX9_hush_2 (fun v1 H locs hv hP hS => ?_)
  obtain rfl := hv.trans (up_same (by decide))
  refine lv_aload_n hE.1 hE.2.1 dX9_hush_5 rfl (lv_at hl 0 rfl) ?_
  refine x_vp (nn := 0) (As := []) (rest := []) hE (k_X9_isCourt l D K ad ) wPre_blind (wPre_now hK hN hP) (x_recv hK hP 0 (by decide) (yG_9 rfl) rfl) rfl mw_1718 mw_1720 mw_79 mw_123 mw_1721 (by decide +kernel) ⟨by decide, by decide⟩ hl.1 rfl (by decide) ⟨Nat.zero_le _, Nat.zero_le _⟩ dX9_hush_6 (fun r hr => ?_)
  subst hr
  refine lv_if_ne (tgt := 15) hE.1 hE.2.1 dX9_hush_9 (by decide) (fun h => absurd (by decide) h) (fun _ => ?_)
  refine lv_bipush (v := (-2)) hE.1 hE.2.1 dX9_hush_12 (by decide) ?_
  exact x_wi hE hr hlo hP hS rfl rfl dX9_hush_14

theorem dX9_unsay_0 : decode cX9_unsay 0 = .ok (.aload_n 0, 1) := by decide +kernel
theorem dX9_unsay_1 : decode cX9_unsay 1 = .ok (.iconst 0, 1) := by decide +kernel
theorem dX9_unsay_2 : decode cX9_unsay 2 = .ok (.putfield 81, 3) := by decide +kernel
theorem dX9_unsay_5 : decode cX9_unsay 5 = .ok (.aload_n 0, 1) := by decide +kernel
theorem dX9_unsay_6 : decode cX9_unsay 6 = .ok (.invokevirtual 301, 3) := by decide +kernel
theorem dX9_unsay_9 : decode cX9_unsay 9 = .ok (.ifCond .ne 6, 3) := by decide +kernel
theorem dX9_unsay_12 : decode cX9_unsay 12 = .ok (.bipush (-2), 2) := by decide +kernel
theorem dX9_unsay_14 : decode cX9_unsay 14 = .ok (.ireturn, 1) := by decide +kernel
set_option maxHeartbeats 4000000 in
set_option maxRecDepth 100000 in
theorem k_X9_unsay (l : Launch) (D : va_G) (K : Nat → ClassId) (ad : Nat → Nat) : Met l yX9_unsay (wM yX9_unsay cX9_unsay 1 (some .int)) (rmD 1) (va_Pc [.ref (ad 0)] (wPre D K ad (yG ad K) 21 yv0 ya0 yl0)) (va_Qi (fun r _ => r = (-2)) (wB D ad (yG ad K) 21) (inW ad 21)) 0 0 (inW ad 21) := by
  refine x_met (by decide) (Nat.le_of_ble_eq_true rfl) ?_
  intro p e s m below meth c ls hE hr hlo hnm hB hl
  have hE : CallFix p m c cX9_unsay 1 s _ tbG "TaleCourtModel" := hE
  obtain ⟨hP, hK, hN⟩ := hB
  have hS : va_S (inW ad 21) s.heap s.heap [] := va_S.rf
  have hl : lv_has ls 1 [(0, .ref (ad 0))] := hl
  refine lv_aload_n hE.1 hE.2.1 dX9_unsay_0 rfl (lv_at hl 0 rfl) ?_
  refine lv_iconst (v := 0) hE.1 hE.2.1 dX9_unsay_1 (by decide) ?_
  refine x_put hE hK hN hP hS 0 (by decide) (yG_9 rfl) rfl hin9 tyX9 tyX9_ok nmX9 0 (by decide) mw_1334 rfl rfl rfl (Nat.le_of_ble_eq_true rfl) (yG_9 rfl) dX9_unsay_2 (fun v1 H locs hv hP hS => ?_)
  obtain rfl := hv.trans (up_same (by decide))
  refine lv_aload_n hE.1 hE.2.1 dX9_unsay_5 rfl (lv_at hl 0 rfl) ?_
  refine x_vp (nn := 0) (As := []) (rest := []) hE (k_X9_isCourt l D K ad ) wPre_blind (wPre_now hK hN hP) (x_recv hK hP 0 (by decide) (yG_9 rfl) rfl) rfl mw_1718 mw_1720 mw_79 mw_123 mw_1721 (by decide +kernel) ⟨by decide, by decide⟩ hl.1 rfl (by decide) ⟨Nat.zero_le _, Nat.zero_le _⟩ dX9_unsay_6 (fun r hr => ?_)
  subst hr
  refine lv_if_ne (tgt := 15) hE.1 hE.2.1 dX9_unsay_9 (by decide) (fun h => absurd (by decide) h) (fun _ => ?_)
  refine lv_bipush (v := (-2)) hE.1 hE.2.1 dX9_unsay_12 (by decide) ?_
  exact x_wi hE hr hlo hP hS rfl rfl dX9_unsay_14

theorem dX9_anew_0 : decode cX9_anew 0 = .ok (.aload_n 0, 1) := by decide +kernel
theorem dX9_anew_1 : decode cX9_anew 1 = .ok (.iconst 0, 1) := by decide +kernel
theorem dX9_anew_2 : decode cX9_anew 2 = .ok (.putfield 81, 3) := by decide +kernel
theorem dX9_anew_5 : decode cX9_anew 5 = .ok (.aload_n 0, 1) := by decide +kernel
theorem dX9_anew_6 : decode cX9_anew 6 = .ok (.invokevirtual 301, 3) := by decide +kernel
theorem dX9_anew_9 : decode cX9_anew 9 = .ok (.ifCond .ne 6, 3) := by decide +kernel
theorem dX9_anew_12 : decode cX9_anew 12 = .ok (.bipush (-2), 2) := by decide +kernel
theorem dX9_anew_14 : decode cX9_anew 14 = .ok (.ireturn, 1) := by decide +kernel
set_option maxHeartbeats 4000000 in
set_option maxRecDepth 100000 in
theorem k_X9_anew (l : Launch) (D : va_G) (K : Nat → ClassId) (ad : Nat → Nat) : Met l yX9_anew (wM yX9_anew cX9_anew 2 (some .int)) (rmD 1) (va_Pc [.ref (ad 0)] (wPre D K ad (yG ad K) 21 yv0 ya0 yl0)) (va_Qi (fun r _ => r = (-2)) (wB D ad (yG ad K) 21) (inW ad 21)) 0 0 (inW ad 21) := by
  refine x_met (by decide) (Nat.le_of_ble_eq_true rfl) ?_
  intro p e s m below meth c ls hE hr hlo hnm hB hl
  have hE : CallFix p m c cX9_anew 2 s _ tbG "TaleCourtModel" := hE
  obtain ⟨hP, hK, hN⟩ := hB
  have hS : va_S (inW ad 21) s.heap s.heap [] := va_S.rf
  have hl : lv_has ls 2 [(0, .ref (ad 0))] := hl
  refine lv_aload_n hE.1 hE.2.1 dX9_anew_0 rfl (lv_at hl 0 rfl) ?_
  refine lv_iconst (v := 0) hE.1 hE.2.1 dX9_anew_1 (by decide) ?_
  refine x_put hE hK hN hP hS 0 (by decide) (yG_9 rfl) rfl hin9 tyX9 tyX9_ok nmX9 0 (by decide) mw_1334 rfl rfl rfl (Nat.le_of_ble_eq_true rfl) (yG_9 rfl) dX9_anew_2 (fun v1 H locs hv hP hS => ?_)
  obtain rfl := hv.trans (up_same (by decide))
  refine lv_aload_n hE.1 hE.2.1 dX9_anew_5 rfl (lv_at hl 0 rfl) ?_
  refine x_vp (nn := 0) (As := []) (rest := []) hE (k_X9_isCourt l D K ad ) wPre_blind (wPre_now hK hN hP) (x_recv hK hP 0 (by decide) (yG_9 rfl) rfl) rfl mw_1718 mw_1720 mw_79 mw_123 mw_1721 (by decide +kernel) ⟨by decide, by decide⟩ hl.1 rfl (by decide) ⟨Nat.zero_le _, Nat.zero_le _⟩ dX9_anew_6 (fun r hr => ?_)
  subst hr
  refine lv_if_ne (tgt := 15) hE.1 hE.2.1 dX9_anew_9 (by decide) (fun h => absurd (by decide) h) (fun _ => ?_)
  refine lv_bipush (v := (-2)) hE.1 hE.2.1 dX9_anew_12 (by decide) ?_
  exact x_wi hE hr hlo hP hS rfl rfl dX9_anew_14

theorem dX9_told_0 : decode cX9_told 0 = .ok (.aload_n 0, 1) := by decide +kernel
theorem dX9_told_1 : decode cX9_told 1 = .ok (.iconst 0, 1) := by decide +kernel
theorem dX9_told_2 : decode cX9_told 2 = .ok (.putfield 81, 3) := by decide +kernel
theorem dX9_told_5 : decode cX9_told 5 = .ok (.aload_n 0, 1) := by decide +kernel
theorem dX9_told_6 : decode cX9_told 6 = .ok (.invokevirtual 301, 3) := by decide +kernel
theorem dX9_told_9 : decode cX9_told 9 = .ok (.ifCond .ne 8, 3) := by decide +kernel
theorem dX9_told_12 : decode cX9_told 12 = .ok (.bipush (-2), 2) := by decide +kernel
theorem dX9_told_14 : decode cX9_told 14 = .ok (.goto 31, 3) := by decide +kernel
theorem dX9_told_45 : decode cX9_told 45 = .ok (.ireturn, 1) := by decide +kernel
set_option maxHeartbeats 4000000 in
set_option maxRecDepth 100000 in
theorem k_X9_told (l : Launch) (D : va_G) (K : Nat → ClassId) (ad : Nat → Nat) (p1 : Int32) : Met l yX9_told (wM yX9_told cX9_told 2 (some .int)) (rmD 1) (va_Pc [.ref (ad 0), .int p1] (wPre D K ad (yG ad K) 21 yv0 ya0 yl0)) (va_Qi (fun r _ => r = (-2)) (wB D ad (yG ad K) 21) (inW ad 21)) 0 0 (inW ad 21) := by
  refine x_met (by decide) (Nat.le_of_ble_eq_true rfl) ?_
  intro p e s m below meth c ls hE hr hlo hnm hB hl
  have hE : CallFix p m c cX9_told 2 s _ tbG "TaleCourtModel" := hE
  obtain ⟨hP, hK, hN⟩ := hB
  have hS : va_S (inW ad 21) s.heap s.heap [] := va_S.rf
  have hl : lv_has ls 2 [(0, .ref (ad 0)), (1, .int p1)] := hl
  refine lv_aload_n hE.1 hE.2.1 dX9_told_0 rfl (lv_at hl 0 rfl) ?_
  refine lv_iconst (v := 0) hE.1 hE.2.1 dX9_told_1 (by decide) ?_
  refine x_put hE hK hN hP hS 0 (by decide) (yG_9 rfl) rfl hin9 tyX9 tyX9_ok nmX9 0 (by decide) mw_1334 rfl rfl rfl (Nat.le_of_ble_eq_true rfl) (yG_9 rfl) dX9_told_2 (fun v1 H locs hv hP hS => ?_)
  obtain rfl := hv.trans (up_same (by decide))
  refine lv_aload_n hE.1 hE.2.1 dX9_told_5 rfl (lv_at hl 0 rfl) ?_
  refine x_vp (nn := 0) (As := []) (rest := []) hE (k_X9_isCourt l D K ad ) wPre_blind (wPre_now hK hN hP) (x_recv hK hP 0 (by decide) (yG_9 rfl) rfl) rfl mw_1718 mw_1720 mw_79 mw_123 mw_1721 (by decide +kernel) ⟨by decide, by decide⟩ hl.1 rfl (by decide) ⟨Nat.zero_le _, Nat.zero_le _⟩ dX9_told_6 (fun r hr => ?_)
  subst hr
  refine lv_if_ne (tgt := 17) hE.1 hE.2.1 dX9_told_9 (by decide) (fun h => absurd (by decide) h) (fun _ => ?_)
  refine lv_bipush (v := (-2)) hE.1 hE.2.1 dX9_told_12 (by decide) ?_
  refine lv_goto (tgt := 45) hE.1 hE.2.1 dX9_told_14 (by decide) ?_
  exact x_wi hE hr hlo hP hS rfl rfl dX9_told_45

theorem dX9_length_0 : decode cX9_length 0 = .ok (.aload_n 0, 1) := by decide +kernel
theorem dX9_length_1 : decode cX9_length 1 = .ok (.iconst 0, 1) := by decide +kernel
theorem dX9_length_2 : decode cX9_length 2 = .ok (.putfield 81, 3) := by decide +kernel
theorem dX9_length_5 : decode cX9_length 5 = .ok (.aload_n 0, 1) := by decide +kernel
theorem dX9_length_6 : decode cX9_length 6 = .ok (.invokevirtual 301, 3) := by decide +kernel
theorem dX9_length_9 : decode cX9_length 9 = .ok (.ifCond .eq 12, 3) := by decide +kernel
theorem dX9_length_21 : decode cX9_length 21 = .ok (.bipush (-2), 2) := by decide +kernel
theorem dX9_length_23 : decode cX9_length 23 = .ok (.ireturn, 1) := by decide +kernel
set_option maxHeartbeats 4000000 in
set_option maxRecDepth 100000 in
theorem k_X9_length (l : Launch) (D : va_G) (K : Nat → ClassId) (ad : Nat → Nat) : Met l yX9_length (wM yX9_length cX9_length 1 (some .int)) (rmD 1) (va_Pc [.ref (ad 0)] (wPre D K ad (yG ad K) 21 yv0 ya0 yl0)) (va_Qi (fun r _ => r = (-2)) (wB D ad (yG ad K) 21) (inW ad 21)) 0 0 (inW ad 21) := by
  refine x_met (by decide) (Nat.le_of_ble_eq_true rfl) ?_
  intro p e s m below meth c ls hE hr hlo hnm hB hl
  have hE : CallFix p m c cX9_length 1 s _ tbG "TaleCourtModel" := hE
  obtain ⟨hP, hK, hN⟩ := hB
  have hS : va_S (inW ad 21) s.heap s.heap [] := va_S.rf
  have hl : lv_has ls 1 [(0, .ref (ad 0))] := hl
  refine lv_aload_n hE.1 hE.2.1 dX9_length_0 rfl (lv_at hl 0 rfl) ?_
  refine lv_iconst (v := 0) hE.1 hE.2.1 dX9_length_1 (by decide) ?_
  refine x_put hE hK hN hP hS 0 (by decide) (yG_9 rfl) rfl hin9 tyX9 tyX9_ok nmX9 0 (by decide) mw_1334 rfl rfl rfl (Nat.le_of_ble_eq_true rfl) (yG_9 rfl) dX9_length_2 (fun v1 H locs hv hP hS => ?_)
  obtain rfl := hv.trans (up_same (by decide))
  refine lv_aload_n hE.1 hE.2.1 dX9_length_5 rfl (lv_at hl 0 rfl) ?_
  refine x_vp (nn := 0) (As := []) (rest := []) hE (k_X9_isCourt l D K ad ) wPre_blind (wPre_now hK hN hP) (x_recv hK hP 0 (by decide) (yG_9 rfl) rfl) rfl mw_1718 mw_1720 mw_79 mw_123 mw_1721 (by decide +kernel) ⟨by decide, by decide⟩ hl.1 rfl (by decide) ⟨Nat.zero_le _, Nat.zero_le _⟩ dX9_length_6 (fun r hr => ?_)
  subst hr
  refine lv_if_eq (tgt := 21) hE.1 hE.2.1 dX9_length_9 (by decide) (fun _ => ?_) (fun h => absurd (by decide) h)
  refine lv_bipush (v := (-2)) hE.1 hE.2.1 dX9_length_21 (by decide) ?_
  exact x_wi hE hr hlo hP hS rfl rfl dX9_length_23

theorem dX9_whose_0 : decode cX9_whose 0 = .ok (.aload_n 0, 1) := by decide +kernel
theorem dX9_whose_1 : decode cX9_whose 1 = .ok (.iconst 0, 1) := by decide +kernel
theorem dX9_whose_2 : decode cX9_whose 2 = .ok (.putfield 81, 3) := by decide +kernel
theorem dX9_whose_5 : decode cX9_whose 5 = .ok (.aload_n 0, 1) := by decide +kernel
theorem dX9_whose_6 : decode cX9_whose 6 = .ok (.invokevirtual 301, 3) := by decide +kernel
theorem dX9_whose_9 : decode cX9_whose 9 = .ok (.ifCond .eq 19, 3) := by decide +kernel
theorem dX9_whose_28 : decode cX9_whose 28 = .ok (.bipush (-2), 2) := by decide +kernel
theorem dX9_whose_30 : decode cX9_whose 30 = .ok (.ireturn, 1) := by decide +kernel
set_option maxHeartbeats 4000000 in
set_option maxRecDepth 100000 in
theorem k_X9_whose (l : Launch) (D : va_G) (K : Nat → ClassId) (ad : Nat → Nat) : Met l yX9_whose (wM yX9_whose cX9_whose 1 (some .int)) (rmD 1) (va_Pc [.ref (ad 0)] (wPre D K ad (yG ad K) 21 yv0 ya0 yl0)) (va_Qi (fun r _ => r = (-2)) (wB D ad (yG ad K) 21) (inW ad 21)) 0 0 (inW ad 21) := by
  refine x_met (by decide) (Nat.le_of_ble_eq_true rfl) ?_
  intro p e s m below meth c ls hE hr hlo hnm hB hl
  have hE : CallFix p m c cX9_whose 1 s _ tbG "TaleCourtModel" := hE
  obtain ⟨hP, hK, hN⟩ := hB
  have hS : va_S (inW ad 21) s.heap s.heap [] := va_S.rf
  have hl : lv_has ls 1 [(0, .ref (ad 0))] := hl
  refine lv_aload_n hE.1 hE.2.1 dX9_whose_0 rfl (lv_at hl 0 rfl) ?_
  refine lv_iconst (v := 0) hE.1 hE.2.1 dX9_whose_1 (by decide) ?_
  refine x_put hE hK hN hP hS 0 (by decide) (yG_9 rfl) rfl hin9 tyX9 tyX9_ok nmX9 0 (by decide) mw_1334 rfl rfl rfl (Nat.le_of_ble_eq_true rfl) (yG_9 rfl) dX9_whose_2 (fun v1 H locs hv hP hS => ?_)
  obtain rfl := hv.trans (up_same (by decide))
  refine lv_aload_n hE.1 hE.2.1 dX9_whose_5 rfl (lv_at hl 0 rfl) ?_
  refine x_vp (nn := 0) (As := []) (rest := []) hE (k_X9_isCourt l D K ad ) wPre_blind (wPre_now hK hN hP) (x_recv hK hP 0 (by decide) (yG_9 rfl) rfl) rfl mw_1718 mw_1720 mw_79 mw_123 mw_1721 (by decide +kernel) ⟨by decide, by decide⟩ hl.1 rfl (by decide) ⟨Nat.zero_le _, Nat.zero_le _⟩ dX9_whose_6 (fun r hr => ?_)
  subst hr
  refine lv_if_eq (tgt := 28) hE.1 hE.2.1 dX9_whose_9 (by decide) (fun _ => ?_) (fun h => absurd (by decide) h)
  refine lv_bipush (v := (-2)) hE.1 hE.2.1 dX9_whose_28 (by decide) ?_
  exact x_wi hE hr hlo hP hS rfl rfl dX9_whose_30

theorem dX9_may_0 : decode cX9_may 0 = .ok (.aload_n 0, 1) := by decide +kernel
theorem dX9_may_1 : decode cX9_may 1 = .ok (.iconst 0, 1) := by decide +kernel
theorem dX9_may_2 : decode cX9_may 2 = .ok (.putfield 81, 3) := by decide +kernel
theorem dX9_may_5 : decode cX9_may 5 = .ok (.aload_n 0, 1) := by decide +kernel
theorem dX9_may_6 : decode cX9_may 6 = .ok (.invokevirtual 301, 3) := by decide +kernel
theorem dX9_may_9 : decode cX9_may 9 = .ok (.ifCond .ne 6, 3) := by decide +kernel
theorem dX9_may_12 : decode cX9_may 12 = .ok (.bipush (-2), 2) := by decide +kernel
theorem dX9_may_14 : decode cX9_may 14 = .ok (.ireturn, 1) := by decide +kernel
set_option maxHeartbeats 4000000 in
set_option maxRecDepth 100000 in
theorem k_X9_may (l : Launch) (D : va_G) (K : Nat → ClassId) (ad : Nat → Nat) : Met l yX9_may (wM yX9_may cX9_may 1 (some .int)) (rmD 1) (va_Pc [.ref (ad 0)] (wPre D K ad (yG ad K) 21 yv0 ya0 yl0)) (va_Qi (fun r _ => r = (-2)) (wB D ad (yG ad K) 21) (inW ad 21)) 0 0 (inW ad 21) := by
  refine x_met (by decide) (Nat.le_of_ble_eq_true rfl) ?_
  intro p e s m below meth c ls hE hr hlo hnm hB hl
  have hE : CallFix p m c cX9_may 1 s _ tbG "TaleCourtModel" := hE
  obtain ⟨hP, hK, hN⟩ := hB
  have hS : va_S (inW ad 21) s.heap s.heap [] := va_S.rf
  have hl : lv_has ls 1 [(0, .ref (ad 0))] := hl
  refine lv_aload_n hE.1 hE.2.1 dX9_may_0 rfl (lv_at hl 0 rfl) ?_
  refine lv_iconst (v := 0) hE.1 hE.2.1 dX9_may_1 (by decide) ?_
  refine x_put hE hK hN hP hS 0 (by decide) (yG_9 rfl) rfl hin9 tyX9 tyX9_ok nmX9 0 (by decide) mw_1334 rfl rfl rfl (Nat.le_of_ble_eq_true rfl) (yG_9 rfl) dX9_may_2 (fun v1 H locs hv hP hS => ?_)
  obtain rfl := hv.trans (up_same (by decide))
  refine lv_aload_n hE.1 hE.2.1 dX9_may_5 rfl (lv_at hl 0 rfl) ?_
  refine x_vp (nn := 0) (As := []) (rest := []) hE (k_X9_isCourt l D K ad ) wPre_blind (wPre_now hK hN hP) (x_recv hK hP 0 (by decide) (yG_9 rfl) rfl) rfl mw_1718 mw_1720 mw_79 mw_123 mw_1721 (by decide +kernel) ⟨by decide, by decide⟩ hl.1 rfl (by decide) ⟨Nat.zero_le _, Nat.zero_le _⟩ dX9_may_6 (fun r hr => ?_)
  subst hr
  refine lv_if_ne (tgt := 15) hE.1 hE.2.1 dX9_may_9 (by decide) (fun h => absurd (by decide) h) (fun _ => ?_)
  refine lv_bipush (v := (-2)) hE.1 hE.2.1 dX9_may_12 (by decide) ?_
  exact x_wi hE hr hlo hP hS rfl rfl dX9_may_14

theorem dX9_why_0 : decode cX9_why 0 = .ok (.aload_n 0, 1) := by decide +kernel
theorem dX9_why_1 : decode cX9_why 1 = .ok (.iconst 0, 1) := by decide +kernel
theorem dX9_why_2 : decode cX9_why 2 = .ok (.putfield 81, 3) := by decide +kernel
theorem dX9_why_5 : decode cX9_why 5 = .ok (.aload_n 0, 1) := by decide +kernel
theorem dX9_why_6 : decode cX9_why 6 = .ok (.iload_n 1, 1) := by decide +kernel
theorem dX9_why_7 : decode cX9_why 7 = .ok (.i2l, 1) := by decide +kernel
theorem dX9_why_8 : decode cX9_why 8 = .ok (.invokevirtual 253, 3) := by decide +kernel
theorem dX9_why_11 : decode cX9_why 11 = .ok (.ifCond .ne 6, 3) := by decide +kernel
theorem dX9_why_14 : decode cX9_why 14 = .ok (.bipush (-2), 2) := by decide +kernel
theorem dX9_why_16 : decode cX9_why 16 = .ok (.ireturn, 1) := by decide +kernel
set_option maxHeartbeats 4000000 in
set_option maxRecDepth 100000 in
theorem k_X9_why (l : Launch) (D : va_G) (K : Nat → ClassId) (ad : Nat → Nat) (p1 : Int32) : Met l yX9_why (wM yX9_why cX9_why 2 (some .int)) (rmD 2) (va_Pc [.ref (ad 0), .int p1] (wPre D K ad (yG ad K) 21 yv0 ya0 yl0)) (va_Qi (fun r _ => r = (-2)) (wB D ad (yG ad K) 21) (inW ad 21)) 0 0 (inW ad 21) := by
  refine x_met (by decide) (Nat.le_of_ble_eq_true rfl) ?_
  intro p e s m below meth c ls hE hr hlo hnm hB hl
  have hE : CallFix p m c cX9_why 2 s _ tbG "TaleCourtModel" := hE
  obtain ⟨hP, hK, hN⟩ := hB
  have hS : va_S (inW ad 21) s.heap s.heap [] := va_S.rf
  have hl : lv_has ls 2 [(0, .ref (ad 0)), (1, .int p1)] := hl
  refine lv_aload_n hE.1 hE.2.1 dX9_why_0 rfl (lv_at hl 0 rfl) ?_
  refine lv_iconst (v := 0) hE.1 hE.2.1 dX9_why_1 (by decide) ?_
  refine x_put hE hK hN hP hS 0 (by decide) (yG_9 rfl) rfl hin9 tyX9 tyX9_ok nmX9 0 (by decide) mw_1334 rfl rfl rfl (Nat.le_of_ble_eq_true rfl) (yG_9 rfl) dX9_why_2 (fun v1 H locs hv hP hS => ?_)
  obtain rfl := hv.trans (up_same (by decide))
  refine lv_aload_n hE.1 hE.2.1 dX9_why_5 rfl (lv_at hl 0 rfl) ?_
  refine lv_iload_n hE.1 hE.2.1 dX9_why_6 rfl (lv_at hl 1 rfl) ?_
  refine lv_i2l (v := (p1.toInt64)) hE.1 hE.2.1 dX9_why_7 rfl ?_
  refine x_vp (nn := 1) (As := [.long (p1.toInt64)]) (rest := []) hE (k_X9_isMotif l D K ad (p1.toInt64)) wPre_blind (wPre_now hK hN hP) (x_recv hK hP 0 (by decide) (yG_9 rfl) rfl) rfl mw_1662 mw_1664 mw_74 mw_123 mw_1665 (by decide +kernel) ⟨by decide, by decide⟩ hl.1 rfl (by decide) ⟨Nat.zero_le _, Nat.zero_le _⟩ dX9_why_8 (fun r hr => ?_)
  subst hr
  refine lv_if_ne (tgt := 17) hE.1 hE.2.1 dX9_why_11 (by decide) (fun h => absurd (by decide) h) (fun _ => ?_)
  refine lv_bipush (v := (-2)) hE.1 hE.2.1 dX9_why_14 (by decide) ?_
  exact x_wi hE hr hlo hP hS rfl rfl dX9_why_16

theorem dX9_owed_0 : decode cX9_owed 0 = .ok (.aload_n 0, 1) := by decide +kernel
theorem dX9_owed_1 : decode cX9_owed 1 = .ok (.iconst 0, 1) := by decide +kernel
theorem dX9_owed_2 : decode cX9_owed 2 = .ok (.putfield 81, 3) := by decide +kernel
theorem dX9_owed_5 : decode cX9_owed 5 = .ok (.aload_n 0, 1) := by decide +kernel
theorem dX9_owed_6 : decode cX9_owed 6 = .ok (.invokevirtual 301, 3) := by decide +kernel
theorem dX9_owed_9 : decode cX9_owed 9 = .ok (.ifCond .ne 6, 3) := by decide +kernel
theorem dX9_owed_12 : decode cX9_owed 12 = .ok (.bipush (-2), 2) := by decide +kernel
theorem dX9_owed_14 : decode cX9_owed 14 = .ok (.ireturn, 1) := by decide +kernel
set_option maxHeartbeats 4000000 in
set_option maxRecDepth 100000 in
theorem k_X9_owed (l : Launch) (D : va_G) (K : Nat → ClassId) (ad : Nat → Nat) : Met l yX9_owed (wM yX9_owed cX9_owed 1 (some .int)) (rmD 1) (va_Pc [.ref (ad 0)] (wPre D K ad (yG ad K) 21 yv0 ya0 yl0)) (va_Qi (fun r _ => r = (-2)) (wB D ad (yG ad K) 21) (inW ad 21)) 0 0 (inW ad 21) := by
  refine x_met (by decide) (Nat.le_of_ble_eq_true rfl) ?_
  intro p e s m below meth c ls hE hr hlo hnm hB hl
  have hE : CallFix p m c cX9_owed 1 s _ tbG "TaleCourtModel" := hE
  obtain ⟨hP, hK, hN⟩ := hB
  have hS : va_S (inW ad 21) s.heap s.heap [] := va_S.rf
  have hl : lv_has ls 1 [(0, .ref (ad 0))] := hl
  refine lv_aload_n hE.1 hE.2.1 dX9_owed_0 rfl (lv_at hl 0 rfl) ?_
  refine lv_iconst (v := 0) hE.1 hE.2.1 dX9_owed_1 (by decide) ?_
  refine x_put hE hK hN hP hS 0 (by decide) (yG_9 rfl) rfl hin9 tyX9 tyX9_ok nmX9 0 (by decide) mw_1334 rfl rfl rfl (Nat.le_of_ble_eq_true rfl) (yG_9 rfl) dX9_owed_2 (fun v1 H locs hv hP hS => ?_)
  obtain rfl := hv.trans (up_same (by decide))
  refine lv_aload_n hE.1 hE.2.1 dX9_owed_5 rfl (lv_at hl 0 rfl) ?_
  refine x_vp (nn := 0) (As := []) (rest := []) hE (k_X9_isCourt l D K ad ) wPre_blind (wPre_now hK hN hP) (x_recv hK hP 0 (by decide) (yG_9 rfl) rfl) rfl mw_1718 mw_1720 mw_79 mw_123 mw_1721 (by decide +kernel) ⟨by decide, by decide⟩ hl.1 rfl (by decide) ⟨Nat.zero_le _, Nat.zero_le _⟩ dX9_owed_6 (fun r hr => ?_)
  subst hr
  refine lv_if_ne (tgt := 15) hE.1 hE.2.1 dX9_owed_9 (by decide) (fun h => absurd (by decide) h) (fun _ => ?_)
  refine lv_bipush (v := (-2)) hE.1 hE.2.1 dX9_owed_12 (by decide) ?_
  exact x_wi hE hr hlo hP hS rfl rfl dX9_owed_14

theorem dX9_due_0 : decode cX9_due 0 = .ok (.aload_n 0, 1) := by decide +kernel
theorem dX9_due_1 : decode cX9_due 1 = .ok (.iconst 0, 1) := by decide +kernel
theorem dX9_due_2 : decode cX9_due 2 = .ok (.putfield 81, 3) := by decide +kernel
theorem dX9_due_5 : decode cX9_due 5 = .ok (.aload_n 0, 1) := by decide +kernel
theorem dX9_due_6 : decode cX9_due 6 = .ok (.iload_n 1, 1) := by decide +kernel
theorem dX9_due_7 : decode cX9_due 7 = .ok (.i2l, 1) := by decide +kernel
theorem dX9_due_8 : decode cX9_due 8 = .ok (.invokevirtual 253, 3) := by decide +kernel
theorem dX9_due_11 : decode cX9_due 11 = .ok (.ifCond .ne 6, 3) := by decide +kernel
theorem dX9_due_14 : decode cX9_due 14 = .ok (.bipush (-2), 2) := by decide +kernel
theorem dX9_due_16 : decode cX9_due 16 = .ok (.ireturn, 1) := by decide +kernel
set_option maxHeartbeats 4000000 in
set_option maxRecDepth 100000 in
theorem k_X9_due (l : Launch) (D : va_G) (K : Nat → ClassId) (ad : Nat → Nat) (p1 : Int32) : Met l yX9_due (wM yX9_due cX9_due 5 (some .int)) (rmD 2) (va_Pc [.ref (ad 0), .int p1] (wPre D K ad (yG ad K) 21 yv0 ya0 yl0)) (va_Qi (fun r _ => r = (-2)) (wB D ad (yG ad K) 21) (inW ad 21)) 0 0 (inW ad 21) := by
  refine x_met (by decide) (Nat.le_of_ble_eq_true rfl) ?_
  intro p e s m below meth c ls hE hr hlo hnm hB hl
  have hE : CallFix p m c cX9_due 5 s _ tbG "TaleCourtModel" := hE
  obtain ⟨hP, hK, hN⟩ := hB
  have hS : va_S (inW ad 21) s.heap s.heap [] := va_S.rf
  have hl : lv_has ls 5 [(0, .ref (ad 0)), (1, .int p1)] := hl
  refine lv_aload_n hE.1 hE.2.1 dX9_due_0 rfl (lv_at hl 0 rfl) ?_
  refine lv_iconst (v := 0) hE.1 hE.2.1 dX9_due_1 (by decide) ?_
  refine x_put hE hK hN hP hS 0 (by decide) (yG_9 rfl) rfl hin9 tyX9 tyX9_ok nmX9 0 (by decide) mw_1334 rfl rfl rfl (Nat.le_of_ble_eq_true rfl) (yG_9 rfl) dX9_due_2 (fun v1 H locs hv hP hS => ?_)
  obtain rfl := hv.trans (up_same (by decide))
  refine lv_aload_n hE.1 hE.2.1 dX9_due_5 rfl (lv_at hl 0 rfl) ?_
  refine lv_iload_n hE.1 hE.2.1 dX9_due_6 rfl (lv_at hl 1 rfl) ?_
  refine lv_i2l (v := (p1.toInt64)) hE.1 hE.2.1 dX9_due_7 rfl ?_
  refine x_vp (nn := 1) (As := [.long (p1.toInt64)]) (rest := []) hE (k_X9_isMotif l D K ad (p1.toInt64)) wPre_blind (wPre_now hK hN hP) (x_recv hK hP 0 (by decide) (yG_9 rfl) rfl) rfl mw_1662 mw_1664 mw_74 mw_123 mw_1665 (by decide +kernel) ⟨by decide, by decide⟩ hl.1 rfl (by decide) ⟨Nat.zero_le _, Nat.zero_le _⟩ dX9_due_8 (fun r hr => ?_)
  subst hr
  refine lv_if_ne (tgt := 17) hE.1 hE.2.1 dX9_due_11 (by decide) (fun h => absurd (by decide) h) (fun _ => ?_)
  refine lv_bipush (v := (-2)) hE.1 hE.2.1 dX9_due_14 (by decide) ?_
  exact x_wi hE hr hlo hP hS rfl rfl dX9_due_16

theorem dX9_whole_0 : decode cX9_whole 0 = .ok (.aload_n 0, 1) := by decide +kernel
theorem dX9_whole_1 : decode cX9_whole 1 = .ok (.iconst 0, 1) := by decide +kernel
theorem dX9_whole_2 : decode cX9_whole 2 = .ok (.putfield 81, 3) := by decide +kernel
theorem dX9_whole_5 : decode cX9_whole 5 = .ok (.aload_n 0, 1) := by decide +kernel
theorem dX9_whole_6 : decode cX9_whole 6 = .ok (.invokevirtual 301, 3) := by decide +kernel
theorem dX9_whole_9 : decode cX9_whole 9 = .ok (.ifCond .ne 6, 3) := by decide +kernel
theorem dX9_whole_12 : decode cX9_whole 12 = .ok (.bipush (-2), 2) := by decide +kernel
theorem dX9_whole_14 : decode cX9_whole 14 = .ok (.ireturn, 1) := by decide +kernel
set_option maxHeartbeats 4000000 in
set_option maxRecDepth 100000 in
theorem k_X9_whole (l : Launch) (D : va_G) (K : Nat → ClassId) (ad : Nat → Nat) : Met l yX9_whole (wM yX9_whole cX9_whole 1 (some .int)) (rmD 1) (va_Pc [.ref (ad 0)] (wPre D K ad (yG ad K) 21 yv0 ya0 yl0)) (va_Qi (fun r _ => r = (-2)) (wB D ad (yG ad K) 21) (inW ad 21)) 0 0 (inW ad 21) := by
  refine x_met (by decide) (Nat.le_of_ble_eq_true rfl) ?_
  intro p e s m below meth c ls hE hr hlo hnm hB hl
  have hE : CallFix p m c cX9_whole 1 s _ tbG "TaleCourtModel" := hE
  obtain ⟨hP, hK, hN⟩ := hB
  have hS : va_S (inW ad 21) s.heap s.heap [] := va_S.rf
  have hl : lv_has ls 1 [(0, .ref (ad 0))] := hl
  refine lv_aload_n hE.1 hE.2.1 dX9_whole_0 rfl (lv_at hl 0 rfl) ?_
  refine lv_iconst (v := 0) hE.1 hE.2.1 dX9_whole_1 (by decide) ?_
  refine x_put hE hK hN hP hS 0 (by decide) (yG_9 rfl) rfl hin9 tyX9 tyX9_ok nmX9 0 (by decide) mw_1334 rfl rfl rfl (Nat.le_of_ble_eq_true rfl) (yG_9 rfl) dX9_whole_2 (fun v1 H locs hv hP hS => ?_)
  obtain rfl := hv.trans (up_same (by decide))
  refine lv_aload_n hE.1 hE.2.1 dX9_whole_5 rfl (lv_at hl 0 rfl) ?_
  refine x_vp (nn := 0) (As := []) (rest := []) hE (k_X9_isCourt l D K ad ) wPre_blind (wPre_now hK hN hP) (x_recv hK hP 0 (by decide) (yG_9 rfl) rfl) rfl mw_1718 mw_1720 mw_79 mw_123 mw_1721 (by decide +kernel) ⟨by decide, by decide⟩ hl.1 rfl (by decide) ⟨Nat.zero_le _, Nat.zero_le _⟩ dX9_whole_6 (fun r hr => ?_)
  subst hr
  refine lv_if_ne (tgt := 15) hE.1 hE.2.1 dX9_whole_9 (by decide) (fun h => absurd (by decide) h) (fun _ => ?_)
  refine lv_bipush (v := (-2)) hE.1 hE.2.1 dX9_whole_12 (by decide) ?_
  exact x_wi hE hr hlo hP hS rfl rfl dX9_whole_14

theorem dX9_points_0 : decode cX9_points 0 = .ok (.aload_n 0, 1) := by decide +kernel
theorem dX9_points_1 : decode cX9_points 1 = .ok (.iconst 0, 1) := by decide +kernel
theorem dX9_points_2 : decode cX9_points 2 = .ok (.putfield 81, 3) := by decide +kernel
theorem dX9_points_5 : decode cX9_points 5 = .ok (.aload_n 0, 1) := by decide +kernel
theorem dX9_points_6 : decode cX9_points 6 = .ok (.invokevirtual 301, 3) := by decide +kernel
theorem dX9_points_9 : decode cX9_points 9 = .ok (.ifCond .ne 6, 3) := by decide +kernel
theorem dX9_points_12 : decode cX9_points 12 = .ok (.bipush (-2), 2) := by decide +kernel
theorem dX9_points_14 : decode cX9_points 14 = .ok (.ireturn, 1) := by decide +kernel
set_option maxHeartbeats 4000000 in
set_option maxRecDepth 100000 in
theorem k_X9_points (l : Launch) (D : va_G) (K : Nat → ClassId) (ad : Nat → Nat) : Met l yX9_points (wM yX9_points cX9_points 1 (some .int)) (rmD 1) (va_Pc [.ref (ad 0)] (wPre D K ad (yG ad K) 21 yv0 ya0 yl0)) (va_Qi (fun r _ => r = (-2)) (wB D ad (yG ad K) 21) (inW ad 21)) 0 0 (inW ad 21) := by
  refine x_met (by decide) (Nat.le_of_ble_eq_true rfl) ?_
  intro p e s m below meth c ls hE hr hlo hnm hB hl
  have hE : CallFix p m c cX9_points 1 s _ tbG "TaleCourtModel" := hE
  obtain ⟨hP, hK, hN⟩ := hB
  have hS : va_S (inW ad 21) s.heap s.heap [] := va_S.rf
  have hl : lv_has ls 1 [(0, .ref (ad 0))] := hl
  refine lv_aload_n hE.1 hE.2.1 dX9_points_0 rfl (lv_at hl 0 rfl) ?_
  refine lv_iconst (v := 0) hE.1 hE.2.1 dX9_points_1 (by decide) ?_
  refine x_put hE hK hN hP hS 0 (by decide) (yG_9 rfl) rfl hin9 tyX9 tyX9_ok nmX9 0 (by decide) mw_1334 rfl rfl rfl (Nat.le_of_ble_eq_true rfl) (yG_9 rfl) dX9_points_2 (fun v1 H locs hv hP hS => ?_)
  obtain rfl := hv.trans (up_same (by decide))
  refine lv_aload_n hE.1 hE.2.1 dX9_points_5 rfl (lv_at hl 0 rfl) ?_
  refine x_vp (nn := 0) (As := []) (rest := []) hE (k_X9_isCourt l D K ad ) wPre_blind (wPre_now hK hN hP) (x_recv hK hP 0 (by decide) (yG_9 rfl) rfl) rfl mw_1718 mw_1720 mw_79 mw_123 mw_1721 (by decide +kernel) ⟨by decide, by decide⟩ hl.1 rfl (by decide) ⟨Nat.zero_le _, Nat.zero_le _⟩ dX9_points_6 (fun r hr => ?_)
  subst hr
  refine lv_if_ne (tgt := 15) hE.1 hE.2.1 dX9_points_9 (by decide) (fun h => absurd (by decide) h) (fun _ => ?_)
  refine lv_bipush (v := (-2)) hE.1 hE.2.1 dX9_points_12 (by decide) ?_
  exact x_wi hE hr hlo hP hS rfl rfl dX9_points_14

theorem dX9_share_0 : decode cX9_share 0 = .ok (.aload_n 0, 1) := by decide +kernel
theorem dX9_share_1 : decode cX9_share 1 = .ok (.iconst 0, 1) := by decide +kernel
theorem dX9_share_2 : decode cX9_share 2 = .ok (.putfield 81, 3) := by decide +kernel
theorem dX9_share_5 : decode cX9_share 5 = .ok (.aload_n 0, 1) := by decide +kernel
theorem dX9_share_6 : decode cX9_share 6 = .ok (.iload_n 1, 1) := by decide +kernel
theorem dX9_share_7 : decode cX9_share 7 = .ok (.invokevirtual 313, 3) := by decide +kernel
theorem dX9_share_10 : decode cX9_share 10 = .ok (.ifCond .ne 6, 3) := by decide +kernel
theorem dX9_share_13 : decode cX9_share 13 = .ok (.bipush (-2), 2) := by decide +kernel
theorem dX9_share_15 : decode cX9_share 15 = .ok (.ireturn, 1) := by decide +kernel
set_option maxHeartbeats 4000000 in
set_option maxRecDepth 100000 in
theorem k_X9_share (l : Launch) (D : va_G) (K : Nat → ClassId) (ad : Nat → Nat) (p1 : Int32) : Met l yX9_share (wM yX9_share cX9_share 4 (some .int)) (rmD 2) (va_Pc [.ref (ad 0), .int p1] (wPre D K ad (yG ad K) 21 yv0 ya0 yl0)) (va_Qi (fun r _ => r = (-2)) (wB D ad (yG ad K) 21) (inW ad 21)) 0 0 (inW ad 21) := by
  refine x_met (by decide) (Nat.le_of_ble_eq_true rfl) ?_
  intro p e s m below meth c ls hE hr hlo hnm hB hl
  have hE : CallFix p m c cX9_share 4 s _ tbG "TaleCourtModel" := hE
  obtain ⟨hP, hK, hN⟩ := hB
  have hS : va_S (inW ad 21) s.heap s.heap [] := va_S.rf
  have hl : lv_has ls 4 [(0, .ref (ad 0)), (1, .int p1)] := hl
  refine lv_aload_n hE.1 hE.2.1 dX9_share_0 rfl (lv_at hl 0 rfl) ?_
  refine lv_iconst (v := 0) hE.1 hE.2.1 dX9_share_1 (by decide) ?_
  refine x_put hE hK hN hP hS 0 (by decide) (yG_9 rfl) rfl hin9 tyX9 tyX9_ok nmX9 0 (by decide) mw_1334 rfl rfl rfl (Nat.le_of_ble_eq_true rfl) (yG_9 rfl) dX9_share_2 (fun v1 H locs hv hP hS => ?_)
  obtain rfl := hv.trans (up_same (by decide))
  refine lv_aload_n hE.1 hE.2.1 dX9_share_5 rfl (lv_at hl 0 rfl) ?_
  refine lv_iload_n hE.1 hE.2.1 dX9_share_6 rfl (lv_at hl 1 rfl) ?_
  refine x_vp (nn := 1) (As := [.int p1]) (rest := []) hE (k_X9_isTeller l D K ad p1) wPre_blind (wPre_now hK hN hP) (x_recv hK hP 0 (by decide) (yG_9 rfl) rfl) rfl mw_1786 mw_1788 mw_84 mw_123 mw_1789 (by decide +kernel) ⟨by decide, by decide⟩ hl.1 rfl (by decide) ⟨Nat.zero_le _, Nat.zero_le _⟩ dX9_share_7 (fun r hr => ?_)
  subst hr
  refine lv_if_ne (tgt := 16) hE.1 hE.2.1 dX9_share_10 (by decide) (fun h => absurd (by decide) h) (fun _ => ?_)
  refine lv_bipush (v := (-2)) hE.1 hE.2.1 dX9_share_13 (by decide) ?_
  exact x_wi hE hr hlo hP hS rfl rfl dX9_share_15

theorem dX9_left_0 : decode cX9_left 0 = .ok (.aload_n 0, 1) := by decide +kernel
theorem dX9_left_1 : decode cX9_left 1 = .ok (.iconst 0, 1) := by decide +kernel
theorem dX9_left_2 : decode cX9_left 2 = .ok (.putfield 81, 3) := by decide +kernel
theorem dX9_left_5 : decode cX9_left 5 = .ok (.aload_n 0, 1) := by decide +kernel
theorem dX9_left_6 : decode cX9_left 6 = .ok (.iload_n 1, 1) := by decide +kernel
theorem dX9_left_7 : decode cX9_left 7 = .ok (.invokevirtual 313, 3) := by decide +kernel
theorem dX9_left_10 : decode cX9_left 10 = .ok (.ifCond .ne 6, 3) := by decide +kernel
theorem dX9_left_13 : decode cX9_left 13 = .ok (.bipush (-2), 2) := by decide +kernel
theorem dX9_left_15 : decode cX9_left 15 = .ok (.ireturn, 1) := by decide +kernel
set_option maxHeartbeats 4000000 in
set_option maxRecDepth 100000 in
theorem k_X9_left (l : Launch) (D : va_G) (K : Nat → ClassId) (ad : Nat → Nat) (p1 : Int32) : Met l yX9_left (wM yX9_left cX9_left 2 (some .int)) (rmD 2) (va_Pc [.ref (ad 0), .int p1] (wPre D K ad (yG ad K) 21 yv0 ya0 yl0)) (va_Qi (fun r _ => r = (-2)) (wB D ad (yG ad K) 21) (inW ad 21)) 0 0 (inW ad 21) := by
  refine x_met (by decide) (Nat.le_of_ble_eq_true rfl) ?_
  intro p e s m below meth c ls hE hr hlo hnm hB hl
  have hE : CallFix p m c cX9_left 2 s _ tbG "TaleCourtModel" := hE
  obtain ⟨hP, hK, hN⟩ := hB
  have hS : va_S (inW ad 21) s.heap s.heap [] := va_S.rf
  have hl : lv_has ls 2 [(0, .ref (ad 0)), (1, .int p1)] := hl
  refine lv_aload_n hE.1 hE.2.1 dX9_left_0 rfl (lv_at hl 0 rfl) ?_
  refine lv_iconst (v := 0) hE.1 hE.2.1 dX9_left_1 (by decide) ?_
  refine x_put hE hK hN hP hS 0 (by decide) (yG_9 rfl) rfl hin9 tyX9 tyX9_ok nmX9 0 (by decide) mw_1334 rfl rfl rfl (Nat.le_of_ble_eq_true rfl) (yG_9 rfl) dX9_left_2 (fun v1 H locs hv hP hS => ?_)
  obtain rfl := hv.trans (up_same (by decide))
  refine lv_aload_n hE.1 hE.2.1 dX9_left_5 rfl (lv_at hl 0 rfl) ?_
  refine lv_iload_n hE.1 hE.2.1 dX9_left_6 rfl (lv_at hl 1 rfl) ?_
  refine x_vp (nn := 1) (As := [.int p1]) (rest := []) hE (k_X9_isTeller l D K ad p1) wPre_blind (wPre_now hK hN hP) (x_recv hK hP 0 (by decide) (yG_9 rfl) rfl) rfl mw_1786 mw_1788 mw_84 mw_123 mw_1789 (by decide +kernel) ⟨by decide, by decide⟩ hl.1 rfl (by decide) ⟨Nat.zero_le _, Nat.zero_le _⟩ dX9_left_7 (fun r hr => ?_)
  subst hr
  refine lv_if_ne (tgt := 16) hE.1 hE.2.1 dX9_left_10 (by decide) (fun h => absurd (by decide) h) (fun _ => ?_)
  refine lv_bipush (v := (-2)) hE.1 hE.2.1 dX9_left_13 (by decide) ?_
  exact x_wi hE hr hlo hP hS rfl rfl dX9_left_15

theorem dX9_longest_0 : decode cX9_longest 0 = .ok (.aload_n 0, 1) := by decide +kernel
theorem dX9_longest_1 : decode cX9_longest 1 = .ok (.iconst 0, 1) := by decide +kernel
theorem dX9_longest_2 : decode cX9_longest 2 = .ok (.putfield 81, 3) := by decide +kernel
theorem dX9_longest_5 : decode cX9_longest 5 = .ok (.aload_n 0, 1) := by decide +kernel
theorem dX9_longest_6 : decode cX9_longest 6 = .ok (.invokevirtual 301, 3) := by decide +kernel
theorem dX9_longest_9 : decode cX9_longest 9 = .ok (.ifCond .ne 6, 3) := by decide +kernel
theorem dX9_longest_12 : decode cX9_longest 12 = .ok (.bipush (-2), 2) := by decide +kernel
theorem dX9_longest_14 : decode cX9_longest 14 = .ok (.ireturn, 1) := by decide +kernel
set_option maxHeartbeats 4000000 in
set_option maxRecDepth 100000 in
theorem k_X9_longest (l : Launch) (D : va_G) (K : Nat → ClassId) (ad : Nat → Nat) : Met l yX9_longest (wM yX9_longest cX9_longest 1 (some .int)) (rmD 1) (va_Pc [.ref (ad 0)] (wPre D K ad (yG ad K) 21 yv0 ya0 yl0)) (va_Qi (fun r _ => r = (-2)) (wB D ad (yG ad K) 21) (inW ad 21)) 0 0 (inW ad 21) := by
  refine x_met (by decide) (Nat.le_of_ble_eq_true rfl) ?_
  intro p e s m below meth c ls hE hr hlo hnm hB hl
  have hE : CallFix p m c cX9_longest 1 s _ tbG "TaleCourtModel" := hE
  obtain ⟨hP, hK, hN⟩ := hB
  have hS : va_S (inW ad 21) s.heap s.heap [] := va_S.rf
  have hl : lv_has ls 1 [(0, .ref (ad 0))] := hl
  refine lv_aload_n hE.1 hE.2.1 dX9_longest_0 rfl (lv_at hl 0 rfl) ?_
  refine lv_iconst (v := 0) hE.1 hE.2.1 dX9_longest_1 (by decide) ?_
  refine x_put hE hK hN hP hS 0 (by decide) (yG_9 rfl) rfl hin9 tyX9 tyX9_ok nmX9 0 (by decide) mw_1334 rfl rfl rfl (Nat.le_of_ble_eq_true rfl) (yG_9 rfl) dX9_longest_2 (fun v1 H locs hv hP hS => ?_)
  obtain rfl := hv.trans (up_same (by decide))
  refine lv_aload_n hE.1 hE.2.1 dX9_longest_5 rfl (lv_at hl 0 rfl) ?_
  refine x_vp (nn := 0) (As := []) (rest := []) hE (k_X9_isCourt l D K ad ) wPre_blind (wPre_now hK hN hP) (x_recv hK hP 0 (by decide) (yG_9 rfl) rfl) rfl mw_1718 mw_1720 mw_79 mw_123 mw_1721 (by decide +kernel) ⟨by decide, by decide⟩ hl.1 rfl (by decide) ⟨Nat.zero_le _, Nat.zero_le _⟩ dX9_longest_6 (fun r hr => ?_)
  subst hr
  refine lv_if_ne (tgt := 15) hE.1 hE.2.1 dX9_longest_9 (by decide) (fun h => absurd (by decide) h) (fun _ => ?_)
  refine lv_bipush (v := (-2)) hE.1 hE.2.1 dX9_longest_12 (by decide) ?_
  exact x_wi hE hr hlo hP hS rfl rfl dX9_longest_14

theorem dX9_full_0 : decode cX9_full 0 = .ok (.aload_n 0, 1) := by decide +kernel
theorem dX9_full_1 : decode cX9_full 1 = .ok (.iconst 0, 1) := by decide +kernel
theorem dX9_full_2 : decode cX9_full 2 = .ok (.putfield 81, 3) := by decide +kernel
theorem dX9_full_5 : decode cX9_full 5 = .ok (.aload_n 0, 1) := by decide +kernel
theorem dX9_full_6 : decode cX9_full 6 = .ok (.invokevirtual 301, 3) := by decide +kernel
theorem dX9_full_9 : decode cX9_full 9 = .ok (.ifCond .ne 6, 3) := by decide +kernel
theorem dX9_full_12 : decode cX9_full 12 = .ok (.bipush (-2), 2) := by decide +kernel
theorem dX9_full_14 : decode cX9_full 14 = .ok (.ireturn, 1) := by decide +kernel
set_option maxHeartbeats 4000000 in
set_option maxRecDepth 100000 in
theorem k_X9_full (l : Launch) (D : va_G) (K : Nat → ClassId) (ad : Nat → Nat) : Met l yX9_full (wM yX9_full cX9_full 1 (some .int)) (rmD 1) (va_Pc [.ref (ad 0)] (wPre D K ad (yG ad K) 21 yv0 ya0 yl0)) (va_Qi (fun r _ => r = (-2)) (wB D ad (yG ad K) 21) (inW ad 21)) 0 0 (inW ad 21) := by
  refine x_met (by decide) (Nat.le_of_ble_eq_true rfl) ?_
  intro p e s m below meth c ls hE hr hlo hnm hB hl
  have hE : CallFix p m c cX9_full 1 s _ tbG "TaleCourtModel" := hE
  obtain ⟨hP, hK, hN⟩ := hB
  have hS : va_S (inW ad 21) s.heap s.heap [] := va_S.rf
  have hl : lv_has ls 1 [(0, .ref (ad 0))] := hl
  refine lv_aload_n hE.1 hE.2.1 dX9_full_0 rfl (lv_at hl 0 rfl) ?_
  refine lv_iconst (v := 0) hE.1 hE.2.1 dX9_full_1 (by decide) ?_
  refine x_put hE hK hN hP hS 0 (by decide) (yG_9 rfl) rfl hin9 tyX9 tyX9_ok nmX9 0 (by decide) mw_1334 rfl rfl rfl (Nat.le_of_ble_eq_true rfl) (yG_9 rfl) dX9_full_2 (fun v1 H locs hv hP hS => ?_)
  obtain rfl := hv.trans (up_same (by decide))
  refine lv_aload_n hE.1 hE.2.1 dX9_full_5 rfl (lv_at hl 0 rfl) ?_
  refine x_vp (nn := 0) (As := []) (rest := []) hE (k_X9_isCourt l D K ad ) wPre_blind (wPre_now hK hN hP) (x_recv hK hP 0 (by decide) (yG_9 rfl) rfl) rfl mw_1718 mw_1720 mw_79 mw_123 mw_1721 (by decide +kernel) ⟨by decide, by decide⟩ hl.1 rfl (by decide) ⟨Nat.zero_le _, Nat.zero_le _⟩ dX9_full_6 (fun r hr => ?_)
  subst hr
  refine lv_if_ne (tgt := 15) hE.1 hE.2.1 dX9_full_9 (by decide) (fun h => absurd (by decide) h) (fun _ => ?_)
  refine lv_bipush (v := (-2)) hE.1 hE.2.1 dX9_full_12 (by decide) ?_
  exact x_wi hE hr hlo hP hS rfl rfl dX9_full_14

theorem dX9_line__0 : decode cX9_line_ 0 = .ok (.aload_n 0, 1) := by decide +kernel
theorem dX9_line__1 : decode cX9_line_ 1 = .ok (.iconst 0, 1) := by decide +kernel
theorem dX9_line__2 : decode cX9_line_ 2 = .ok (.putfield 81, 3) := by decide +kernel
theorem dX9_line__5 : decode cX9_line_ 5 = .ok (.aload_n 0, 1) := by decide +kernel
theorem dX9_line__6 : decode cX9_line_ 6 = .ok (.invokevirtual 301, 3) := by decide +kernel
theorem dX9_line__9 : decode cX9_line_ 9 = .ok (.ifCond .ne 6, 3) := by decide +kernel
theorem dX9_line__12 : decode cX9_line_ 12 = .ok (.bipush (-2), 2) := by decide +kernel
theorem dX9_line__14 : decode cX9_line_ 14 = .ok (.ireturn, 1) := by decide +kernel
set_option maxHeartbeats 4000000 in
set_option maxRecDepth 100000 in
theorem k_X9_line (l : Launch) (D : va_G) (K : Nat → ClassId) (ad : Nat → Nat) (p1 : Int32) : Met l yX9_line_ (wM yX9_line_ cX9_line_ 2 (some .int)) (rmD 1) (va_Pc [.ref (ad 0), .int p1] (wPre D K ad (yG ad K) 21 yv0 ya0 yl0)) (va_Qi (fun r _ => r = (-2)) (wB D ad (yG ad K) 21) (inW ad 21)) 0 0 (inW ad 21) := by
  refine x_met (by decide) (Nat.le_of_ble_eq_true rfl) ?_
  intro p e s m below meth c ls hE hr hlo hnm hB hl
  have hE : CallFix p m c cX9_line_ 2 s _ tbG "TaleCourtModel" := hE
  obtain ⟨hP, hK, hN⟩ := hB
  have hS : va_S (inW ad 21) s.heap s.heap [] := va_S.rf
  have hl : lv_has ls 2 [(0, .ref (ad 0)), (1, .int p1)] := hl
  refine lv_aload_n hE.1 hE.2.1 dX9_line__0 rfl (lv_at hl 0 rfl) ?_
  refine lv_iconst (v := 0) hE.1 hE.2.1 dX9_line__1 (by decide) ?_
  refine x_put hE hK hN hP hS 0 (by decide) (yG_9 rfl) rfl hin9 tyX9 tyX9_ok nmX9 0 (by decide) mw_1334 rfl rfl rfl (Nat.le_of_ble_eq_true rfl) (yG_9 rfl) dX9_line__2 (fun v1 H locs hv hP hS => ?_)
  obtain rfl := hv.trans (up_same (by decide))
  refine lv_aload_n hE.1 hE.2.1 dX9_line__5 rfl (lv_at hl 0 rfl) ?_
  refine x_vp (nn := 0) (As := []) (rest := []) hE (k_X9_isCourt l D K ad ) wPre_blind (wPre_now hK hN hP) (x_recv hK hP 0 (by decide) (yG_9 rfl) rfl) rfl mw_1718 mw_1720 mw_79 mw_123 mw_1721 (by decide +kernel) ⟨by decide, by decide⟩ hl.1 rfl (by decide) ⟨Nat.zero_le _, Nat.zero_le _⟩ dX9_line__6 (fun r hr => ?_)
  subst hr
  refine lv_if_ne (tgt := 15) hE.1 hE.2.1 dX9_line__9 (by decide) (fun h => absurd (by decide) h) (fun _ => ?_)
  refine lv_bipush (v := (-2)) hE.1 hE.2.1 dX9_line__12 (by decide) ?_
  exact x_wi hE hr hlo hP hS rfl rfl dX9_line__14

theorem dX9_best_0 : decode cX9_best 0 = .ok (.aload_n 0, 1) := by decide +kernel
theorem dX9_best_1 : decode cX9_best 1 = .ok (.iconst 0, 1) := by decide +kernel
theorem dX9_best_2 : decode cX9_best 2 = .ok (.putfield 81, 3) := by decide +kernel
theorem dX9_best_5 : decode cX9_best 5 = .ok (.aload_n 0, 1) := by decide +kernel
theorem dX9_best_6 : decode cX9_best 6 = .ok (.invokevirtual 301, 3) := by decide +kernel
theorem dX9_best_9 : decode cX9_best 9 = .ok (.ifCond .ne 6, 3) := by decide +kernel
theorem dX9_best_12 : decode cX9_best 12 = .ok (.bipush (-2), 2) := by decide +kernel
theorem dX9_best_14 : decode cX9_best 14 = .ok (.ireturn, 1) := by decide +kernel
set_option maxHeartbeats 4000000 in
set_option maxRecDepth 100000 in
theorem k_X9_best (l : Launch) (D : va_G) (K : Nat → ClassId) (ad : Nat → Nat) : Met l yX9_best (wM yX9_best cX9_best 1 (some .int)) (rmD 1) (va_Pc [.ref (ad 0)] (wPre D K ad (yG ad K) 21 yv0 ya0 yl0)) (va_Qi (fun r _ => r = (-2)) (wB D ad (yG ad K) 21) (inW ad 21)) 0 0 (inW ad 21) := by
  refine x_met (by decide) (Nat.le_of_ble_eq_true rfl) ?_
  intro p e s m below meth c ls hE hr hlo hnm hB hl
  have hE : CallFix p m c cX9_best 1 s _ tbG "TaleCourtModel" := hE
  obtain ⟨hP, hK, hN⟩ := hB
  have hS : va_S (inW ad 21) s.heap s.heap [] := va_S.rf
  have hl : lv_has ls 1 [(0, .ref (ad 0))] := hl
  refine lv_aload_n hE.1 hE.2.1 dX9_best_0 rfl (lv_at hl 0 rfl) ?_
  refine lv_iconst (v := 0) hE.1 hE.2.1 dX9_best_1 (by decide) ?_
  refine x_put hE hK hN hP hS 0 (by decide) (yG_9 rfl) rfl hin9 tyX9 tyX9_ok nmX9 0 (by decide) mw_1334 rfl rfl rfl (Nat.le_of_ble_eq_true rfl) (yG_9 rfl) dX9_best_2 (fun v1 H locs hv hP hS => ?_)
  obtain rfl := hv.trans (up_same (by decide))
  refine lv_aload_n hE.1 hE.2.1 dX9_best_5 rfl (lv_at hl 0 rfl) ?_
  refine x_vp (nn := 0) (As := []) (rest := []) hE (k_X9_isCourt l D K ad ) wPre_blind (wPre_now hK hN hP) (x_recv hK hP 0 (by decide) (yG_9 rfl) rfl) rfl mw_1718 mw_1720 mw_79 mw_123 mw_1721 (by decide +kernel) ⟨by decide, by decide⟩ hl.1 rfl (by decide) ⟨Nat.zero_le _, Nat.zero_le _⟩ dX9_best_6 (fun r hr => ?_)
  subst hr
  refine lv_if_ne (tgt := 15) hE.1 hE.2.1 dX9_best_9 (by decide) (fun h => absurd (by decide) h) (fun _ => ?_)
  refine lv_bipush (v := (-2)) hE.1 hE.2.1 dX9_best_12 (by decide) ?_
  exact x_wi hE hr hlo hP hS rfl rfl dX9_best_14

theorem dX9_tale_0 : decode cX9_tale 0 = .ok (.aload_n 0, 1) := by decide +kernel
theorem dX9_tale_1 : decode cX9_tale 1 = .ok (.iconst 0, 1) := by decide +kernel
theorem dX9_tale_2 : decode cX9_tale 2 = .ok (.putfield 81, 3) := by decide +kernel
theorem dX9_tale_5 : decode cX9_tale 5 = .ok (.aload_n 0, 1) := by decide +kernel
theorem dX9_tale_6 : decode cX9_tale 6 = .ok (.invokevirtual 301, 3) := by decide +kernel
theorem dX9_tale_9 : decode cX9_tale 9 = .ok (.ifCond .ne 6, 3) := by decide +kernel
theorem dX9_tale_12 : decode cX9_tale 12 = .ok (.bipush (-2), 2) := by decide +kernel
theorem dX9_tale_14 : decode cX9_tale 14 = .ok (.ireturn, 1) := by decide +kernel
set_option maxHeartbeats 4000000 in
set_option maxRecDepth 100000 in
theorem k_X9_tale (l : Launch) (D : va_G) (K : Nat → ClassId) (ad : Nat → Nat) (p1 : Int32) : Met l yX9_tale (wM yX9_tale cX9_tale 2 (some .int)) (rmD 1) (va_Pc [.ref (ad 0), .int p1] (wPre D K ad (yG ad K) 21 yv0 ya0 yl0)) (va_Qi (fun r _ => r = (-2)) (wB D ad (yG ad K) 21) (inW ad 21)) 0 0 (inW ad 21) := by
  refine x_met (by decide) (Nat.le_of_ble_eq_true rfl) ?_
  intro p e s m below meth c ls hE hr hlo hnm hB hl
  have hE : CallFix p m c cX9_tale 2 s _ tbG "TaleCourtModel" := hE
  obtain ⟨hP, hK, hN⟩ := hB
  have hS : va_S (inW ad 21) s.heap s.heap [] := va_S.rf
  have hl : lv_has ls 2 [(0, .ref (ad 0)), (1, .int p1)] := hl
  refine lv_aload_n hE.1 hE.2.1 dX9_tale_0 rfl (lv_at hl 0 rfl) ?_
  refine lv_iconst (v := 0) hE.1 hE.2.1 dX9_tale_1 (by decide) ?_
  refine x_put hE hK hN hP hS 0 (by decide) (yG_9 rfl) rfl hin9 tyX9 tyX9_ok nmX9 0 (by decide) mw_1334 rfl rfl rfl (Nat.le_of_ble_eq_true rfl) (yG_9 rfl) dX9_tale_2 (fun v1 H locs hv hP hS => ?_)
  obtain rfl := hv.trans (up_same (by decide))
  refine lv_aload_n hE.1 hE.2.1 dX9_tale_5 rfl (lv_at hl 0 rfl) ?_
  refine x_vp (nn := 0) (As := []) (rest := []) hE (k_X9_isCourt l D K ad ) wPre_blind (wPre_now hK hN hP) (x_recv hK hP 0 (by decide) (yG_9 rfl) rfl) rfl mw_1718 mw_1720 mw_79 mw_123 mw_1721 (by decide +kernel) ⟨by decide, by decide⟩ hl.1 rfl (by decide) ⟨Nat.zero_le _, Nat.zero_le _⟩ dX9_tale_6 (fun r hr => ?_)
  subst hr
  refine lv_if_ne (tgt := 15) hE.1 hE.2.1 dX9_tale_9 (by decide) (fun h => absurd (by decide) h) (fun _ => ?_)
  refine lv_bipush (v := (-2)) hE.1 hE.2.1 dX9_tale_12 (by decide) ?_
  exact x_wi hE hr hlo hP hS rfl rfl dX9_tale_14

theorem dX9_roof_0 : decode cX9_roof 0 = .ok (.aload_n 0, 1) := by decide +kernel
theorem dX9_roof_1 : decode cX9_roof 1 = .ok (.iconst 0, 1) := by decide +kernel
theorem dX9_roof_2 : decode cX9_roof 2 = .ok (.putfield 81, 3) := by decide +kernel
theorem dX9_roof_5 : decode cX9_roof 5 = .ok (.aload_n 0, 1) := by decide +kernel
theorem dX9_roof_6 : decode cX9_roof 6 = .ok (.invokevirtual 301, 3) := by decide +kernel
theorem dX9_roof_9 : decode cX9_roof 9 = .ok (.ifCond .eq 7, 3) := by decide +kernel
theorem dX9_roof_16 : decode cX9_roof 16 = .ok (.bipush (-2), 2) := by decide +kernel
theorem dX9_roof_18 : decode cX9_roof 18 = .ok (.ireturn, 1) := by decide +kernel
set_option maxHeartbeats 4000000 in
set_option maxRecDepth 100000 in
theorem k_X9_roof (l : Launch) (D : va_G) (K : Nat → ClassId) (ad : Nat → Nat) (p1 : Int32) : Met l yX9_roof (wM yX9_roof cX9_roof 2 (some .int)) (rmD 1) (va_Pc [.ref (ad 0), .int p1] (wPre D K ad (yG ad K) 21 yv0 ya0 yl0)) (va_Qi (fun r _ => r = (-2)) (wB D ad (yG ad K) 21) (inW ad 21)) 0 0 (inW ad 21) := by
  refine x_met (by decide) (Nat.le_of_ble_eq_true rfl) ?_
  intro p e s m below meth c ls hE hr hlo hnm hB hl
  have hE : CallFix p m c cX9_roof 2 s _ tbG "TaleCourtModel" := hE
  obtain ⟨hP, hK, hN⟩ := hB
  have hS : va_S (inW ad 21) s.heap s.heap [] := va_S.rf
  have hl : lv_has ls 2 [(0, .ref (ad 0)), (1, .int p1)] := hl
  refine lv_aload_n hE.1 hE.2.1 dX9_roof_0 rfl (lv_at hl 0 rfl) ?_
  refine lv_iconst (v := 0) hE.1 hE.2.1 dX9_roof_1 (by decide) ?_
  refine x_put hE hK hN hP hS 0 (by decide) (yG_9 rfl) rfl hin9 tyX9 tyX9_ok nmX9 0 (by decide) mw_1334 rfl rfl rfl (Nat.le_of_ble_eq_true rfl) (yG_9 rfl) dX9_roof_2 (fun v1 H locs hv hP hS => ?_)
  obtain rfl := hv.trans (up_same (by decide))
  refine lv_aload_n hE.1 hE.2.1 dX9_roof_5 rfl (lv_at hl 0 rfl) ?_
  refine x_vp (nn := 0) (As := []) (rest := []) hE (k_X9_isCourt l D K ad ) wPre_blind (wPre_now hK hN hP) (x_recv hK hP 0 (by decide) (yG_9 rfl) rfl) rfl mw_1718 mw_1720 mw_79 mw_123 mw_1721 (by decide +kernel) ⟨by decide, by decide⟩ hl.1 rfl (by decide) ⟨Nat.zero_le _, Nat.zero_le _⟩ dX9_roof_6 (fun r hr => ?_)
  subst hr
  refine lv_if_eq (tgt := 16) hE.1 hE.2.1 dX9_roof_9 (by decide) (fun _ => ?_) (fun h => absurd (by decide) h)
  refine lv_bipush (v := (-2)) hE.1 hE.2.1 dX9_roof_16 (by decide) ?_
  exact x_wi hE hr hlo hP hS rfl rfl dX9_roof_18

theorem dX9_beam_0 : decode cX9_beam 0 = .ok (.aload_n 0, 1) := by decide +kernel
theorem dX9_beam_1 : decode cX9_beam 1 = .ok (.iconst 0, 1) := by decide +kernel
theorem dX9_beam_2 : decode cX9_beam 2 = .ok (.putfield 81, 3) := by decide +kernel
theorem dX9_beam_5 : decode cX9_beam 5 = .ok (.aload_n 0, 1) := by decide +kernel
theorem dX9_beam_6 : decode cX9_beam 6 = .ok (.invokevirtual 301, 3) := by decide +kernel
theorem dX9_beam_9 : decode cX9_beam 9 = .ok (.ifCond .eq 7, 3) := by decide +kernel
theorem dX9_beam_16 : decode cX9_beam 16 = .ok (.bipush (-2), 2) := by decide +kernel
theorem dX9_beam_18 : decode cX9_beam 18 = .ok (.ireturn, 1) := by decide +kernel
set_option maxHeartbeats 4000000 in
set_option maxRecDepth 100000 in
theorem k_X9_beam (l : Launch) (D : va_G) (K : Nat → ClassId) (ad : Nat → Nat) (p1 : Int32) (p2 : Int32) : Met l yX9_beam (wM yX9_beam cX9_beam 3 (some .int)) (rmD 1) (va_Pc [.ref (ad 0), .int p1, .int p2] (wPre D K ad (yG ad K) 21 yv0 ya0 yl0)) (va_Qi (fun r _ => r = (-2)) (wB D ad (yG ad K) 21) (inW ad 21)) 0 0 (inW ad 21) := by
  refine x_met (by decide) (Nat.le_of_ble_eq_true rfl) ?_
  intro p e s m below meth c ls hE hr hlo hnm hB hl
  have hE : CallFix p m c cX9_beam 3 s _ tbG "TaleCourtModel" := hE
  obtain ⟨hP, hK, hN⟩ := hB
  have hS : va_S (inW ad 21) s.heap s.heap [] := va_S.rf
  have hl : lv_has ls 3 [(0, .ref (ad 0)), (1, .int p1), (2, .int p2)] := hl
  refine lv_aload_n hE.1 hE.2.1 dX9_beam_0 rfl (lv_at hl 0 rfl) ?_
  refine lv_iconst (v := 0) hE.1 hE.2.1 dX9_beam_1 (by decide) ?_
  refine x_put hE hK hN hP hS 0 (by decide) (yG_9 rfl) rfl hin9 tyX9 tyX9_ok nmX9 0 (by decide) mw_1334 rfl rfl rfl (Nat.le_of_ble_eq_true rfl) (yG_9 rfl) dX9_beam_2 (fun v1 H locs hv hP hS => ?_)
  obtain rfl := hv.trans (up_same (by decide))
  refine lv_aload_n hE.1 hE.2.1 dX9_beam_5 rfl (lv_at hl 0 rfl) ?_
  refine x_vp (nn := 0) (As := []) (rest := []) hE (k_X9_isCourt l D K ad ) wPre_blind (wPre_now hK hN hP) (x_recv hK hP 0 (by decide) (yG_9 rfl) rfl) rfl mw_1718 mw_1720 mw_79 mw_123 mw_1721 (by decide +kernel) ⟨by decide, by decide⟩ hl.1 rfl (by decide) ⟨Nat.zero_le _, Nat.zero_le _⟩ dX9_beam_6 (fun r hr => ?_)
  subst hr
  refine lv_if_eq (tgt := 16) hE.1 hE.2.1 dX9_beam_9 (by decide) (fun _ => ?_) (fun h => absurd (by decide) h)
  refine lv_bipush (v := (-2)) hE.1 hE.2.1 dX9_beam_16 (by decide) ?_
  exact x_wi hE hr hlo hP hS rfl rfl dX9_beam_18

theorem dX9_rows_0 : decode cX9_rows 0 = .ok (.aload_n 0, 1) := by decide +kernel
theorem dX9_rows_1 : decode cX9_rows 1 = .ok (.iconst 0, 1) := by decide +kernel
theorem dX9_rows_2 : decode cX9_rows 2 = .ok (.putfield 81, 3) := by decide +kernel
theorem dX9_rows_5 : decode cX9_rows 5 = .ok (.aload_n 0, 1) := by decide +kernel
theorem dX9_rows_6 : decode cX9_rows 6 = .ok (.invokevirtual 301, 3) := by decide +kernel
theorem dX9_rows_9 : decode cX9_rows 9 = .ok (.ifCond .eq 15, 3) := by decide +kernel
theorem dX9_rows_24 : decode cX9_rows 24 = .ok (.bipush (-2), 2) := by decide +kernel
theorem dX9_rows_26 : decode cX9_rows 26 = .ok (.ireturn, 1) := by decide +kernel
set_option maxHeartbeats 4000000 in
set_option maxRecDepth 100000 in
theorem k_X9_rows (l : Launch) (D : va_G) (K : Nat → ClassId) (ad : Nat → Nat) (p1 : Int32) : Met l yX9_rows (wM yX9_rows cX9_rows 2 (some .int)) (rmD 1) (va_Pc [.ref (ad 0), .int p1] (wPre D K ad (yG ad K) 21 yv0 ya0 yl0)) (va_Qi (fun r _ => r = (-2)) (wB D ad (yG ad K) 21) (inW ad 21)) 0 0 (inW ad 21) := by
  refine x_met (by decide) (Nat.le_of_ble_eq_true rfl) ?_
  intro p e s m below meth c ls hE hr hlo hnm hB hl
  have hE : CallFix p m c cX9_rows 2 s _ tbG "TaleCourtModel" := hE
  obtain ⟨hP, hK, hN⟩ := hB
  have hS : va_S (inW ad 21) s.heap s.heap [] := va_S.rf
  have hl : lv_has ls 2 [(0, .ref (ad 0)), (1, .int p1)] := hl
  refine lv_aload_n hE.1 hE.2.1 dX9_rows_0 rfl (lv_at hl 0 rfl) ?_
  refine lv_iconst (v := 0) hE.1 hE.2.1 dX9_rows_1 (by decide) ?_
  refine x_put hE hK hN hP hS 0 (by decide) (yG_9 rfl) rfl hin9 tyX9 tyX9_ok nmX9 0 (by decide) mw_1334 rfl rfl rfl (Nat.le_of_ble_eq_true rfl) (yG_9 rfl) dX9_rows_2 (fun v1 H locs hv hP hS => ?_)
  obtain rfl := hv.trans (up_same (by decide))
  refine lv_aload_n hE.1 hE.2.1 dX9_rows_5 rfl (lv_at hl 0 rfl) ?_
  refine x_vp (nn := 0) (As := []) (rest := []) hE (k_X9_isCourt l D K ad ) wPre_blind (wPre_now hK hN hP) (x_recv hK hP 0 (by decide) (yG_9 rfl) rfl) rfl mw_1718 mw_1720 mw_79 mw_123 mw_1721 (by decide +kernel) ⟨by decide, by decide⟩ hl.1 rfl (by decide) ⟨Nat.zero_le _, Nat.zero_le _⟩ dX9_rows_6 (fun r hr => ?_)
  subst hr
  refine lv_if_eq (tgt := 24) hE.1 hE.2.1 dX9_rows_9 (by decide) (fun _ => ?_) (fun h => absurd (by decide) h)
  refine lv_bipush (v := (-2)) hE.1 hE.2.1 dX9_rows_24 (by decide) ?_
  exact x_wi hE hr hlo hP hS rfl rfl dX9_rows_26

theorem dX9_wholes_0 : decode cX9_wholes 0 = .ok (.aload_n 0, 1) := by decide +kernel
theorem dX9_wholes_1 : decode cX9_wholes 1 = .ok (.iconst 0, 1) := by decide +kernel
theorem dX9_wholes_2 : decode cX9_wholes 2 = .ok (.putfield 81, 3) := by decide +kernel
theorem dX9_wholes_5 : decode cX9_wholes 5 = .ok (.aload_n 0, 1) := by decide +kernel
theorem dX9_wholes_6 : decode cX9_wholes 6 = .ok (.invokevirtual 301, 3) := by decide +kernel
theorem dX9_wholes_9 : decode cX9_wholes 9 = .ok (.ifCond .eq 10, 3) := by decide +kernel
theorem dX9_wholes_19 : decode cX9_wholes 19 = .ok (.bipush (-2), 2) := by decide +kernel
theorem dX9_wholes_21 : decode cX9_wholes 21 = .ok (.ireturn, 1) := by decide +kernel
set_option maxHeartbeats 4000000 in
set_option maxRecDepth 100000 in
theorem k_X9_wholes (l : Launch) (D : va_G) (K : Nat → ClassId) (ad : Nat → Nat) : Met l yX9_wholes (wM yX9_wholes cX9_wholes 1 (some .int)) (rmD 1) (va_Pc [.ref (ad 0)] (wPre D K ad (yG ad K) 21 yv0 ya0 yl0)) (va_Qi (fun r _ => r = (-2)) (wB D ad (yG ad K) 21) (inW ad 21)) 0 0 (inW ad 21) := by
  refine x_met (by decide) (Nat.le_of_ble_eq_true rfl) ?_
  intro p e s m below meth c ls hE hr hlo hnm hB hl
  have hE : CallFix p m c cX9_wholes 1 s _ tbG "TaleCourtModel" := hE
  obtain ⟨hP, hK, hN⟩ := hB
  have hS : va_S (inW ad 21) s.heap s.heap [] := va_S.rf
  have hl : lv_has ls 1 [(0, .ref (ad 0))] := hl
  refine lv_aload_n hE.1 hE.2.1 dX9_wholes_0 rfl (lv_at hl 0 rfl) ?_
  refine lv_iconst (v := 0) hE.1 hE.2.1 dX9_wholes_1 (by decide) ?_
  refine x_put hE hK hN hP hS 0 (by decide) (yG_9 rfl) rfl hin9 tyX9 tyX9_ok nmX9 0 (by decide) mw_1334 rfl rfl rfl (Nat.le_of_ble_eq_true rfl) (yG_9 rfl) dX9_wholes_2 (fun v1 H locs hv hP hS => ?_)
  obtain rfl := hv.trans (up_same (by decide))
  refine lv_aload_n hE.1 hE.2.1 dX9_wholes_5 rfl (lv_at hl 0 rfl) ?_
  refine x_vp (nn := 0) (As := []) (rest := []) hE (k_X9_isCourt l D K ad ) wPre_blind (wPre_now hK hN hP) (x_recv hK hP 0 (by decide) (yG_9 rfl) rfl) rfl mw_1718 mw_1720 mw_79 mw_123 mw_1721 (by decide +kernel) ⟨by decide, by decide⟩ hl.1 rfl (by decide) ⟨Nat.zero_le _, Nat.zero_le _⟩ dX9_wholes_6 (fun r hr => ?_)
  subst hr
  refine lv_if_eq (tgt := 19) hE.1 hE.2.1 dX9_wholes_9 (by decide) (fun _ => ?_) (fun h => absurd (by decide) h)
  refine lv_bipush (v := (-2)) hE.1 hE.2.1 dX9_wholes_19 (by decide) ?_
  exact x_wi hE hr hlo hP hS rfl rfl dX9_wholes_21

theorem dX9_ends__0 : decode cX9_ends_ 0 = .ok (.aload_n 0, 1) := by decide +kernel
theorem dX9_ends__1 : decode cX9_ends_ 1 = .ok (.iconst 0, 1) := by decide +kernel
theorem dX9_ends__2 : decode cX9_ends_ 2 = .ok (.putfield 81, 3) := by decide +kernel
theorem dX9_ends__5 : decode cX9_ends_ 5 = .ok (.aload_n 0, 1) := by decide +kernel
theorem dX9_ends__6 : decode cX9_ends_ 6 = .ok (.iload_n 1, 1) := by decide +kernel
theorem dX9_ends__7 : decode cX9_ends_ 7 = .ok (.i2l, 1) := by decide +kernel
theorem dX9_ends__8 : decode cX9_ends_ 8 = .ok (.invokevirtual 253, 3) := by decide +kernel
theorem dX9_ends__11 : decode cX9_ends_ 11 = .ok (.ifCond .ne 6, 3) := by decide +kernel
theorem dX9_ends__14 : decode cX9_ends_ 14 = .ok (.bipush (-2), 2) := by decide +kernel
theorem dX9_ends__16 : decode cX9_ends_ 16 = .ok (.ireturn, 1) := by decide +kernel
set_option maxHeartbeats 4000000 in
set_option maxRecDepth 100000 in
theorem k_X9_ends (l : Launch) (D : va_G) (K : Nat → ClassId) (ad : Nat → Nat) (p1 : Int32) : Met l yX9_ends_ (wM yX9_ends_ cX9_ends_ 2 (some .int)) (rmD 2) (va_Pc [.ref (ad 0), .int p1] (wPre D K ad (yG ad K) 21 yv0 ya0 yl0)) (va_Qi (fun r _ => r = (-2)) (wB D ad (yG ad K) 21) (inW ad 21)) 0 0 (inW ad 21) := by
  refine x_met (by decide) (Nat.le_of_ble_eq_true rfl) ?_
  intro p e s m below meth c ls hE hr hlo hnm hB hl
  have hE : CallFix p m c cX9_ends_ 2 s _ tbG "TaleCourtModel" := hE
  obtain ⟨hP, hK, hN⟩ := hB
  have hS : va_S (inW ad 21) s.heap s.heap [] := va_S.rf
  have hl : lv_has ls 2 [(0, .ref (ad 0)), (1, .int p1)] := hl
  refine lv_aload_n hE.1 hE.2.1 dX9_ends__0 rfl (lv_at hl 0 rfl) ?_
  refine lv_iconst (v := 0) hE.1 hE.2.1 dX9_ends__1 (by decide) ?_
  refine x_put hE hK hN hP hS 0 (by decide) (yG_9 rfl) rfl hin9 tyX9 tyX9_ok nmX9 0 (by decide) mw_1334 rfl rfl rfl (Nat.le_of_ble_eq_true rfl) (yG_9 rfl) dX9_ends__2 (fun v1 H locs hv hP hS => ?_)
  obtain rfl := hv.trans (up_same (by decide))
  refine lv_aload_n hE.1 hE.2.1 dX9_ends__5 rfl (lv_at hl 0 rfl) ?_
  refine lv_iload_n hE.1 hE.2.1 dX9_ends__6 rfl (lv_at hl 1 rfl) ?_
  refine lv_i2l (v := (p1.toInt64)) hE.1 hE.2.1 dX9_ends__7 rfl ?_
  refine x_vp (nn := 1) (As := [.long (p1.toInt64)]) (rest := []) hE (k_X9_isMotif l D K ad (p1.toInt64)) wPre_blind (wPre_now hK hN hP) (x_recv hK hP 0 (by decide) (yG_9 rfl) rfl) rfl mw_1662 mw_1664 mw_74 mw_123 mw_1665 (by decide +kernel) ⟨by decide, by decide⟩ hl.1 rfl (by decide) ⟨Nat.zero_le _, Nat.zero_le _⟩ dX9_ends__8 (fun r hr => ?_)
  subst hr
  refine lv_if_ne (tgt := 17) hE.1 hE.2.1 dX9_ends__11 (by decide) (fun h => absurd (by decide) h) (fun _ => ?_)
  refine lv_bipush (v := (-2)) hE.1 hE.2.1 dX9_ends__14 (by decide) ?_
  exact x_wi hE hr hlo hP hS rfl rfl dX9_ends__16

theorem dX9_always_0 : decode cX9_always 0 = .ok (.aload_n 0, 1) := by decide +kernel
theorem dX9_always_1 : decode cX9_always 1 = .ok (.iconst 0, 1) := by decide +kernel
theorem dX9_always_2 : decode cX9_always 2 = .ok (.putfield 81, 3) := by decide +kernel
theorem dX9_always_5 : decode cX9_always 5 = .ok (.aload_n 0, 1) := by decide +kernel
theorem dX9_always_6 : decode cX9_always 6 = .ok (.invokevirtual 301, 3) := by decide +kernel
theorem dX9_always_9 : decode cX9_always 9 = .ok (.ifCond .eq 13, 3) := by decide +kernel
theorem dX9_always_22 : decode cX9_always 22 = .ok (.bipush (-2), 2) := by decide +kernel
theorem dX9_always_24 : decode cX9_always 24 = .ok (.ireturn, 1) := by decide +kernel
set_option maxHeartbeats 4000000 in
set_option maxRecDepth 100000 in
theorem k_X9_always (l : Launch) (D : va_G) (K : Nat → ClassId) (ad : Nat → Nat) (p1 : Int32) : Met l yX9_always (wM yX9_always cX9_always 2 (some .int)) (rmD 1) (va_Pc [.ref (ad 0), .int p1] (wPre D K ad (yG ad K) 21 yv0 ya0 yl0)) (va_Qi (fun r _ => r = (-2)) (wB D ad (yG ad K) 21) (inW ad 21)) 0 0 (inW ad 21) := by
  refine x_met (by decide) (Nat.le_of_ble_eq_true rfl) ?_
  intro p e s m below meth c ls hE hr hlo hnm hB hl
  have hE : CallFix p m c cX9_always 2 s _ tbG "TaleCourtModel" := hE
  obtain ⟨hP, hK, hN⟩ := hB
  have hS : va_S (inW ad 21) s.heap s.heap [] := va_S.rf
  have hl : lv_has ls 2 [(0, .ref (ad 0)), (1, .int p1)] := hl
  refine lv_aload_n hE.1 hE.2.1 dX9_always_0 rfl (lv_at hl 0 rfl) ?_
  refine lv_iconst (v := 0) hE.1 hE.2.1 dX9_always_1 (by decide) ?_
  refine x_put hE hK hN hP hS 0 (by decide) (yG_9 rfl) rfl hin9 tyX9 tyX9_ok nmX9 0 (by decide) mw_1334 rfl rfl rfl (Nat.le_of_ble_eq_true rfl) (yG_9 rfl) dX9_always_2 (fun v1 H locs hv hP hS => ?_)
  obtain rfl := hv.trans (up_same (by decide))
  refine lv_aload_n hE.1 hE.2.1 dX9_always_5 rfl (lv_at hl 0 rfl) ?_
  refine x_vp (nn := 0) (As := []) (rest := []) hE (k_X9_isCourt l D K ad ) wPre_blind (wPre_now hK hN hP) (x_recv hK hP 0 (by decide) (yG_9 rfl) rfl) rfl mw_1718 mw_1720 mw_79 mw_123 mw_1721 (by decide +kernel) ⟨by decide, by decide⟩ hl.1 rfl (by decide) ⟨Nat.zero_le _, Nat.zero_le _⟩ dX9_always_6 (fun r hr => ?_)
  subst hr
  refine lv_if_eq (tgt := 22) hE.1 hE.2.1 dX9_always_9 (by decide) (fun _ => ?_) (fun h => absurd (by decide) h)
  refine lv_bipush (v := (-2)) hE.1 hE.2.1 dX9_always_22 (by decide) ?_
  exact x_wi hE hr hlo hP hS rfl rfl dX9_always_24

theorem dX9_wins_0 : decode cX9_wins 0 = .ok (.aload_n 0, 1) := by decide +kernel
theorem dX9_wins_1 : decode cX9_wins 1 = .ok (.iconst 0, 1) := by decide +kernel
theorem dX9_wins_2 : decode cX9_wins 2 = .ok (.putfield 81, 3) := by decide +kernel
theorem dX9_wins_5 : decode cX9_wins 5 = .ok (.aload_n 0, 1) := by decide +kernel
theorem dX9_wins_6 : decode cX9_wins 6 = .ok (.invokevirtual 400, 3) := by decide +kernel
theorem dX9_wins_9 : decode cX9_wins 9 = .ok (.istore_n 1, 1) := by decide +kernel
theorem dX9_wins_10 : decode cX9_wins 10 = .ok (.iload_n 1, 1) := by decide +kernel
theorem dX9_wins_11 : decode cX9_wins 11 = .ok (.ifCond .eq 7, 3) := by decide +kernel
theorem dX9_wins_14 : decode cX9_wins 14 = .ok (.iload_n 1, 1) := by decide +kernel
theorem dX9_wins_15 : decode cX9_wins 15 = .ok (.goto 17, 3) := by decide +kernel
theorem dX9_wins_32 : decode cX9_wins 32 = .ok (.ireturn, 1) := by decide +kernel
set_option maxHeartbeats 4000000 in
set_option maxRecDepth 100000 in
theorem k_X9_wins (l : Launch) (D : va_G) (K : Nat → ClassId) (ad : Nat → Nat) : Met l yX9_wins (wM yX9_wins cX9_wins 2 (some .int)) (rmD 2) (va_Pc [.ref (ad 0)] (wPre D K ad (yG ad K) 21 yv0 ya0 yl0)) (va_Qi (fun r _ => r = (-2)) (wB D ad (yG ad K) 21) (inW ad 21)) 0 0 (inW ad 21) := by
  refine x_met (by decide) (Nat.le_of_ble_eq_true rfl) ?_
  intro p e s m below meth c ls hE hr hlo hnm hB hl
  have hE : CallFix p m c cX9_wins 2 s _ tbG "TaleCourtModel" := hE
  obtain ⟨hP, hK, hN⟩ := hB
  have hS : va_S (inW ad 21) s.heap s.heap [] := va_S.rf
  have hl : lv_has ls 2 [(0, .ref (ad 0))] := hl
  refine lv_aload_n hE.1 hE.2.1 dX9_wins_0 rfl (lv_at hl 0 rfl) ?_
  refine lv_iconst (v := 0) hE.1 hE.2.1 dX9_wins_1 (by decide) ?_
  refine x_put hE hK hN hP hS 0 (by decide) (yG_9 rfl) rfl hin9 tyX9 tyX9_ok nmX9 0 (by decide) mw_1334 rfl rfl rfl (Nat.le_of_ble_eq_true rfl) (yG_9 rfl) dX9_wins_2 (fun v1 H locs hv hP hS => ?_)
  obtain rfl := hv.trans (up_same (by decide))
  refine lv_aload_n hE.1 hE.2.1 dX9_wins_5 rfl (lv_at hl 0 rfl) ?_
  refine x_vp (nn := 0) (As := []) (rest := []) hE (k_X9_whyNoGame l D K ad ) wPre_blind (wPre_now hK hN hP) (x_recv hK hP 0 (by decide) (yG_9 rfl) rfl) rfl mw_1879 mw_1881 mw_94 mw_123 mw_1882 (by decide +kernel) ⟨by decide, by decide⟩ hl.1 rfl (by decide) ⟨Nat.zero_le _, Nat.zero_le _⟩ dX9_wins_6 (fun r hr => ?_)
  subst hr
  refine lv_istore_n (lv' := [(1, .int (-2)), (0, .ref (ad 0))]) hE.1 hE.2.1 dX9_wins_9 rfl hl (by decide) rfl (fun ls hl => ?_)
  refine lv_iload_n hE.1 hE.2.1 dX9_wins_10 rfl (lv_at hl 0 rfl) ?_
  refine lv_if_eq (tgt := 18) hE.1 hE.2.1 dX9_wins_11 (by decide) (fun h => absurd h (by decide)) (fun _ => ?_)
  refine lv_iload_n hE.1 hE.2.1 dX9_wins_14 rfl (lv_at hl 0 rfl) ?_
  refine lv_goto (tgt := 32) hE.1 hE.2.1 dX9_wins_15 (by decide) ?_
  exact x_wi hE hr hlo hP hS rfl rfl dX9_wins_32

theorem dX9_move_0 : decode cX9_move 0 = .ok (.aload_n 0, 1) := by decide +kernel
theorem dX9_move_1 : decode cX9_move 1 = .ok (.iconst 0, 1) := by decide +kernel
theorem dX9_move_2 : decode cX9_move 2 = .ok (.putfield 81, 3) := by decide +kernel
theorem dX9_move_5 : decode cX9_move 5 = .ok (.aload_n 0, 1) := by decide +kernel
theorem dX9_move_6 : decode cX9_move 6 = .ok (.invokevirtual 400, 3) := by decide +kernel
theorem dX9_move_9 : decode cX9_move 9 = .ok (.istore_n 1, 1) := by decide +kernel
theorem dX9_move_10 : decode cX9_move 10 = .ok (.iload_n 1, 1) := by decide +kernel
theorem dX9_move_11 : decode cX9_move 11 = .ok (.ifCond .eq 5, 3) := by decide +kernel
theorem dX9_move_14 : decode cX9_move 14 = .ok (.iload_n 1, 1) := by decide +kernel
theorem dX9_move_15 : decode cX9_move 15 = .ok (.ireturn, 1) := by decide +kernel
set_option maxHeartbeats 4000000 in
set_option maxRecDepth 100000 in
theorem k_X9_move (l : Launch) (D : va_G) (K : Nat → ClassId) (ad : Nat → Nat) : Met l yX9_move (wM yX9_move cX9_move 3 (some .int)) (rmD 2) (va_Pc [.ref (ad 0)] (wPre D K ad (yG ad K) 21 yv0 ya0 yl0)) (va_Qi (fun r _ => r = (-2)) (wB D ad (yG ad K) 21) (inW ad 21)) 0 0 (inW ad 21) := by
  refine x_met (by decide) (Nat.le_of_ble_eq_true rfl) ?_
  intro p e s m below meth c ls hE hr hlo hnm hB hl
  have hE : CallFix p m c cX9_move 3 s _ tbG "TaleCourtModel" := hE
  obtain ⟨hP, hK, hN⟩ := hB
  have hS : va_S (inW ad 21) s.heap s.heap [] := va_S.rf
  have hl : lv_has ls 3 [(0, .ref (ad 0))] := hl
  refine lv_aload_n hE.1 hE.2.1 dX9_move_0 rfl (lv_at hl 0 rfl) ?_
  refine lv_iconst (v := 0) hE.1 hE.2.1 dX9_move_1 (by decide) ?_
  refine x_put hE hK hN hP hS 0 (by decide) (yG_9 rfl) rfl hin9 tyX9 tyX9_ok nmX9 0 (by decide) mw_1334 rfl rfl rfl (Nat.le_of_ble_eq_true rfl) (yG_9 rfl) dX9_move_2 (fun v1 H locs hv hP hS => ?_)
  obtain rfl := hv.trans (up_same (by decide))
  refine lv_aload_n hE.1 hE.2.1 dX9_move_5 rfl (lv_at hl 0 rfl) ?_
  refine x_vp (nn := 0) (As := []) (rest := []) hE (k_X9_whyNoGame l D K ad ) wPre_blind (wPre_now hK hN hP) (x_recv hK hP 0 (by decide) (yG_9 rfl) rfl) rfl mw_1879 mw_1881 mw_94 mw_123 mw_1882 (by decide +kernel) ⟨by decide, by decide⟩ hl.1 rfl (by decide) ⟨Nat.zero_le _, Nat.zero_le _⟩ dX9_move_6 (fun r hr => ?_)
  subst hr
  refine lv_istore_n (lv' := [(1, .int (-2)), (0, .ref (ad 0))]) hE.1 hE.2.1 dX9_move_9 rfl hl (by decide) rfl (fun ls hl => ?_)
  refine lv_iload_n hE.1 hE.2.1 dX9_move_10 rfl (lv_at hl 0 rfl) ?_
  refine lv_if_eq (tgt := 16) hE.1 hE.2.1 dX9_move_11 (by decide) (fun h => absurd h (by decide)) (fun _ => ?_)
  refine lv_iload_n hE.1 hE.2.1 dX9_move_14 rfl (lv_at hl 0 rfl) ?_
  exact x_wi hE hr hlo hP hS rfl rfl dX9_move_15

theorem dX9_lasts_0 : decode cX9_lasts 0 = .ok (.aload_n 0, 1) := by decide +kernel
theorem dX9_lasts_1 : decode cX9_lasts 1 = .ok (.iconst 0, 1) := by decide +kernel
theorem dX9_lasts_2 : decode cX9_lasts 2 = .ok (.putfield 81, 3) := by decide +kernel
theorem dX9_lasts_5 : decode cX9_lasts 5 = .ok (.aload_n 0, 1) := by decide +kernel
theorem dX9_lasts_6 : decode cX9_lasts 6 = .ok (.invokevirtual 400, 3) := by decide +kernel
theorem dX9_lasts_9 : decode cX9_lasts 9 = .ok (.istore_n 1, 1) := by decide +kernel
theorem dX9_lasts_10 : decode cX9_lasts 10 = .ok (.iload_n 1, 1) := by decide +kernel
theorem dX9_lasts_11 : decode cX9_lasts 11 = .ok (.ifCond .eq 7, 3) := by decide +kernel
theorem dX9_lasts_14 : decode cX9_lasts 14 = .ok (.iload_n 1, 1) := by decide +kernel
theorem dX9_lasts_15 : decode cX9_lasts 15 = .ok (.goto 12, 3) := by decide +kernel
theorem dX9_lasts_27 : decode cX9_lasts 27 = .ok (.ireturn, 1) := by decide +kernel
set_option maxHeartbeats 4000000 in
set_option maxRecDepth 100000 in
theorem k_X9_lasts (l : Launch) (D : va_G) (K : Nat → ClassId) (ad : Nat → Nat) : Met l yX9_lasts (wM yX9_lasts cX9_lasts 2 (some .int)) (rmD 2) (va_Pc [.ref (ad 0)] (wPre D K ad (yG ad K) 21 yv0 ya0 yl0)) (va_Qi (fun r _ => r = (-2)) (wB D ad (yG ad K) 21) (inW ad 21)) 0 0 (inW ad 21) := by
  refine x_met (by decide) (Nat.le_of_ble_eq_true rfl) ?_
  intro p e s m below meth c ls hE hr hlo hnm hB hl
  have hE : CallFix p m c cX9_lasts 2 s _ tbG "TaleCourtModel" := hE
  obtain ⟨hP, hK, hN⟩ := hB
  have hS : va_S (inW ad 21) s.heap s.heap [] := va_S.rf
  have hl : lv_has ls 2 [(0, .ref (ad 0))] := hl
  refine lv_aload_n hE.1 hE.2.1 dX9_lasts_0 rfl (lv_at hl 0 rfl) ?_
  refine lv_iconst (v := 0) hE.1 hE.2.1 dX9_lasts_1 (by decide) ?_
  refine x_put hE hK hN hP hS 0 (by decide) (yG_9 rfl) rfl hin9 tyX9 tyX9_ok nmX9 0 (by decide) mw_1334 rfl rfl rfl (Nat.le_of_ble_eq_true rfl) (yG_9 rfl) dX9_lasts_2 (fun v1 H locs hv hP hS => ?_)
  obtain rfl := hv.trans (up_same (by decide))
  refine lv_aload_n hE.1 hE.2.1 dX9_lasts_5 rfl (lv_at hl 0 rfl) ?_
  refine x_vp (nn := 0) (As := []) (rest := []) hE (k_X9_whyNoGame l D K ad ) wPre_blind (wPre_now hK hN hP) (x_recv hK hP 0 (by decide) (yG_9 rfl) rfl) rfl mw_1879 mw_1881 mw_94 mw_123 mw_1882 (by decide +kernel) ⟨by decide, by decide⟩ hl.1 rfl (by decide) ⟨Nat.zero_le _, Nat.zero_le _⟩ dX9_lasts_6 (fun r hr => ?_)
  subst hr
  refine lv_istore_n (lv' := [(1, .int (-2)), (0, .ref (ad 0))]) hE.1 hE.2.1 dX9_lasts_9 rfl hl (by decide) rfl (fun ls hl => ?_)
  refine lv_iload_n hE.1 hE.2.1 dX9_lasts_10 rfl (lv_at hl 0 rfl) ?_
  refine lv_if_eq (tgt := 18) hE.1 hE.2.1 dX9_lasts_11 (by decide) (fun h => absurd h (by decide)) (fun _ => ?_)
  refine lv_iload_n hE.1 hE.2.1 dX9_lasts_14 rfl (lv_at hl 0 rfl) ?_
  refine lv_goto (tgt := 27) hE.1 hE.2.1 dX9_lasts_15 (by decide) ?_
  exact x_wi hE hr hlo hP hS rfl rfl dX9_lasts_27

theorem dX9_good_0 : decode cX9_good 0 = .ok (.aload_n 0, 1) := by decide +kernel
theorem dX9_good_1 : decode cX9_good 1 = .ok (.iconst 0, 1) := by decide +kernel
theorem dX9_good_2 : decode cX9_good 2 = .ok (.putfield 81, 3) := by decide +kernel
theorem dX9_good_5 : decode cX9_good 5 = .ok (.aload_n 0, 1) := by decide +kernel
theorem dX9_good_6 : decode cX9_good 6 = .ok (.invokevirtual 400, 3) := by decide +kernel
theorem dX9_good_9 : decode cX9_good 9 = .ok (.istore_n 1, 1) := by decide +kernel
theorem dX9_good_10 : decode cX9_good 10 = .ok (.iload_n 1, 1) := by decide +kernel
theorem dX9_good_11 : decode cX9_good 11 = .ok (.ifCond .eq 5, 3) := by decide +kernel
theorem dX9_good_14 : decode cX9_good 14 = .ok (.iload_n 1, 1) := by decide +kernel
theorem dX9_good_15 : decode cX9_good 15 = .ok (.ireturn, 1) := by decide +kernel
set_option maxHeartbeats 4000000 in
set_option maxRecDepth 100000 in
theorem k_X9_good (l : Launch) (D : va_G) (K : Nat → ClassId) (ad : Nat → Nat) : Met l yX9_good (wM yX9_good cX9_good 4 (some .int)) (rmD 2) (va_Pc [.ref (ad 0)] (wPre D K ad (yG ad K) 21 yv0 ya0 yl0)) (va_Qi (fun r _ => r = (-2)) (wB D ad (yG ad K) 21) (inW ad 21)) 0 0 (inW ad 21) := by
  refine x_met (by decide) (Nat.le_of_ble_eq_true rfl) ?_
  intro p e s m below meth c ls hE hr hlo hnm hB hl
  have hE : CallFix p m c cX9_good 4 s _ tbG "TaleCourtModel" := hE
  obtain ⟨hP, hK, hN⟩ := hB
  have hS : va_S (inW ad 21) s.heap s.heap [] := va_S.rf
  have hl : lv_has ls 4 [(0, .ref (ad 0))] := hl
  refine lv_aload_n hE.1 hE.2.1 dX9_good_0 rfl (lv_at hl 0 rfl) ?_
  refine lv_iconst (v := 0) hE.1 hE.2.1 dX9_good_1 (by decide) ?_
  refine x_put hE hK hN hP hS 0 (by decide) (yG_9 rfl) rfl hin9 tyX9 tyX9_ok nmX9 0 (by decide) mw_1334 rfl rfl rfl (Nat.le_of_ble_eq_true rfl) (yG_9 rfl) dX9_good_2 (fun v1 H locs hv hP hS => ?_)
  obtain rfl := hv.trans (up_same (by decide))
  refine lv_aload_n hE.1 hE.2.1 dX9_good_5 rfl (lv_at hl 0 rfl) ?_
  refine x_vp (nn := 0) (As := []) (rest := []) hE (k_X9_whyNoGame l D K ad ) wPre_blind (wPre_now hK hN hP) (x_recv hK hP 0 (by decide) (yG_9 rfl) rfl) rfl mw_1879 mw_1881 mw_94 mw_123 mw_1882 (by decide +kernel) ⟨by decide, by decide⟩ hl.1 rfl (by decide) ⟨Nat.zero_le _, Nat.zero_le _⟩ dX9_good_6 (fun r hr => ?_)
  subst hr
  refine lv_istore_n (lv' := [(1, .int (-2)), (0, .ref (ad 0))]) hE.1 hE.2.1 dX9_good_9 rfl hl (by decide) rfl (fun ls hl => ?_)
  refine lv_iload_n hE.1 hE.2.1 dX9_good_10 rfl (lv_at hl 0 rfl) ?_
  refine lv_if_eq (tgt := 16) hE.1 hE.2.1 dX9_good_11 (by decide) (fun h => absurd h (by decide)) (fun _ => ?_)
  refine lv_iload_n hE.1 hE.2.1 dX9_good_14 rfl (lv_at hl 0 rfl) ?_
  exact x_wi hE hr hlo hP hS rfl rfl dX9_good_15

theorem dX9_kept_0 : decode cX9_kept 0 = .ok (.aload_n 0, 1) := by decide +kernel
theorem dX9_kept_1 : decode cX9_kept 1 = .ok (.iconst 0, 1) := by decide +kernel
theorem dX9_kept_2 : decode cX9_kept 2 = .ok (.putfield 81, 3) := by decide +kernel
theorem dX9_kept_5 : decode cX9_kept 5 = .ok (.aload_n 0, 1) := by decide +kernel
theorem dX9_kept_6 : decode cX9_kept 6 = .ok (.iload_n 1, 1) := by decide +kernel
theorem dX9_kept_7 : decode cX9_kept 7 = .ok (.i2l, 1) := by decide +kernel
theorem dX9_kept_8 : decode cX9_kept 8 = .ok (.invokevirtual 253, 3) := by decide +kernel
theorem dX9_kept_11 : decode cX9_kept 11 = .ok (.ifCond .eq 16, 3) := by decide +kernel
theorem dX9_kept_27 : decode cX9_kept 27 = .ok (.bipush (-2), 2) := by decide +kernel
theorem dX9_kept_29 : decode cX9_kept 29 = .ok (.ireturn, 1) := by decide +kernel
set_option maxHeartbeats 4000000 in
set_option maxRecDepth 100000 in
theorem k_X9_kept (l : Launch) (D : va_G) (K : Nat → ClassId) (ad : Nat → Nat) (p1 : Int32) (p2 : Int32) : Met l yX9_kept (wM yX9_kept cX9_kept 6 (some .int)) (rmD 2) (va_Pc [.ref (ad 0), .int p1, .int p2] (wPre D K ad (yG ad K) 21 yv0 ya0 yl0)) (va_Qi (fun r _ => r = (-2)) (wB D ad (yG ad K) 21) (inW ad 21)) 0 0 (inW ad 21) := by
  refine x_met (by decide) (Nat.le_of_ble_eq_true rfl) ?_
  intro p e s m below meth c ls hE hr hlo hnm hB hl
  have hE : CallFix p m c cX9_kept 6 s _ tbG "TaleCourtModel" := hE
  obtain ⟨hP, hK, hN⟩ := hB
  have hS : va_S (inW ad 21) s.heap s.heap [] := va_S.rf
  have hl : lv_has ls 6 [(0, .ref (ad 0)), (1, .int p1), (2, .int p2)] := hl
  refine lv_aload_n hE.1 hE.2.1 dX9_kept_0 rfl (lv_at hl 0 rfl) ?_
  refine lv_iconst (v := 0) hE.1 hE.2.1 dX9_kept_1 (by decide) ?_
  refine x_put hE hK hN hP hS 0 (by decide) (yG_9 rfl) rfl hin9 tyX9 tyX9_ok nmX9 0 (by decide) mw_1334 rfl rfl rfl (Nat.le_of_ble_eq_true rfl) (yG_9 rfl) dX9_kept_2 (fun v1 H locs hv hP hS => ?_)
  obtain rfl := hv.trans (up_same (by decide))
  refine lv_aload_n hE.1 hE.2.1 dX9_kept_5 rfl (lv_at hl 0 rfl) ?_
  refine lv_iload_n hE.1 hE.2.1 dX9_kept_6 rfl (lv_at hl 1 rfl) ?_
  refine lv_i2l (v := (p1.toInt64)) hE.1 hE.2.1 dX9_kept_7 rfl ?_
  refine x_vp (nn := 1) (As := [.long (p1.toInt64)]) (rest := []) hE (k_X9_isMotif l D K ad (p1.toInt64)) wPre_blind (wPre_now hK hN hP) (x_recv hK hP 0 (by decide) (yG_9 rfl) rfl) rfl mw_1662 mw_1664 mw_74 mw_123 mw_1665 (by decide +kernel) ⟨by decide, by decide⟩ hl.1 rfl (by decide) ⟨Nat.zero_le _, Nat.zero_le _⟩ dX9_kept_8 (fun r hr => ?_)
  subst hr
  refine lv_if_eq (tgt := 27) hE.1 hE.2.1 dX9_kept_11 (by decide) (fun _ => ?_) (fun h => absurd (by decide) h)
  refine lv_bipush (v := (-2)) hE.1 hE.2.1 dX9_kept_27 (by decide) ?_
  exact x_wi hE hr hlo hP hS rfl rfl dX9_kept_29

theorem dX9_trade_0 : decode cX9_trade 0 = .ok (.aload_n 0, 1) := by decide +kernel
theorem dX9_trade_1 : decode cX9_trade 1 = .ok (.iconst 0, 1) := by decide +kernel
theorem dX9_trade_2 : decode cX9_trade 2 = .ok (.putfield 81, 3) := by decide +kernel
theorem dX9_trade_5 : decode cX9_trade 5 = .ok (.aload_n 0, 1) := by decide +kernel
theorem dX9_trade_6 : decode cX9_trade 6 = .ok (.invokevirtual 400, 3) := by decide +kernel
theorem dX9_trade_9 : decode cX9_trade 9 = .ok (.istore_n 1, 1) := by decide +kernel
theorem dX9_trade_10 : decode cX9_trade 10 = .ok (.iload_n 1, 1) := by decide +kernel
theorem dX9_trade_11 : decode cX9_trade 11 = .ok (.ifCond .eq 5, 3) := by decide +kernel
theorem dX9_trade_14 : decode cX9_trade 14 = .ok (.iload_n 1, 1) := by decide +kernel
theorem dX9_trade_15 : decode cX9_trade 15 = .ok (.ireturn, 1) := by decide +kernel
set_option maxHeartbeats 4000000 in
set_option maxRecDepth 100000 in
theorem k_X9_trade (l : Launch) (D : va_G) (K : Nat → ClassId) (ad : Nat → Nat) : Met l yX9_trade (wM yX9_trade cX9_trade 5 (some .int)) (rmD 2) (va_Pc [.ref (ad 0)] (wPre D K ad (yG ad K) 21 yv0 ya0 yl0)) (va_Qi (fun r _ => r = (-2)) (wB D ad (yG ad K) 21) (inW ad 21)) 0 0 (inW ad 21) := by
  refine x_met (by decide) (Nat.le_of_ble_eq_true rfl) ?_
  intro p e s m below meth c ls hE hr hlo hnm hB hl
  have hE : CallFix p m c cX9_trade 5 s _ tbG "TaleCourtModel" := hE
  obtain ⟨hP, hK, hN⟩ := hB
  have hS : va_S (inW ad 21) s.heap s.heap [] := va_S.rf
  have hl : lv_has ls 5 [(0, .ref (ad 0))] := hl
  refine lv_aload_n hE.1 hE.2.1 dX9_trade_0 rfl (lv_at hl 0 rfl) ?_
  refine lv_iconst (v := 0) hE.1 hE.2.1 dX9_trade_1 (by decide) ?_
  refine x_put hE hK hN hP hS 0 (by decide) (yG_9 rfl) rfl hin9 tyX9 tyX9_ok nmX9 0 (by decide) mw_1334 rfl rfl rfl (Nat.le_of_ble_eq_true rfl) (yG_9 rfl) dX9_trade_2 (fun v1 H locs hv hP hS => ?_)
  obtain rfl := hv.trans (up_same (by decide))
  refine lv_aload_n hE.1 hE.2.1 dX9_trade_5 rfl (lv_at hl 0 rfl) ?_
  refine x_vp (nn := 0) (As := []) (rest := []) hE (k_X9_whyNoGame l D K ad ) wPre_blind (wPre_now hK hN hP) (x_recv hK hP 0 (by decide) (yG_9 rfl) rfl) rfl mw_1879 mw_1881 mw_94 mw_123 mw_1882 (by decide +kernel) ⟨by decide, by decide⟩ hl.1 rfl (by decide) ⟨Nat.zero_le _, Nat.zero_le _⟩ dX9_trade_6 (fun r hr => ?_)
  subst hr
  refine lv_istore_n (lv' := [(1, .int (-2)), (0, .ref (ad 0))]) hE.1 hE.2.1 dX9_trade_9 rfl hl (by decide) rfl (fun ls hl => ?_)
  refine lv_iload_n hE.1 hE.2.1 dX9_trade_10 rfl (lv_at hl 0 rfl) ?_
  refine lv_if_eq (tgt := 16) hE.1 hE.2.1 dX9_trade_11 (by decide) (fun h => absurd h (by decide)) (fun _ => ?_)
  refine lv_iload_n hE.1 hE.2.1 dX9_trade_14 rfl (lv_at hl 0 rfl) ?_
  exact x_wi hE hr hlo hP hS rfl rfl dX9_trade_15

theorem dX9_keeps_0 : decode cX9_keeps 0 = .ok (.aload_n 0, 1) := by decide +kernel
theorem dX9_keeps_1 : decode cX9_keeps 1 = .ok (.iconst 0, 1) := by decide +kernel
theorem dX9_keeps_2 : decode cX9_keeps 2 = .ok (.putfield 81, 3) := by decide +kernel
theorem dX9_keeps_5 : decode cX9_keeps 5 = .ok (.aload_n 0, 1) := by decide +kernel
theorem dX9_keeps_6 : decode cX9_keeps 6 = .ok (.iload_n 1, 1) := by decide +kernel
theorem dX9_keeps_7 : decode cX9_keeps 7 = .ok (.i2l, 1) := by decide +kernel
theorem dX9_keeps_8 : decode cX9_keeps 8 = .ok (.invokevirtual 253, 3) := by decide +kernel
theorem dX9_keeps_11 : decode cX9_keeps 11 = .ok (.ifCond .eq 16, 3) := by decide +kernel
theorem dX9_keeps_27 : decode cX9_keeps 27 = .ok (.bipush (-2), 2) := by decide +kernel
theorem dX9_keeps_29 : decode cX9_keeps 29 = .ok (.ireturn, 1) := by decide +kernel
set_option maxHeartbeats 4000000 in
set_option maxRecDepth 100000 in
theorem k_X9_keeps (l : Launch) (D : va_G) (K : Nat → ClassId) (ad : Nat → Nat) (p1 : Int32) (p2 : Int32) : Met l yX9_keeps (wM yX9_keeps cX9_keeps 4 (some .int)) (rmD 2) (va_Pc [.ref (ad 0), .int p1, .int p2] (wPre D K ad (yG ad K) 21 yv0 ya0 yl0)) (va_Qi (fun r _ => r = (-2)) (wB D ad (yG ad K) 21) (inW ad 21)) 0 0 (inW ad 21) := by
  refine x_met (by decide) (Nat.le_of_ble_eq_true rfl) ?_
  intro p e s m below meth c ls hE hr hlo hnm hB hl
  have hE : CallFix p m c cX9_keeps 4 s _ tbG "TaleCourtModel" := hE
  obtain ⟨hP, hK, hN⟩ := hB
  have hS : va_S (inW ad 21) s.heap s.heap [] := va_S.rf
  have hl : lv_has ls 4 [(0, .ref (ad 0)), (1, .int p1), (2, .int p2)] := hl
  refine lv_aload_n hE.1 hE.2.1 dX9_keeps_0 rfl (lv_at hl 0 rfl) ?_
  refine lv_iconst (v := 0) hE.1 hE.2.1 dX9_keeps_1 (by decide) ?_
  refine x_put hE hK hN hP hS 0 (by decide) (yG_9 rfl) rfl hin9 tyX9 tyX9_ok nmX9 0 (by decide) mw_1334 rfl rfl rfl (Nat.le_of_ble_eq_true rfl) (yG_9 rfl) dX9_keeps_2 (fun v1 H locs hv hP hS => ?_)
  obtain rfl := hv.trans (up_same (by decide))
  refine lv_aload_n hE.1 hE.2.1 dX9_keeps_5 rfl (lv_at hl 0 rfl) ?_
  refine lv_iload_n hE.1 hE.2.1 dX9_keeps_6 rfl (lv_at hl 1 rfl) ?_
  refine lv_i2l (v := (p1.toInt64)) hE.1 hE.2.1 dX9_keeps_7 rfl ?_
  refine x_vp (nn := 1) (As := [.long (p1.toInt64)]) (rest := []) hE (k_X9_isMotif l D K ad (p1.toInt64)) wPre_blind (wPre_now hK hN hP) (x_recv hK hP 0 (by decide) (yG_9 rfl) rfl) rfl mw_1662 mw_1664 mw_74 mw_123 mw_1665 (by decide +kernel) ⟨by decide, by decide⟩ hl.1 rfl (by decide) ⟨Nat.zero_le _, Nat.zero_le _⟩ dX9_keeps_8 (fun r hr => ?_)
  subst hr
  refine lv_if_eq (tgt := 27) hE.1 hE.2.1 dX9_keeps_11 (by decide) (fun _ => ?_) (fun h => absurd (by decide) h)
  refine lv_bipush (v := (-2)) hE.1 hE.2.1 dX9_keeps_27 (by decide) ?_
  exact x_wi hE hr hlo hP hS rfl rfl dX9_keeps_29

theorem dX9_forbid_0 : decode cX9_forbid 0 = .ok (.aload_n 0, 1) := by decide +kernel
theorem dX9_forbid_1 : decode cX9_forbid 1 = .ok (.iconst 0, 1) := by decide +kernel
theorem dX9_forbid_2 : decode cX9_forbid 2 = .ok (.putfield 81, 3) := by decide +kernel
theorem dX9_forbid_5 : decode cX9_forbid 5 = .ok (.aload_n 0, 1) := by decide +kernel
theorem dX9_forbid_6 : decode cX9_forbid 6 = .ok (.iload_n 1, 1) := by decide +kernel
theorem dX9_forbid_7 : decode cX9_forbid 7 = .ok (.i2l, 1) := by decide +kernel
theorem dX9_forbid_8 : decode cX9_forbid 8 = .ok (.invokevirtual 253, 3) := by decide +kernel
theorem dX9_forbid_11 : decode cX9_forbid 11 = .ok (.ifCond .eq 13, 3) := by decide +kernel
theorem dX9_forbid_24 : decode cX9_forbid 24 = .ok (.bipush (-2), 2) := by decide +kernel
theorem dX9_forbid_26 : decode cX9_forbid 26 = .ok (.ireturn, 1) := by decide +kernel
set_option maxHeartbeats 4000000 in
set_option maxRecDepth 100000 in
theorem k_X9_forbid (l : Launch) (D : va_G) (K : Nat → ClassId) (ad : Nat → Nat) (p1 : Int32) (p2 : Int32) : Met l yX9_forbid (wM yX9_forbid cX9_forbid 4 (some .int)) (rmD 2) (va_Pc [.ref (ad 0), .int p1, .int p2] (wPre D K ad (yG ad K) 21 yv0 ya0 yl0)) (va_Qi (fun r _ => r = (-2)) (wB D ad (yG ad K) 21) (inW ad 21)) 0 0 (inW ad 21) := by
  refine x_met (by decide) (Nat.le_of_ble_eq_true rfl) ?_
  intro p e s m below meth c ls hE hr hlo hnm hB hl
  have hE : CallFix p m c cX9_forbid 4 s _ tbG "TaleCourtModel" := hE
  obtain ⟨hP, hK, hN⟩ := hB
  have hS : va_S (inW ad 21) s.heap s.heap [] := va_S.rf
  have hl : lv_has ls 4 [(0, .ref (ad 0)), (1, .int p1), (2, .int p2)] := hl
  refine lv_aload_n hE.1 hE.2.1 dX9_forbid_0 rfl (lv_at hl 0 rfl) ?_
  refine lv_iconst (v := 0) hE.1 hE.2.1 dX9_forbid_1 (by decide) ?_
  refine x_put hE hK hN hP hS 0 (by decide) (yG_9 rfl) rfl hin9 tyX9 tyX9_ok nmX9 0 (by decide) mw_1334 rfl rfl rfl (Nat.le_of_ble_eq_true rfl) (yG_9 rfl) dX9_forbid_2 (fun v1 H locs hv hP hS => ?_)
  obtain rfl := hv.trans (up_same (by decide))
  refine lv_aload_n hE.1 hE.2.1 dX9_forbid_5 rfl (lv_at hl 0 rfl) ?_
  refine lv_iload_n hE.1 hE.2.1 dX9_forbid_6 rfl (lv_at hl 1 rfl) ?_
  refine lv_i2l (v := (p1.toInt64)) hE.1 hE.2.1 dX9_forbid_7 rfl ?_
  refine x_vp (nn := 1) (As := [.long (p1.toInt64)]) (rest := []) hE (k_X9_isMotif l D K ad (p1.toInt64)) wPre_blind (wPre_now hK hN hP) (x_recv hK hP 0 (by decide) (yG_9 rfl) rfl) rfl mw_1662 mw_1664 mw_74 mw_123 mw_1665 (by decide +kernel) ⟨by decide, by decide⟩ hl.1 rfl (by decide) ⟨Nat.zero_le _, Nat.zero_le _⟩ dX9_forbid_8 (fun r hr => ?_)
  subst hr
  refine lv_if_eq (tgt := 24) hE.1 hE.2.1 dX9_forbid_11 (by decide) (fun _ => ?_) (fun h => absurd (by decide) h)
  refine lv_bipush (v := (-2)) hE.1 hE.2.1 dX9_forbid_24 (by decide) ?_
  exact x_wi hE hr hlo hP hS rfl rfl dX9_forbid_26

theorem dX9_around_0 : decode cX9_around 0 = .ok (.aload_n 0, 1) := by decide +kernel
theorem dX9_around_1 : decode cX9_around 1 = .ok (.iconst 0, 1) := by decide +kernel
theorem dX9_around_2 : decode cX9_around 2 = .ok (.putfield 81, 3) := by decide +kernel
theorem dX9_around_5 : decode cX9_around 5 = .ok (.aload_n 0, 1) := by decide +kernel
theorem dX9_around_6 : decode cX9_around 6 = .ok (.iload_n 1, 1) := by decide +kernel
theorem dX9_around_7 : decode cX9_around 7 = .ok (.i2l, 1) := by decide +kernel
theorem dX9_around_8 : decode cX9_around 8 = .ok (.invokevirtual 253, 3) := by decide +kernel
theorem dX9_around_11 : decode cX9_around 11 = .ok (.ifCond .ne 6, 3) := by decide +kernel
theorem dX9_around_14 : decode cX9_around 14 = .ok (.bipush (-2), 2) := by decide +kernel
theorem dX9_around_16 : decode cX9_around 16 = .ok (.ireturn, 1) := by decide +kernel
set_option maxHeartbeats 4000000 in
set_option maxRecDepth 100000 in
theorem k_X9_around (l : Launch) (D : va_G) (K : Nat → ClassId) (ad : Nat → Nat) (p1 : Int32) : Met l yX9_around (wM yX9_around cX9_around 2 (some .int)) (rmD 2) (va_Pc [.ref (ad 0), .int p1] (wPre D K ad (yG ad K) 21 yv0 ya0 yl0)) (va_Qi (fun r _ => r = (-2)) (wB D ad (yG ad K) 21) (inW ad 21)) 0 0 (inW ad 21) := by
  refine x_met (by decide) (Nat.le_of_ble_eq_true rfl) ?_
  intro p e s m below meth c ls hE hr hlo hnm hB hl
  have hE : CallFix p m c cX9_around 2 s _ tbG "TaleCourtModel" := hE
  obtain ⟨hP, hK, hN⟩ := hB
  have hS : va_S (inW ad 21) s.heap s.heap [] := va_S.rf
  have hl : lv_has ls 2 [(0, .ref (ad 0)), (1, .int p1)] := hl
  refine lv_aload_n hE.1 hE.2.1 dX9_around_0 rfl (lv_at hl 0 rfl) ?_
  refine lv_iconst (v := 0) hE.1 hE.2.1 dX9_around_1 (by decide) ?_
  refine x_put hE hK hN hP hS 0 (by decide) (yG_9 rfl) rfl hin9 tyX9 tyX9_ok nmX9 0 (by decide) mw_1334 rfl rfl rfl (Nat.le_of_ble_eq_true rfl) (yG_9 rfl) dX9_around_2 (fun v1 H locs hv hP hS => ?_)
  obtain rfl := hv.trans (up_same (by decide))
  refine lv_aload_n hE.1 hE.2.1 dX9_around_5 rfl (lv_at hl 0 rfl) ?_
  refine lv_iload_n hE.1 hE.2.1 dX9_around_6 rfl (lv_at hl 1 rfl) ?_
  refine lv_i2l (v := (p1.toInt64)) hE.1 hE.2.1 dX9_around_7 rfl ?_
  refine x_vp (nn := 1) (As := [.long (p1.toInt64)]) (rest := []) hE (k_X9_isMotif l D K ad (p1.toInt64)) wPre_blind (wPre_now hK hN hP) (x_recv hK hP 0 (by decide) (yG_9 rfl) rfl) rfl mw_1662 mw_1664 mw_74 mw_123 mw_1665 (by decide +kernel) ⟨by decide, by decide⟩ hl.1 rfl (by decide) ⟨Nat.zero_le _, Nat.zero_le _⟩ dX9_around_8 (fun r hr => ?_)
  subst hr
  refine lv_if_ne (tgt := 17) hE.1 hE.2.1 dX9_around_11 (by decide) (fun h => absurd (by decide) h) (fun _ => ?_)
  refine lv_bipush (v := (-2)) hE.1 hE.2.1 dX9_around_14 (by decide) ?_
  exact x_wi hE hr hlo hP hS rfl rfl dX9_around_16

theorem dX9_blunder_0 : decode cX9_blunder 0 = .ok (.aload_n 0, 1) := by decide +kernel
theorem dX9_blunder_1 : decode cX9_blunder 1 = .ok (.iconst 0, 1) := by decide +kernel
theorem dX9_blunder_2 : decode cX9_blunder 2 = .ok (.putfield 81, 3) := by decide +kernel
theorem dX9_blunder_5 : decode cX9_blunder 5 = .ok (.aload_n 0, 1) := by decide +kernel
theorem dX9_blunder_6 : decode cX9_blunder 6 = .ok (.invokevirtual 400, 3) := by decide +kernel
theorem dX9_blunder_9 : decode cX9_blunder 9 = .ok (.istore_n 1, 1) := by decide +kernel
theorem dX9_blunder_10 : decode cX9_blunder 10 = .ok (.iload_n 1, 1) := by decide +kernel
theorem dX9_blunder_11 : decode cX9_blunder 11 = .ok (.ifCond .eq 5, 3) := by decide +kernel
theorem dX9_blunder_14 : decode cX9_blunder 14 = .ok (.iload_n 1, 1) := by decide +kernel
theorem dX9_blunder_15 : decode cX9_blunder 15 = .ok (.ireturn, 1) := by decide +kernel
set_option maxHeartbeats 4000000 in
set_option maxRecDepth 100000 in
theorem k_X9_blunder (l : Launch) (D : va_G) (K : Nat → ClassId) (ad : Nat → Nat) : Met l yX9_blunder (wM yX9_blunder cX9_blunder 6 (some .int)) (rmD 2) (va_Pc [.ref (ad 0)] (wPre D K ad (yG ad K) 21 yv0 ya0 yl0)) (va_Qi (fun r _ => r = (-2)) (wB D ad (yG ad K) 21) (inW ad 21)) 0 0 (inW ad 21) := by
  refine x_met (by decide) (Nat.le_of_ble_eq_true rfl) ?_
  intro p e s m below meth c ls hE hr hlo hnm hB hl
  have hE : CallFix p m c cX9_blunder 6 s _ tbG "TaleCourtModel" := hE
  obtain ⟨hP, hK, hN⟩ := hB
  have hS : va_S (inW ad 21) s.heap s.heap [] := va_S.rf
  have hl : lv_has ls 6 [(0, .ref (ad 0))] := hl
  refine lv_aload_n hE.1 hE.2.1 dX9_blunder_0 rfl (lv_at hl 0 rfl) ?_
  refine lv_iconst (v := 0) hE.1 hE.2.1 dX9_blunder_1 (by decide) ?_
  refine x_put hE hK hN hP hS 0 (by decide) (yG_9 rfl) rfl hin9 tyX9 tyX9_ok nmX9 0 (by decide) mw_1334 rfl rfl rfl (Nat.le_of_ble_eq_true rfl) (yG_9 rfl) dX9_blunder_2 (fun v1 H locs hv hP hS => ?_)
  obtain rfl := hv.trans (up_same (by decide))
  refine lv_aload_n hE.1 hE.2.1 dX9_blunder_5 rfl (lv_at hl 0 rfl) ?_
  refine x_vp (nn := 0) (As := []) (rest := []) hE (k_X9_whyNoGame l D K ad ) wPre_blind (wPre_now hK hN hP) (x_recv hK hP 0 (by decide) (yG_9 rfl) rfl) rfl mw_1879 mw_1881 mw_94 mw_123 mw_1882 (by decide +kernel) ⟨by decide, by decide⟩ hl.1 rfl (by decide) ⟨Nat.zero_le _, Nat.zero_le _⟩ dX9_blunder_6 (fun r hr => ?_)
  subst hr
  refine lv_istore_n (lv' := [(1, .int (-2)), (0, .ref (ad 0))]) hE.1 hE.2.1 dX9_blunder_9 rfl hl (by decide) rfl (fun ls hl => ?_)
  refine lv_iload_n hE.1 hE.2.1 dX9_blunder_10 rfl (lv_at hl 0 rfl) ?_
  refine lv_if_eq (tgt := 16) hE.1 hE.2.1 dX9_blunder_11 (by decide) (fun h => absurd h (by decide)) (fun _ => ?_)
  refine lv_iload_n hE.1 hE.2.1 dX9_blunder_14 rfl (lv_at hl 0 rfl) ?_
  exact x_wi hE hr hlo hP hS rfl rfl dX9_blunder_15

theorem dX9_lack_0 : decode cX9_lack 0 = .ok (.aload_n 0, 1) := by decide +kernel
theorem dX9_lack_1 : decode cX9_lack 1 = .ok (.iconst 0, 1) := by decide +kernel
theorem dX9_lack_2 : decode cX9_lack 2 = .ok (.putfield 81, 3) := by decide +kernel
theorem dX9_lack_5 : decode cX9_lack 5 = .ok (.aload_n 0, 1) := by decide +kernel
theorem dX9_lack_6 : decode cX9_lack 6 = .ok (.iload_n 1, 1) := by decide +kernel
theorem dX9_lack_7 : decode cX9_lack 7 = .ok (.i2l, 1) := by decide +kernel
theorem dX9_lack_8 : decode cX9_lack 8 = .ok (.invokevirtual 253, 3) := by decide +kernel
theorem dX9_lack_11 : decode cX9_lack 11 = .ok (.ifCond .eq 16, 3) := by decide +kernel
theorem dX9_lack_27 : decode cX9_lack 27 = .ok (.bipush (-2), 2) := by decide +kernel
theorem dX9_lack_29 : decode cX9_lack 29 = .ok (.ireturn, 1) := by decide +kernel
set_option maxHeartbeats 4000000 in
set_option maxRecDepth 100000 in
theorem k_X9_lack (l : Launch) (D : va_G) (K : Nat → ClassId) (ad : Nat → Nat) (p1 : Int32) : Met l yX9_lack (wM yX9_lack cX9_lack 2 (some .int)) (rmD 2) (va_Pc [.ref (ad 0), .int p1] (wPre D K ad (yG ad K) 21 yv0 ya0 yl0)) (va_Qi (fun r _ => r = (-2)) (wB D ad (yG ad K) 21) (inW ad 21)) 0 0 (inW ad 21) := by
  refine x_met (by decide) (Nat.le_of_ble_eq_true rfl) ?_
  intro p e s m below meth c ls hE hr hlo hnm hB hl
  have hE : CallFix p m c cX9_lack 2 s _ tbG "TaleCourtModel" := hE
  obtain ⟨hP, hK, hN⟩ := hB
  have hS : va_S (inW ad 21) s.heap s.heap [] := va_S.rf
  have hl : lv_has ls 2 [(0, .ref (ad 0)), (1, .int p1)] := hl
  refine lv_aload_n hE.1 hE.2.1 dX9_lack_0 rfl (lv_at hl 0 rfl) ?_
  refine lv_iconst (v := 0) hE.1 hE.2.1 dX9_lack_1 (by decide) ?_
  refine x_put hE hK hN hP hS 0 (by decide) (yG_9 rfl) rfl hin9 tyX9 tyX9_ok nmX9 0 (by decide) mw_1334 rfl rfl rfl (Nat.le_of_ble_eq_true rfl) (yG_9 rfl) dX9_lack_2 (fun v1 H locs hv hP hS => ?_)
  obtain rfl := hv.trans (up_same (by decide))
  refine lv_aload_n hE.1 hE.2.1 dX9_lack_5 rfl (lv_at hl 0 rfl) ?_
  refine lv_iload_n hE.1 hE.2.1 dX9_lack_6 rfl (lv_at hl 1 rfl) ?_
  refine lv_i2l (v := (p1.toInt64)) hE.1 hE.2.1 dX9_lack_7 rfl ?_
  refine x_vp (nn := 1) (As := [.long (p1.toInt64)]) (rest := []) hE (k_X9_isMotif l D K ad (p1.toInt64)) wPre_blind (wPre_now hK hN hP) (x_recv hK hP 0 (by decide) (yG_9 rfl) rfl) rfl mw_1662 mw_1664 mw_74 mw_123 mw_1665 (by decide +kernel) ⟨by decide, by decide⟩ hl.1 rfl (by decide) ⟨Nat.zero_le _, Nat.zero_le _⟩ dX9_lack_8 (fun r hr => ?_)
  subst hr
  refine lv_if_eq (tgt := 27) hE.1 hE.2.1 dX9_lack_11 (by decide) (fun _ => ?_) (fun h => absurd (by decide) h)
  refine lv_bipush (v := (-2)) hE.1 hE.2.1 dX9_lack_27 (by decide) ?_
  exact x_wi hE hr hlo hP hS rfl rfl dX9_lack_29

theorem dX9_crux_0 : decode cX9_crux 0 = .ok (.aload_n 0, 1) := by decide +kernel
theorem dX9_crux_1 : decode cX9_crux 1 = .ok (.iconst 0, 1) := by decide +kernel
theorem dX9_crux_2 : decode cX9_crux 2 = .ok (.putfield 81, 3) := by decide +kernel
theorem dX9_crux_5 : decode cX9_crux 5 = .ok (.aload_n 0, 1) := by decide +kernel
theorem dX9_crux_6 : decode cX9_crux 6 = .ok (.invokevirtual 301, 3) := by decide +kernel
theorem dX9_crux_9 : decode cX9_crux 9 = .ok (.ifCond .ne 6, 3) := by decide +kernel
theorem dX9_crux_12 : decode cX9_crux 12 = .ok (.bipush (-2), 2) := by decide +kernel
theorem dX9_crux_14 : decode cX9_crux 14 = .ok (.ireturn, 1) := by decide +kernel
set_option maxHeartbeats 4000000 in
set_option maxRecDepth 100000 in
theorem k_X9_crux (l : Launch) (D : va_G) (K : Nat → ClassId) (ad : Nat → Nat) : Met l yX9_crux (wM yX9_crux cX9_crux 5 (some .int)) (rmD 1) (va_Pc [.ref (ad 0)] (wPre D K ad (yG ad K) 21 yv0 ya0 yl0)) (va_Qi (fun r _ => r = (-2)) (wB D ad (yG ad K) 21) (inW ad 21)) 0 0 (inW ad 21) := by
  refine x_met (by decide) (Nat.le_of_ble_eq_true rfl) ?_
  intro p e s m below meth c ls hE hr hlo hnm hB hl
  have hE : CallFix p m c cX9_crux 5 s _ tbG "TaleCourtModel" := hE
  obtain ⟨hP, hK, hN⟩ := hB
  have hS : va_S (inW ad 21) s.heap s.heap [] := va_S.rf
  have hl : lv_has ls 5 [(0, .ref (ad 0))] := hl
  refine lv_aload_n hE.1 hE.2.1 dX9_crux_0 rfl (lv_at hl 0 rfl) ?_
  refine lv_iconst (v := 0) hE.1 hE.2.1 dX9_crux_1 (by decide) ?_
  refine x_put hE hK hN hP hS 0 (by decide) (yG_9 rfl) rfl hin9 tyX9 tyX9_ok nmX9 0 (by decide) mw_1334 rfl rfl rfl (Nat.le_of_ble_eq_true rfl) (yG_9 rfl) dX9_crux_2 (fun v1 H locs hv hP hS => ?_)
  obtain rfl := hv.trans (up_same (by decide))
  refine lv_aload_n hE.1 hE.2.1 dX9_crux_5 rfl (lv_at hl 0 rfl) ?_
  refine x_vp (nn := 0) (As := []) (rest := []) hE (k_X9_isCourt l D K ad ) wPre_blind (wPre_now hK hN hP) (x_recv hK hP 0 (by decide) (yG_9 rfl) rfl) rfl mw_1718 mw_1720 mw_79 mw_123 mw_1721 (by decide +kernel) ⟨by decide, by decide⟩ hl.1 rfl (by decide) ⟨Nat.zero_le _, Nat.zero_le _⟩ dX9_crux_6 (fun r hr => ?_)
  subst hr
  refine lv_if_ne (tgt := 15) hE.1 hE.2.1 dX9_crux_9 (by decide) (fun h => absurd (by decide) h) (fun _ => ?_)
  refine lv_bipush (v := (-2)) hE.1 hE.2.1 dX9_crux_12 (by decide) ?_
  exact x_wi hE hr hlo hP hS rfl rfl dX9_crux_14

theorem dX9_cost_0 : decode cX9_cost 0 = .ok (.aload_n 0, 1) := by decide +kernel
theorem dX9_cost_1 : decode cX9_cost 1 = .ok (.iconst 0, 1) := by decide +kernel
theorem dX9_cost_2 : decode cX9_cost 2 = .ok (.putfield 81, 3) := by decide +kernel
theorem dX9_cost_5 : decode cX9_cost 5 = .ok (.aload_n 0, 1) := by decide +kernel
theorem dX9_cost_6 : decode cX9_cost 6 = .ok (.iload_n 1, 1) := by decide +kernel
theorem dX9_cost_7 : decode cX9_cost 7 = .ok (.i2l, 1) := by decide +kernel
theorem dX9_cost_8 : decode cX9_cost 8 = .ok (.invokevirtual 253, 3) := by decide +kernel
theorem dX9_cost_11 : decode cX9_cost 11 = .ok (.ifCond .ne 6, 3) := by decide +kernel
theorem dX9_cost_14 : decode cX9_cost 14 = .ok (.bipush (-2), 2) := by decide +kernel
theorem dX9_cost_16 : decode cX9_cost 16 = .ok (.ireturn, 1) := by decide +kernel
set_option maxHeartbeats 4000000 in
set_option maxRecDepth 100000 in
theorem k_X9_cost (l : Launch) (D : va_G) (K : Nat → ClassId) (ad : Nat → Nat) (p1 : Int32) : Met l yX9_cost (wM yX9_cost cX9_cost 3 (some .int)) (rmD 2) (va_Pc [.ref (ad 0), .int p1] (wPre D K ad (yG ad K) 21 yv0 ya0 yl0)) (va_Qi (fun r _ => r = (-2)) (wB D ad (yG ad K) 21) (inW ad 21)) 0 0 (inW ad 21) := by
  refine x_met (by decide) (Nat.le_of_ble_eq_true rfl) ?_
  intro p e s m below meth c ls hE hr hlo hnm hB hl
  have hE : CallFix p m c cX9_cost 3 s _ tbG "TaleCourtModel" := hE
  obtain ⟨hP, hK, hN⟩ := hB
  have hS : va_S (inW ad 21) s.heap s.heap [] := va_S.rf
  have hl : lv_has ls 3 [(0, .ref (ad 0)), (1, .int p1)] := hl
  refine lv_aload_n hE.1 hE.2.1 dX9_cost_0 rfl (lv_at hl 0 rfl) ?_
  refine lv_iconst (v := 0) hE.1 hE.2.1 dX9_cost_1 (by decide) ?_
  refine x_put hE hK hN hP hS 0 (by decide) (yG_9 rfl) rfl hin9 tyX9 tyX9_ok nmX9 0 (by decide) mw_1334 rfl rfl rfl (Nat.le_of_ble_eq_true rfl) (yG_9 rfl) dX9_cost_2 (fun v1 H locs hv hP hS => ?_)
  obtain rfl := hv.trans (up_same (by decide))
  refine lv_aload_n hE.1 hE.2.1 dX9_cost_5 rfl (lv_at hl 0 rfl) ?_
  refine lv_iload_n hE.1 hE.2.1 dX9_cost_6 rfl (lv_at hl 1 rfl) ?_
  refine lv_i2l (v := (p1.toInt64)) hE.1 hE.2.1 dX9_cost_7 rfl ?_
  refine x_vp (nn := 1) (As := [.long (p1.toInt64)]) (rest := []) hE (k_X9_isMotif l D K ad (p1.toInt64)) wPre_blind (wPre_now hK hN hP) (x_recv hK hP 0 (by decide) (yG_9 rfl) rfl) rfl mw_1662 mw_1664 mw_74 mw_123 mw_1665 (by decide +kernel) ⟨by decide, by decide⟩ hl.1 rfl (by decide) ⟨Nat.zero_le _, Nat.zero_le _⟩ dX9_cost_8 (fun r hr => ?_)
  subst hr
  refine lv_if_ne (tgt := 17) hE.1 hE.2.1 dX9_cost_11 (by decide) (fun h => absurd (by decide) h) (fun _ => ?_)
  refine lv_bipush (v := (-2)) hE.1 hE.2.1 dX9_cost_14 (by decide) ?_
  exact x_wi hE hr hlo hP hS rfl rfl dX9_cost_16

theorem dX9_judge_0 : decode cX9_judge 0 = .ok (.aload_n 0, 1) := by decide +kernel
theorem dX9_judge_1 : decode cX9_judge 1 = .ok (.iconst 0, 1) := by decide +kernel
theorem dX9_judge_2 : decode cX9_judge 2 = .ok (.putfield 81, 3) := by decide +kernel
theorem dX9_judge_5 : decode cX9_judge 5 = .ok (.aload_n 0, 1) := by decide +kernel
theorem dX9_judge_6 : decode cX9_judge 6 = .ok (.iload_n 1, 1) := by decide +kernel
theorem dX9_judge_7 : decode cX9_judge 7 = .ok (.invokevirtual 418, 3) := by decide +kernel
theorem dX9_judge_10 : decode cX9_judge 10 = .ok (.istore_n 2, 1) := by decide +kernel
theorem dX9_judge_11 : decode cX9_judge 11 = .ok (.iload_n 2, 1) := by decide +kernel
theorem dX9_judge_12 : decode cX9_judge 12 = .ok (.ifCond .eq 7, 3) := by decide +kernel
theorem dX9_judge_15 : decode cX9_judge 15 = .ok (.iload_n 2, 1) := by decide +kernel
theorem dX9_judge_16 : decode cX9_judge 16 = .ok (.goto 8, 3) := by decide +kernel
theorem dX9_judge_24 : decode cX9_judge 24 = .ok (.ireturn, 1) := by decide +kernel
set_option maxHeartbeats 4000000 in
set_option maxRecDepth 100000 in
theorem k_X9_judge (l : Launch) (D : va_G) (K : Nat → ClassId) (ad : Nat → Nat) (p1 : Int32) : Met l yX9_judge (wM yX9_judge cX9_judge 3 (some .int)) (rmD 3) (va_Pc [.ref (ad 0), .int p1] (wPre D K ad (yG ad K) 21 yv0 ya0 yl0)) (va_Qi (fun r _ => r = (-2)) (wB D ad (yG ad K) 21) (inW ad 21)) 0 0 (inW ad 21) := by
  refine x_met (by decide) (Nat.le_of_ble_eq_true rfl) ?_
  intro p e s m below meth c ls hE hr hlo hnm hB hl
  have hE : CallFix p m c cX9_judge 3 s _ tbG "TaleCourtModel" := hE
  obtain ⟨hP, hK, hN⟩ := hB
  have hS : va_S (inW ad 21) s.heap s.heap [] := va_S.rf
  have hl : lv_has ls 3 [(0, .ref (ad 0)), (1, .int p1)] := hl
  refine lv_aload_n hE.1 hE.2.1 dX9_judge_0 rfl (lv_at hl 0 rfl) ?_
  refine lv_iconst (v := 0) hE.1 hE.2.1 dX9_judge_1 (by decide) ?_
  refine x_put hE hK hN hP hS 0 (by decide) (yG_9 rfl) rfl hin9 tyX9 tyX9_ok nmX9 0 (by decide) mw_1334 rfl rfl rfl (Nat.le_of_ble_eq_true rfl) (yG_9 rfl) dX9_judge_2 (fun v1 H locs hv hP hS => ?_)
  obtain rfl := hv.trans (up_same (by decide))
  refine lv_aload_n hE.1 hE.2.1 dX9_judge_5 rfl (lv_at hl 0 rfl) ?_
  refine lv_iload_n hE.1 hE.2.1 dX9_judge_6 rfl (lv_at hl 1 rfl) ?_
  refine x_vp (nn := 1) (As := [.int p1]) (rest := []) hE (k_X9_whyNoRow l D K ad p1) wPre_blind (wPre_now hK hN hP) (x_recv hK hP 0 (by decide) (yG_9 rfl) rfl) rfl mw_1974 mw_1976 mw_104 mw_123 mw_1977 (by decide +kernel) ⟨by decide, by decide⟩ hl.1 rfl (by decide) ⟨Nat.zero_le _, Nat.zero_le _⟩ dX9_judge_7 (fun r hr => ?_)
  subst hr
  refine lv_istore_n (lv' := [(2, .int (-2)), (0, .ref (ad 0)), (1, .int p1)]) hE.1 hE.2.1 dX9_judge_10 rfl hl (by decide) rfl (fun ls hl => ?_)
  refine lv_iload_n hE.1 hE.2.1 dX9_judge_11 rfl (lv_at hl 0 rfl) ?_
  refine lv_if_eq (tgt := 19) hE.1 hE.2.1 dX9_judge_12 (by decide) (fun h => absurd h (by decide)) (fun _ => ?_)
  refine lv_iload_n hE.1 hE.2.1 dX9_judge_15 rfl (lv_at hl 0 rfl) ?_
  refine lv_goto (tgt := 24) hE.1 hE.2.1 dX9_judge_16 (by decide) ?_
  exact x_wi hE hr hlo hP hS rfl rfl dX9_judge_24

theorem dX9_verdict_0 : decode cX9_verdict 0 = .ok (.aload_n 0, 1) := by decide +kernel
theorem dX9_verdict_1 : decode cX9_verdict 1 = .ok (.iconst 0, 1) := by decide +kernel
theorem dX9_verdict_2 : decode cX9_verdict 2 = .ok (.putfield 81, 3) := by decide +kernel
theorem dX9_verdict_5 : decode cX9_verdict 5 = .ok (.aload_n 0, 1) := by decide +kernel
theorem dX9_verdict_6 : decode cX9_verdict 6 = .ok (.iload_n 1, 1) := by decide +kernel
theorem dX9_verdict_7 : decode cX9_verdict 7 = .ok (.invokevirtual 418, 3) := by decide +kernel
theorem dX9_verdict_10 : decode cX9_verdict 10 = .ok (.istore_n 2, 1) := by decide +kernel
theorem dX9_verdict_11 : decode cX9_verdict 11 = .ok (.iload_n 2, 1) := by decide +kernel
theorem dX9_verdict_12 : decode cX9_verdict 12 = .ok (.ifCond .eq 5, 3) := by decide +kernel
theorem dX9_verdict_15 : decode cX9_verdict 15 = .ok (.iload_n 2, 1) := by decide +kernel
theorem dX9_verdict_16 : decode cX9_verdict 16 = .ok (.ireturn, 1) := by decide +kernel
set_option maxHeartbeats 4000000 in
set_option maxRecDepth 100000 in
theorem k_X9_verdict (l : Launch) (D : va_G) (K : Nat → ClassId) (ad : Nat → Nat) (p1 : Int32) : Met l yX9_verdict (wM yX9_verdict cX9_verdict 3 (some .int)) (rmD 3) (va_Pc [.ref (ad 0), .int p1] (wPre D K ad (yG ad K) 21 yv0 ya0 yl0)) (va_Qi (fun r _ => r = (-2)) (wB D ad (yG ad K) 21) (inW ad 21)) 0 0 (inW ad 21) := by
  refine x_met (by decide) (Nat.le_of_ble_eq_true rfl) ?_
  intro p e s m below meth c ls hE hr hlo hnm hB hl
  have hE : CallFix p m c cX9_verdict 3 s _ tbG "TaleCourtModel" := hE
  obtain ⟨hP, hK, hN⟩ := hB
  have hS : va_S (inW ad 21) s.heap s.heap [] := va_S.rf
  have hl : lv_has ls 3 [(0, .ref (ad 0)), (1, .int p1)] := hl
  refine lv_aload_n hE.1 hE.2.1 dX9_verdict_0 rfl (lv_at hl 0 rfl) ?_
  refine lv_iconst (v := 0) hE.1 hE.2.1 dX9_verdict_1 (by decide) ?_
  refine x_put hE hK hN hP hS 0 (by decide) (yG_9 rfl) rfl hin9 tyX9 tyX9_ok nmX9 0 (by decide) mw_1334 rfl rfl rfl (Nat.le_of_ble_eq_true rfl) (yG_9 rfl) dX9_verdict_2 (fun v1 H locs hv hP hS => ?_)
  obtain rfl := hv.trans (up_same (by decide))
  refine lv_aload_n hE.1 hE.2.1 dX9_verdict_5 rfl (lv_at hl 0 rfl) ?_
  refine lv_iload_n hE.1 hE.2.1 dX9_verdict_6 rfl (lv_at hl 1 rfl) ?_
  refine x_vp (nn := 1) (As := [.int p1]) (rest := []) hE (k_X9_whyNoRow l D K ad p1) wPre_blind (wPre_now hK hN hP) (x_recv hK hP 0 (by decide) (yG_9 rfl) rfl) rfl mw_1974 mw_1976 mw_104 mw_123 mw_1977 (by decide +kernel) ⟨by decide, by decide⟩ hl.1 rfl (by decide) ⟨Nat.zero_le _, Nat.zero_le _⟩ dX9_verdict_7 (fun r hr => ?_)
  subst hr
  refine lv_istore_n (lv' := [(2, .int (-2)), (0, .ref (ad 0)), (1, .int p1)]) hE.1 hE.2.1 dX9_verdict_10 rfl hl (by decide) rfl (fun ls hl => ?_)
  refine lv_iload_n hE.1 hE.2.1 dX9_verdict_11 rfl (lv_at hl 0 rfl) ?_
  refine lv_if_eq (tgt := 17) hE.1 hE.2.1 dX9_verdict_12 (by decide) (fun h => absurd h (by decide)) (fun _ => ?_)
  refine lv_iload_n hE.1 hE.2.1 dX9_verdict_15 rfl (lv_at hl 0 rfl) ?_
  exact x_wi hE hr hlo hP hS rfl rfl dX9_verdict_16

theorem dX9_lies_0 : decode cX9_lies 0 = .ok (.aload_n 0, 1) := by decide +kernel
theorem dX9_lies_1 : decode cX9_lies 1 = .ok (.iconst 0, 1) := by decide +kernel
theorem dX9_lies_2 : decode cX9_lies 2 = .ok (.putfield 81, 3) := by decide +kernel
theorem dX9_lies_5 : decode cX9_lies 5 = .ok (.aload_n 0, 1) := by decide +kernel
theorem dX9_lies_6 : decode cX9_lies 6 = .ok (.iload_n 1, 1) := by decide +kernel
theorem dX9_lies_7 : decode cX9_lies 7 = .ok (.iconst 2, 1) := by decide +kernel
theorem dX9_lies_8 : decode cX9_lies 8 = .ok (.invokevirtual 427, 3) := by decide +kernel
theorem dX9_lies_11 : decode cX9_lies 11 = .ok (.istore_n 2, 1) := by decide +kernel
theorem dX9_lies_12 : decode cX9_lies 12 = .ok (.iload_n 2, 1) := by decide +kernel
theorem dX9_lies_13 : decode cX9_lies 13 = .ok (.ifCond .eq 5, 3) := by decide +kernel
theorem dX9_lies_16 : decode cX9_lies 16 = .ok (.iload_n 2, 1) := by decide +kernel
theorem dX9_lies_17 : decode cX9_lies 17 = .ok (.ireturn, 1) := by decide +kernel
set_option maxHeartbeats 4000000 in
set_option maxRecDepth 100000 in
theorem k_X9_lies (l : Launch) (D : va_G) (K : Nat → ClassId) (ad : Nat → Nat) (p1 : Int32) : Met l yX9_lies (wM yX9_lies cX9_lies 3 (some .int)) (rmD 4) (va_Pc [.ref (ad 0), .int p1] (wPre D K ad (yG ad K) 21 yv0 ya0 yl0)) (va_Qi (fun r _ => r = (-2)) (wB D ad (yG ad K) 21) (inW ad 21)) 0 0 (inW ad 21) := by
  refine x_met (by decide) (Nat.le_of_ble_eq_true rfl) ?_
  intro p e s m below meth c ls hE hr hlo hnm hB hl
  have hE : CallFix p m c cX9_lies 3 s _ tbG "TaleCourtModel" := hE
  obtain ⟨hP, hK, hN⟩ := hB
  have hS : va_S (inW ad 21) s.heap s.heap [] := va_S.rf
  have hl : lv_has ls 3 [(0, .ref (ad 0)), (1, .int p1)] := hl
  refine lv_aload_n hE.1 hE.2.1 dX9_lies_0 rfl (lv_at hl 0 rfl) ?_
  refine lv_iconst (v := 0) hE.1 hE.2.1 dX9_lies_1 (by decide) ?_
  refine x_put hE hK hN hP hS 0 (by decide) (yG_9 rfl) rfl hin9 tyX9 tyX9_ok nmX9 0 (by decide) mw_1334 rfl rfl rfl (Nat.le_of_ble_eq_true rfl) (yG_9 rfl) dX9_lies_2 (fun v1 H locs hv hP hS => ?_)
  obtain rfl := hv.trans (up_same (by decide))
  refine lv_aload_n hE.1 hE.2.1 dX9_lies_5 rfl (lv_at hl 0 rfl) ?_
  refine lv_iload_n hE.1 hE.2.1 dX9_lies_6 rfl (lv_at hl 1 rfl) ?_
  refine lv_iconst (v := 2) hE.1 hE.2.1 dX9_lies_7 (by decide) ?_
  refine x_vp (nn := 2) (As := [.int p1, .int 2]) (rest := []) hE (k_X9_whyNotTold l D K ad p1 2) wPre_blind (wPre_now hK hN hP) (x_recv hK hP 0 (by decide) (yG_9 rfl) rfl) rfl mw_1990 mw_1992 mw_106 mw_123 mw_1993 (by decide +kernel) ⟨by decide, by decide⟩ hl.1 rfl (by decide) ⟨Nat.zero_le _, Nat.zero_le _⟩ dX9_lies_8 (fun r hr => ?_)
  subst hr
  refine lv_istore_n (lv' := [(2, .int (-2)), (0, .ref (ad 0)), (1, .int p1)]) hE.1 hE.2.1 dX9_lies_11 rfl hl (by decide) rfl (fun ls hl => ?_)
  refine lv_iload_n hE.1 hE.2.1 dX9_lies_12 rfl (lv_at hl 0 rfl) ?_
  refine lv_if_eq (tgt := 18) hE.1 hE.2.1 dX9_lies_13 (by decide) (fun h => absurd h (by decide)) (fun _ => ?_)
  refine lv_iload_n hE.1 hE.2.1 dX9_lies_16 rfl (lv_at hl 0 rfl) ?_
  exact x_wi hE hr hlo hP hS rfl rfl dX9_lies_17

theorem dX9_orders_0 : decode cX9_orders 0 = .ok (.aload_n 0, 1) := by decide +kernel
theorem dX9_orders_1 : decode cX9_orders 1 = .ok (.iconst 0, 1) := by decide +kernel
theorem dX9_orders_2 : decode cX9_orders 2 = .ok (.putfield 81, 3) := by decide +kernel
theorem dX9_orders_5 : decode cX9_orders 5 = .ok (.aload_n 0, 1) := by decide +kernel
theorem dX9_orders_6 : decode cX9_orders 6 = .ok (.iload_n 1, 1) := by decide +kernel
theorem dX9_orders_7 : decode cX9_orders 7 = .ok (.iconst 2, 1) := by decide +kernel
theorem dX9_orders_8 : decode cX9_orders 8 = .ok (.invokevirtual 427, 3) := by decide +kernel
theorem dX9_orders_11 : decode cX9_orders 11 = .ok (.istore_n 2, 1) := by decide +kernel
theorem dX9_orders_12 : decode cX9_orders 12 = .ok (.iload_n 2, 1) := by decide +kernel
theorem dX9_orders_13 : decode cX9_orders 13 = .ok (.ifCond .eq 5, 3) := by decide +kernel
theorem dX9_orders_16 : decode cX9_orders 16 = .ok (.iload_n 2, 1) := by decide +kernel
theorem dX9_orders_17 : decode cX9_orders 17 = .ok (.ireturn, 1) := by decide +kernel
set_option maxHeartbeats 4000000 in
set_option maxRecDepth 100000 in
theorem k_X9_orders (l : Launch) (D : va_G) (K : Nat → ClassId) (ad : Nat → Nat) (p1 : Int32) : Met l yX9_orders (wM yX9_orders cX9_orders 3 (some .int)) (rmD 4) (va_Pc [.ref (ad 0), .int p1] (wPre D K ad (yG ad K) 21 yv0 ya0 yl0)) (va_Qi (fun r _ => r = (-2)) (wB D ad (yG ad K) 21) (inW ad 21)) 0 0 (inW ad 21) := by
  refine x_met (by decide) (Nat.le_of_ble_eq_true rfl) ?_
  intro p e s m below meth c ls hE hr hlo hnm hB hl
  have hE : CallFix p m c cX9_orders 3 s _ tbG "TaleCourtModel" := hE
  obtain ⟨hP, hK, hN⟩ := hB
  have hS : va_S (inW ad 21) s.heap s.heap [] := va_S.rf
  have hl : lv_has ls 3 [(0, .ref (ad 0)), (1, .int p1)] := hl
  refine lv_aload_n hE.1 hE.2.1 dX9_orders_0 rfl (lv_at hl 0 rfl) ?_
  refine lv_iconst (v := 0) hE.1 hE.2.1 dX9_orders_1 (by decide) ?_
  refine x_put hE hK hN hP hS 0 (by decide) (yG_9 rfl) rfl hin9 tyX9 tyX9_ok nmX9 0 (by decide) mw_1334 rfl rfl rfl (Nat.le_of_ble_eq_true rfl) (yG_9 rfl) dX9_orders_2 (fun v1 H locs hv hP hS => ?_)
  obtain rfl := hv.trans (up_same (by decide))
  refine lv_aload_n hE.1 hE.2.1 dX9_orders_5 rfl (lv_at hl 0 rfl) ?_
  refine lv_iload_n hE.1 hE.2.1 dX9_orders_6 rfl (lv_at hl 1 rfl) ?_
  refine lv_iconst (v := 2) hE.1 hE.2.1 dX9_orders_7 (by decide) ?_
  refine x_vp (nn := 2) (As := [.int p1, .int 2]) (rest := []) hE (k_X9_whyNotTold l D K ad p1 2) wPre_blind (wPre_now hK hN hP) (x_recv hK hP 0 (by decide) (yG_9 rfl) rfl) rfl mw_1990 mw_1992 mw_106 mw_123 mw_1993 (by decide +kernel) ⟨by decide, by decide⟩ hl.1 rfl (by decide) ⟨Nat.zero_le _, Nat.zero_le _⟩ dX9_orders_8 (fun r hr => ?_)
  subst hr
  refine lv_istore_n (lv' := [(2, .int (-2)), (0, .ref (ad 0)), (1, .int p1)]) hE.1 hE.2.1 dX9_orders_11 rfl hl (by decide) rfl (fun ls hl => ?_)
  refine lv_iload_n hE.1 hE.2.1 dX9_orders_12 rfl (lv_at hl 0 rfl) ?_
  refine lv_if_eq (tgt := 18) hE.1 hE.2.1 dX9_orders_13 (by decide) (fun h => absurd h (by decide)) (fun _ => ?_)
  refine lv_iload_n hE.1 hE.2.1 dX9_orders_16 rfl (lv_at hl 0 rfl) ?_
  exact x_wi hE hr hlo hP hS rfl rfl dX9_orders_17

theorem dX9_fits_0 : decode cX9_fits 0 = .ok (.aload_n 0, 1) := by decide +kernel
theorem dX9_fits_1 : decode cX9_fits 1 = .ok (.iconst 0, 1) := by decide +kernel
theorem dX9_fits_2 : decode cX9_fits 2 = .ok (.putfield 81, 3) := by decide +kernel
theorem dX9_fits_5 : decode cX9_fits 5 = .ok (.aload_n 0, 1) := by decide +kernel
theorem dX9_fits_6 : decode cX9_fits 6 = .ok (.iload_n 1, 1) := by decide +kernel
theorem dX9_fits_7 : decode cX9_fits 7 = .ok (.iconst 2, 1) := by decide +kernel
theorem dX9_fits_8 : decode cX9_fits 8 = .ok (.invokevirtual 427, 3) := by decide +kernel
theorem dX9_fits_11 : decode cX9_fits 11 = .ok (.istore_n 2, 1) := by decide +kernel
theorem dX9_fits_12 : decode cX9_fits 12 = .ok (.iload_n 2, 1) := by decide +kernel
theorem dX9_fits_13 : decode cX9_fits 13 = .ok (.ifCond .eq 5, 3) := by decide +kernel
theorem dX9_fits_16 : decode cX9_fits 16 = .ok (.iload_n 2, 1) := by decide +kernel
theorem dX9_fits_17 : decode cX9_fits 17 = .ok (.ireturn, 1) := by decide +kernel
set_option maxHeartbeats 4000000 in
set_option maxRecDepth 100000 in
theorem k_X9_fits (l : Launch) (D : va_G) (K : Nat → ClassId) (ad : Nat → Nat) (p1 : Int32) : Met l yX9_fits (wM yX9_fits cX9_fits 3 (some .int)) (rmD 4) (va_Pc [.ref (ad 0), .int p1] (wPre D K ad (yG ad K) 21 yv0 ya0 yl0)) (va_Qi (fun r _ => r = (-2)) (wB D ad (yG ad K) 21) (inW ad 21)) 0 0 (inW ad 21) := by
  refine x_met (by decide) (Nat.le_of_ble_eq_true rfl) ?_
  intro p e s m below meth c ls hE hr hlo hnm hB hl
  have hE : CallFix p m c cX9_fits 3 s _ tbG "TaleCourtModel" := hE
  obtain ⟨hP, hK, hN⟩ := hB
  have hS : va_S (inW ad 21) s.heap s.heap [] := va_S.rf
  have hl : lv_has ls 3 [(0, .ref (ad 0)), (1, .int p1)] := hl
  refine lv_aload_n hE.1 hE.2.1 dX9_fits_0 rfl (lv_at hl 0 rfl) ?_
  refine lv_iconst (v := 0) hE.1 hE.2.1 dX9_fits_1 (by decide) ?_
  refine x_put hE hK hN hP hS 0 (by decide) (yG_9 rfl) rfl hin9 tyX9 tyX9_ok nmX9 0 (by decide) mw_1334 rfl rfl rfl (Nat.le_of_ble_eq_true rfl) (yG_9 rfl) dX9_fits_2 (fun v1 H locs hv hP hS => ?_)
  obtain rfl := hv.trans (up_same (by decide))
  refine lv_aload_n hE.1 hE.2.1 dX9_fits_5 rfl (lv_at hl 0 rfl) ?_
  refine lv_iload_n hE.1 hE.2.1 dX9_fits_6 rfl (lv_at hl 1 rfl) ?_
  refine lv_iconst (v := 2) hE.1 hE.2.1 dX9_fits_7 (by decide) ?_
  refine x_vp (nn := 2) (As := [.int p1, .int 2]) (rest := []) hE (k_X9_whyNotTold l D K ad p1 2) wPre_blind (wPre_now hK hN hP) (x_recv hK hP 0 (by decide) (yG_9 rfl) rfl) rfl mw_1990 mw_1992 mw_106 mw_123 mw_1993 (by decide +kernel) ⟨by decide, by decide⟩ hl.1 rfl (by decide) ⟨Nat.zero_le _, Nat.zero_le _⟩ dX9_fits_8 (fun r hr => ?_)
  subst hr
  refine lv_istore_n (lv' := [(2, .int (-2)), (0, .ref (ad 0)), (1, .int p1)]) hE.1 hE.2.1 dX9_fits_11 rfl hl (by decide) rfl (fun ls hl => ?_)
  refine lv_iload_n hE.1 hE.2.1 dX9_fits_12 rfl (lv_at hl 0 rfl) ?_
  refine lv_if_eq (tgt := 18) hE.1 hE.2.1 dX9_fits_13 (by decide) (fun h => absurd h (by decide)) (fun _ => ?_)
  refine lv_iload_n hE.1 hE.2.1 dX9_fits_16 rfl (lv_at hl 0 rfl) ?_
  exact x_wi hE hr hlo hP hS rfl rfl dX9_fits_17

theorem dX9_liars_0 : decode cX9_liars 0 = .ok (.aload_n 0, 1) := by decide +kernel
theorem dX9_liars_1 : decode cX9_liars 1 = .ok (.iconst 0, 1) := by decide +kernel
theorem dX9_liars_2 : decode cX9_liars 2 = .ok (.putfield 81, 3) := by decide +kernel
theorem dX9_liars_5 : decode cX9_liars 5 = .ok (.aload_n 0, 1) := by decide +kernel
theorem dX9_liars_6 : decode cX9_liars 6 = .ok (.iload_n 1, 1) := by decide +kernel
theorem dX9_liars_7 : decode cX9_liars 7 = .ok (.iconst 3, 1) := by decide +kernel
theorem dX9_liars_8 : decode cX9_liars 8 = .ok (.invokevirtual 427, 3) := by decide +kernel
theorem dX9_liars_11 : decode cX9_liars 11 = .ok (.istore_n 2, 1) := by decide +kernel
theorem dX9_liars_12 : decode cX9_liars 12 = .ok (.iload_n 2, 1) := by decide +kernel
theorem dX9_liars_13 : decode cX9_liars 13 = .ok (.ifCond .eq 7, 3) := by decide +kernel
theorem dX9_liars_16 : decode cX9_liars 16 = .ok (.iload_n 2, 1) := by decide +kernel
theorem dX9_liars_17 : decode cX9_liars 17 = .ok (.goto 11, 3) := by decide +kernel
theorem dX9_liars_28 : decode cX9_liars 28 = .ok (.ireturn, 1) := by decide +kernel
set_option maxHeartbeats 4000000 in
set_option maxRecDepth 100000 in
theorem k_X9_liars (l : Launch) (D : va_G) (K : Nat → ClassId) (ad : Nat → Nat) (p1 : Int32) : Met l yX9_liars (wM yX9_liars cX9_liars 3 (some .int)) (rmD 4) (va_Pc [.ref (ad 0), .int p1] (wPre D K ad (yG ad K) 21 yv0 ya0 yl0)) (va_Qi (fun r _ => r = (-2)) (wB D ad (yG ad K) 21) (inW ad 21)) 0 0 (inW ad 21) := by
  refine x_met (by decide) (Nat.le_of_ble_eq_true rfl) ?_
  intro p e s m below meth c ls hE hr hlo hnm hB hl
  have hE : CallFix p m c cX9_liars 3 s _ tbG "TaleCourtModel" := hE
  obtain ⟨hP, hK, hN⟩ := hB
  have hS : va_S (inW ad 21) s.heap s.heap [] := va_S.rf
  have hl : lv_has ls 3 [(0, .ref (ad 0)), (1, .int p1)] := hl
  refine lv_aload_n hE.1 hE.2.1 dX9_liars_0 rfl (lv_at hl 0 rfl) ?_
  refine lv_iconst (v := 0) hE.1 hE.2.1 dX9_liars_1 (by decide) ?_
  refine x_put hE hK hN hP hS 0 (by decide) (yG_9 rfl) rfl hin9 tyX9 tyX9_ok nmX9 0 (by decide) mw_1334 rfl rfl rfl (Nat.le_of_ble_eq_true rfl) (yG_9 rfl) dX9_liars_2 (fun v1 H locs hv hP hS => ?_)
  obtain rfl := hv.trans (up_same (by decide))
  refine lv_aload_n hE.1 hE.2.1 dX9_liars_5 rfl (lv_at hl 0 rfl) ?_
  refine lv_iload_n hE.1 hE.2.1 dX9_liars_6 rfl (lv_at hl 1 rfl) ?_
  refine lv_iconst (v := 3) hE.1 hE.2.1 dX9_liars_7 (by decide) ?_
  refine x_vp (nn := 2) (As := [.int p1, .int 3]) (rest := []) hE (k_X9_whyNotTold l D K ad p1 3) wPre_blind (wPre_now hK hN hP) (x_recv hK hP 0 (by decide) (yG_9 rfl) rfl) rfl mw_1990 mw_1992 mw_106 mw_123 mw_1993 (by decide +kernel) ⟨by decide, by decide⟩ hl.1 rfl (by decide) ⟨Nat.zero_le _, Nat.zero_le _⟩ dX9_liars_8 (fun r hr => ?_)
  subst hr
  refine lv_istore_n (lv' := [(2, .int (-2)), (0, .ref (ad 0)), (1, .int p1)]) hE.1 hE.2.1 dX9_liars_11 rfl hl (by decide) rfl (fun ls hl => ?_)
  refine lv_iload_n hE.1 hE.2.1 dX9_liars_12 rfl (lv_at hl 0 rfl) ?_
  refine lv_if_eq (tgt := 20) hE.1 hE.2.1 dX9_liars_13 (by decide) (fun h => absurd h (by decide)) (fun _ => ?_)
  refine lv_iload_n hE.1 hE.2.1 dX9_liars_16 rfl (lv_at hl 0 rfl) ?_
  refine lv_goto (tgt := 28) hE.1 hE.2.1 dX9_liars_17 (by decide) ?_
  exact x_wi hE hr hlo hP hS rfl rfl dX9_liars_28

theorem dX9_who_0 : decode cX9_who 0 = .ok (.aload_n 0, 1) := by decide +kernel
theorem dX9_who_1 : decode cX9_who 1 = .ok (.iconst 0, 1) := by decide +kernel
theorem dX9_who_2 : decode cX9_who 2 = .ok (.putfield 81, 3) := by decide +kernel
theorem dX9_who_5 : decode cX9_who 5 = .ok (.aload_n 0, 1) := by decide +kernel
theorem dX9_who_6 : decode cX9_who 6 = .ok (.iload_n 1, 1) := by decide +kernel
theorem dX9_who_7 : decode cX9_who 7 = .ok (.iconst 3, 1) := by decide +kernel
theorem dX9_who_8 : decode cX9_who 8 = .ok (.invokevirtual 427, 3) := by decide +kernel
theorem dX9_who_11 : decode cX9_who 11 = .ok (.istore_n 2, 1) := by decide +kernel
theorem dX9_who_12 : decode cX9_who 12 = .ok (.iload_n 2, 1) := by decide +kernel
theorem dX9_who_13 : decode cX9_who 13 = .ok (.ifCond .eq 7, 3) := by decide +kernel
theorem dX9_who_16 : decode cX9_who 16 = .ok (.iload_n 2, 1) := by decide +kernel
theorem dX9_who_17 : decode cX9_who 17 = .ok (.goto 8, 3) := by decide +kernel
theorem dX9_who_25 : decode cX9_who 25 = .ok (.ireturn, 1) := by decide +kernel
set_option maxHeartbeats 4000000 in
set_option maxRecDepth 100000 in
theorem k_X9_who (l : Launch) (D : va_G) (K : Nat → ClassId) (ad : Nat → Nat) (p1 : Int32) : Met l yX9_who (wM yX9_who cX9_who 3 (some .int)) (rmD 4) (va_Pc [.ref (ad 0), .int p1] (wPre D K ad (yG ad K) 21 yv0 ya0 yl0)) (va_Qi (fun r _ => r = (-2)) (wB D ad (yG ad K) 21) (inW ad 21)) 0 0 (inW ad 21) := by
  refine x_met (by decide) (Nat.le_of_ble_eq_true rfl) ?_
  intro p e s m below meth c ls hE hr hlo hnm hB hl
  have hE : CallFix p m c cX9_who 3 s _ tbG "TaleCourtModel" := hE
  obtain ⟨hP, hK, hN⟩ := hB
  have hS : va_S (inW ad 21) s.heap s.heap [] := va_S.rf
  have hl : lv_has ls 3 [(0, .ref (ad 0)), (1, .int p1)] := hl
  refine lv_aload_n hE.1 hE.2.1 dX9_who_0 rfl (lv_at hl 0 rfl) ?_
  refine lv_iconst (v := 0) hE.1 hE.2.1 dX9_who_1 (by decide) ?_
  refine x_put hE hK hN hP hS 0 (by decide) (yG_9 rfl) rfl hin9 tyX9 tyX9_ok nmX9 0 (by decide) mw_1334 rfl rfl rfl (Nat.le_of_ble_eq_true rfl) (yG_9 rfl) dX9_who_2 (fun v1 H locs hv hP hS => ?_)
  obtain rfl := hv.trans (up_same (by decide))
  refine lv_aload_n hE.1 hE.2.1 dX9_who_5 rfl (lv_at hl 0 rfl) ?_
  refine lv_iload_n hE.1 hE.2.1 dX9_who_6 rfl (lv_at hl 1 rfl) ?_
  refine lv_iconst (v := 3) hE.1 hE.2.1 dX9_who_7 (by decide) ?_
  refine x_vp (nn := 2) (As := [.int p1, .int 3]) (rest := []) hE (k_X9_whyNotTold l D K ad p1 3) wPre_blind (wPre_now hK hN hP) (x_recv hK hP 0 (by decide) (yG_9 rfl) rfl) rfl mw_1990 mw_1992 mw_106 mw_123 mw_1993 (by decide +kernel) ⟨by decide, by decide⟩ hl.1 rfl (by decide) ⟨Nat.zero_le _, Nat.zero_le _⟩ dX9_who_8 (fun r hr => ?_)
  subst hr
  refine lv_istore_n (lv' := [(2, .int (-2)), (0, .ref (ad 0)), (1, .int p1)]) hE.1 hE.2.1 dX9_who_11 rfl hl (by decide) rfl (fun ls hl => ?_)
  refine lv_iload_n hE.1 hE.2.1 dX9_who_12 rfl (lv_at hl 0 rfl) ?_
  refine lv_if_eq (tgt := 20) hE.1 hE.2.1 dX9_who_13 (by decide) (fun h => absurd h (by decide)) (fun _ => ?_)
  refine lv_iload_n hE.1 hE.2.1 dX9_who_16 rfl (lv_at hl 0 rfl) ?_
  refine lv_goto (tgt := 25) hE.1 hE.2.1 dX9_who_17 (by decide) ?_
  exact x_wi hE hr hlo hP hS rfl rfl dX9_who_25

theorem dX9_votes_0 : decode cX9_votes 0 = .ok (.aload_n 0, 1) := by decide +kernel
theorem dX9_votes_1 : decode cX9_votes 1 = .ok (.iconst 0, 1) := by decide +kernel
theorem dX9_votes_2 : decode cX9_votes 2 = .ok (.putfield 81, 3) := by decide +kernel
theorem dX9_votes_5 : decode cX9_votes 5 = .ok (.iload_n 1, 1) := by decide +kernel
theorem dX9_votes_6 : decode cX9_votes 6 = .ok (.invokestatic 90, 3) := by decide +kernel
theorem dX9_votes_9 : decode cX9_votes 9 = .ok (.ifCond .eq 17, 3) := by decide +kernel
theorem dX9_votes_12 : decode cX9_votes 12 = .ok (.iload_n 2, 1) := by decide +kernel
theorem dX9_votes_13 : decode cX9_votes 13 = .ok (.invokestatic 90, 3) := by decide +kernel
theorem dX9_votes_16 : decode cX9_votes 16 = .ok (.ifCond .eq 10, 3) := by decide +kernel
theorem dX9_votes_19 : decode cX9_votes 19 = .ok (.aload_n 0, 1) := by decide +kernel
theorem dX9_votes_20 : decode cX9_votes 20 = .ok (.invokevirtual 301, 3) := by decide +kernel
theorem dX9_votes_23 : decode cX9_votes 23 = .ok (.ifCond .ne 6, 3) := by decide +kernel
theorem dX9_votes_26 : decode cX9_votes 26 = .ok (.bipush (-2), 2) := by decide +kernel
theorem dX9_votes_28 : decode cX9_votes 28 = .ok (.ireturn, 1) := by decide +kernel
set_option maxHeartbeats 4000000 in
set_option maxRecDepth 100000 in
theorem k_X9_votes (l : Launch) (D : va_G) (K : Nat → ClassId) (ad : Nat → Nat) (p1 : Int32) (p2 : Int32) : Met l yX9_votes (wM yX9_votes cX9_votes 5 (some .int)) (rmD 2) (va_Pc [.ref (ad 0), .int p1, .int p2] (wPre D K ad (yG ad K) 21 yv0 ya0 yl0)) (va_Qi (fun r _ => r = (-2)) (wB D ad (yG ad K) 21) (inW ad 21)) 0 0 (inW ad 21) := by
  refine x_met (by decide) (Nat.le_of_ble_eq_true rfl) ?_
  intro p e s m below meth c ls hE hr hlo hnm hB hl
  have hE : CallFix p m c cX9_votes 5 s _ tbG "TaleCourtModel" := hE
  obtain ⟨hP, hK, hN⟩ := hB
  have hS : va_S (inW ad 21) s.heap s.heap [] := va_S.rf
  have hl : lv_has ls 5 [(0, .ref (ad 0)), (1, .int p1), (2, .int p2)] := hl
  refine lv_aload_n hE.1 hE.2.1 dX9_votes_0 rfl (lv_at hl 0 rfl) ?_
  refine lv_iconst (v := 0) hE.1 hE.2.1 dX9_votes_1 (by decide) ?_
  refine x_put hE hK hN hP hS 0 (by decide) (yG_9 rfl) rfl hin9 tyX9 tyX9_ok nmX9 0 (by decide) mw_1334 rfl rfl rfl (Nat.le_of_ble_eq_true rfl) (yG_9 rfl) dX9_votes_2 (fun v1 H locs hv hP hS => ?_)
  obtain rfl := hv.trans (up_same (by decide))
  refine lv_iload_n hE.1 hE.2.1 dX9_votes_5 rfl (lv_at hl 1 rfl) ?_
  refine x_sp (nn := 1) (As := [.int p1]) (rest := []) hE (k_X9_isSlot l p1) tt_blind (fun _ _ _ => trivial) rfl mw_1490 mw_1491 mw_123 mw_1492 (by decide +kernel) ⟨by decide, by decide⟩ hl.1 rfl (by decide) ⟨Nat.zero_le _, Nat.zero_le _⟩ dX9_votes_6 (fun r hr => ?_)
  subst hr
  refine lv_if_eq (tgt := 26) hE.1 hE.2.1 dX9_votes_9 (by decide) (fun c_1 => ?_) (fun c_1 => ?_)
  · skip
    refine lv_bipush (v := (-2)) hE.1 hE.2.1 dX9_votes_26 (by decide) ?_
    exact x_wi hE hr hlo hP hS rfl rfl dX9_votes_28
  · skip
    refine lv_iload_n hE.1 hE.2.1 dX9_votes_12 rfl (lv_at hl 2 rfl) ?_
    refine x_sp (nn := 1) (As := [.int p2]) (rest := []) hE (k_X9_isSlot l p2) tt_blind (fun _ _ _ => trivial) rfl mw_1490 mw_1491 mw_123 mw_1492 (by decide +kernel) ⟨by decide, by decide⟩ hl.1 rfl (by decide) ⟨Nat.zero_le _, Nat.zero_le _⟩ dX9_votes_13 (fun r hr => ?_)
    subst hr
    refine lv_if_eq (tgt := 26) hE.1 hE.2.1 dX9_votes_16 (by decide) (fun c_2 => ?_) (fun c_2 => ?_)
    · skip
      refine lv_bipush (v := (-2)) hE.1 hE.2.1 dX9_votes_26 (by decide) ?_
      exact x_wi hE hr hlo hP hS rfl rfl dX9_votes_28
    · skip
      refine lv_aload_n hE.1 hE.2.1 dX9_votes_19 rfl (lv_at hl 0 rfl) ?_
      refine x_vp (nn := 0) (As := []) (rest := []) hE (k_X9_isCourt l D K ad ) wPre_blind (wPre_now hK hN hP) (x_recv hK hP 0 (by decide) (yG_9 rfl) rfl) rfl mw_1718 mw_1720 mw_79 mw_123 mw_1721 (by decide +kernel) ⟨by decide, by decide⟩ hl.1 rfl (by decide) ⟨Nat.zero_le _, Nat.zero_le _⟩ dX9_votes_20 (fun r hr => ?_)
      subst hr
      refine lv_if_ne (tgt := 29) hE.1 hE.2.1 dX9_votes_23 (by decide) (fun h => absurd (by decide) h) (fun _ => ?_)
      refine lv_bipush (v := (-2)) hE.1 hE.2.1 dX9_votes_26 (by decide) ?_
      exact x_wi hE hr hlo hP hS rfl rfl dX9_votes_28

theorem dX9_drawn_0 : decode cX9_drawn 0 = .ok (.aload_n 0, 1) := by decide +kernel
theorem dX9_drawn_1 : decode cX9_drawn 1 = .ok (.iconst 0, 1) := by decide +kernel
theorem dX9_drawn_2 : decode cX9_drawn 2 = .ok (.putfield 81, 3) := by decide +kernel
theorem dX9_drawn_5 : decode cX9_drawn 5 = .ok (.aload_n 0, 1) := by decide +kernel
theorem dX9_drawn_6 : decode cX9_drawn 6 = .ok (.iload_n 1, 1) := by decide +kernel
theorem dX9_drawn_7 : decode cX9_drawn 7 = .ok (.invokevirtual 458, 3) := by decide +kernel
theorem dX9_drawn_10 : decode cX9_drawn 10 = .ok (.ifCond .eq 15, 3) := by decide +kernel
theorem dX9_drawn_25 : decode cX9_drawn 25 = .ok (.bipush (-2), 2) := by decide +kernel
theorem dX9_drawn_27 : decode cX9_drawn 27 = .ok (.ireturn, 1) := by decide +kernel
set_option maxHeartbeats 4000000 in
set_option maxRecDepth 100000 in
theorem k_X9_drawn (l : Launch) (D : va_G) (K : Nat → ClassId) (ad : Nat → Nat) (p1 : Int32) (p2 : Int32) : Met l yX9_drawn (wM yX9_drawn cX9_drawn 3 (some .int)) (rmD 2) (va_Pc [.ref (ad 0), .int p1, .int p2] (wPre D K ad (yG ad K) 21 yv0 ya0 yl0)) (va_Qi (fun r _ => r = (-2)) (wB D ad (yG ad K) 21) (inW ad 21)) 0 0 (inW ad 21) := by
  refine x_met (by decide) (Nat.le_of_ble_eq_true rfl) ?_
  intro p e s m below meth c ls hE hr hlo hnm hB hl
  have hE : CallFix p m c cX9_drawn 3 s _ tbG "TaleCourtModel" := hE
  obtain ⟨hP, hK, hN⟩ := hB
  have hS : va_S (inW ad 21) s.heap s.heap [] := va_S.rf
  have hl : lv_has ls 3 [(0, .ref (ad 0)), (1, .int p1), (2, .int p2)] := hl
  refine lv_aload_n hE.1 hE.2.1 dX9_drawn_0 rfl (lv_at hl 0 rfl) ?_
  refine lv_iconst (v := 0) hE.1 hE.2.1 dX9_drawn_1 (by decide) ?_
  refine x_put hE hK hN hP hS 0 (by decide) (yG_9 rfl) rfl hin9 tyX9 tyX9_ok nmX9 0 (by decide) mw_1334 rfl rfl rfl (Nat.le_of_ble_eq_true rfl) (yG_9 rfl) dX9_drawn_2 (fun v1 H locs hv hP hS => ?_)
  obtain rfl := hv.trans (up_same (by decide))
  refine lv_aload_n hE.1 hE.2.1 dX9_drawn_5 rfl (lv_at hl 0 rfl) ?_
  refine lv_iload_n hE.1 hE.2.1 dX9_drawn_6 rfl (lv_at hl 1 rfl) ?_
  refine x_vp (nn := 1) (As := [.int p1]) (rest := []) hE (k_X9_isSeed l D K ad p1) wPre_blind (wPre_now hK hN hP) (x_recv hK hP 0 (by decide) (yG_9 rfl) rfl) rfl mw_2041 mw_2043 mw_111 mw_123 mw_2044 (by decide +kernel) ⟨by decide, by decide⟩ hl.1 rfl (by decide) ⟨Nat.zero_le _, Nat.zero_le _⟩ dX9_drawn_7 (fun r hr => ?_)
  subst hr
  refine lv_if_eq (tgt := 25) hE.1 hE.2.1 dX9_drawn_10 (by decide) (fun _ => ?_) (fun h => absurd (by decide) h)
  refine lv_bipush (v := (-2)) hE.1 hE.2.1 dX9_drawn_25 (by decide) ?_
  exact x_wi hE hr hlo hP hS rfl rfl dX9_drawn_27

theorem dX9_lot_0 : decode cX9_lot 0 = .ok (.aload_n 0, 1) := by decide +kernel
theorem dX9_lot_1 : decode cX9_lot 1 = .ok (.iconst 0, 1) := by decide +kernel
theorem dX9_lot_2 : decode cX9_lot 2 = .ok (.putfield 81, 3) := by decide +kernel
theorem dX9_lot_5 : decode cX9_lot 5 = .ok (.aload_n 0, 1) := by decide +kernel
theorem dX9_lot_6 : decode cX9_lot 6 = .ok (.iload_n 1, 1) := by decide +kernel
theorem dX9_lot_7 : decode cX9_lot 7 = .ok (.invokevirtual 458, 3) := by decide +kernel
theorem dX9_lot_10 : decode cX9_lot 10 = .ok (.ifCond .ne 6, 3) := by decide +kernel
theorem dX9_lot_13 : decode cX9_lot 13 = .ok (.bipush (-2), 2) := by decide +kernel
theorem dX9_lot_15 : decode cX9_lot 15 = .ok (.ireturn, 1) := by decide +kernel
set_option maxHeartbeats 4000000 in
set_option maxRecDepth 100000 in
theorem k_X9_lot (l : Launch) (D : va_G) (K : Nat → ClassId) (ad : Nat → Nat) (p1 : Int32) (p2 : Int32) : Met l yX9_lot (wM yX9_lot cX9_lot 3 (some .int)) (rmD 2) (va_Pc [.ref (ad 0), .int p1, .int p2] (wPre D K ad (yG ad K) 21 yv0 ya0 yl0)) (va_Qi (fun r _ => r = (-2)) (wB D ad (yG ad K) 21) (inW ad 21)) 0 0 (inW ad 21) := by
  refine x_met (by decide) (Nat.le_of_ble_eq_true rfl) ?_
  intro p e s m below meth c ls hE hr hlo hnm hB hl
  have hE : CallFix p m c cX9_lot 3 s _ tbG "TaleCourtModel" := hE
  obtain ⟨hP, hK, hN⟩ := hB
  have hS : va_S (inW ad 21) s.heap s.heap [] := va_S.rf
  have hl : lv_has ls 3 [(0, .ref (ad 0)), (1, .int p1), (2, .int p2)] := hl
  refine lv_aload_n hE.1 hE.2.1 dX9_lot_0 rfl (lv_at hl 0 rfl) ?_
  refine lv_iconst (v := 0) hE.1 hE.2.1 dX9_lot_1 (by decide) ?_
  refine x_put hE hK hN hP hS 0 (by decide) (yG_9 rfl) rfl hin9 tyX9 tyX9_ok nmX9 0 (by decide) mw_1334 rfl rfl rfl (Nat.le_of_ble_eq_true rfl) (yG_9 rfl) dX9_lot_2 (fun v1 H locs hv hP hS => ?_)
  obtain rfl := hv.trans (up_same (by decide))
  refine lv_aload_n hE.1 hE.2.1 dX9_lot_5 rfl (lv_at hl 0 rfl) ?_
  refine lv_iload_n hE.1 hE.2.1 dX9_lot_6 rfl (lv_at hl 1 rfl) ?_
  refine x_vp (nn := 1) (As := [.int p1]) (rest := []) hE (k_X9_isSeed l D K ad p1) wPre_blind (wPre_now hK hN hP) (x_recv hK hP 0 (by decide) (yG_9 rfl) rfl) rfl mw_2041 mw_2043 mw_111 mw_123 mw_2044 (by decide +kernel) ⟨by decide, by decide⟩ hl.1 rfl (by decide) ⟨Nat.zero_le _, Nat.zero_le _⟩ dX9_lot_7 (fun r hr => ?_)
  subst hr
  refine lv_if_ne (tgt := 16) hE.1 hE.2.1 dX9_lot_10 (by decide) (fun h => absurd (by decide) h) (fun _ => ?_)
  refine lv_bipush (v := (-2)) hE.1 hE.2.1 dX9_lot_13 (by decide) ?_
  exact x_wi hE hr hlo hP hS rfl rfl dX9_lot_15

theorem dX9_nights_0 : decode cX9_nights 0 = .ok (.aload_n 0, 1) := by decide +kernel
theorem dX9_nights_1 : decode cX9_nights 1 = .ok (.iconst 0, 1) := by decide +kernel
theorem dX9_nights_2 : decode cX9_nights 2 = .ok (.putfield 81, 3) := by decide +kernel
theorem dX9_nights_5 : decode cX9_nights 5 = .ok (.aload_n 0, 1) := by decide +kernel
theorem dX9_nights_6 : decode cX9_nights 6 = .ok (.iload_n 1, 1) := by decide +kernel
theorem dX9_nights_7 : decode cX9_nights 7 = .ok (.invokevirtual 458, 3) := by decide +kernel
theorem dX9_nights_10 : decode cX9_nights 10 = .ok (.ifCond .eq 15, 3) := by decide +kernel
theorem dX9_nights_25 : decode cX9_nights 25 = .ok (.bipush (-2), 2) := by decide +kernel
theorem dX9_nights_27 : decode cX9_nights 27 = .ok (.ireturn, 1) := by decide +kernel
set_option maxHeartbeats 4000000 in
set_option maxRecDepth 100000 in
theorem k_X9_nights (l : Launch) (D : va_G) (K : Nat → ClassId) (ad : Nat → Nat) (p1 : Int32) (p2 : Int32) : Met l yX9_nights (wM yX9_nights cX9_nights 5 (some .int)) (rmD 2) (va_Pc [.ref (ad 0), .int p1, .int p2] (wPre D K ad (yG ad K) 21 yv0 ya0 yl0)) (va_Qi (fun r _ => r = (-2)) (wB D ad (yG ad K) 21) (inW ad 21)) 0 0 (inW ad 21) := by
  refine x_met (by decide) (Nat.le_of_ble_eq_true rfl) ?_
  intro p e s m below meth c ls hE hr hlo hnm hB hl
  have hE : CallFix p m c cX9_nights 5 s _ tbG "TaleCourtModel" := hE
  obtain ⟨hP, hK, hN⟩ := hB
  have hS : va_S (inW ad 21) s.heap s.heap [] := va_S.rf
  have hl : lv_has ls 5 [(0, .ref (ad 0)), (1, .int p1), (2, .int p2)] := hl
  refine lv_aload_n hE.1 hE.2.1 dX9_nights_0 rfl (lv_at hl 0 rfl) ?_
  refine lv_iconst (v := 0) hE.1 hE.2.1 dX9_nights_1 (by decide) ?_
  refine x_put hE hK hN hP hS 0 (by decide) (yG_9 rfl) rfl hin9 tyX9 tyX9_ok nmX9 0 (by decide) mw_1334 rfl rfl rfl (Nat.le_of_ble_eq_true rfl) (yG_9 rfl) dX9_nights_2 (fun v1 H locs hv hP hS => ?_)
  obtain rfl := hv.trans (up_same (by decide))
  refine lv_aload_n hE.1 hE.2.1 dX9_nights_5 rfl (lv_at hl 0 rfl) ?_
  refine lv_iload_n hE.1 hE.2.1 dX9_nights_6 rfl (lv_at hl 1 rfl) ?_
  refine x_vp (nn := 1) (As := [.int p1]) (rest := []) hE (k_X9_isSeed l D K ad p1) wPre_blind (wPre_now hK hN hP) (x_recv hK hP 0 (by decide) (yG_9 rfl) rfl) rfl mw_2041 mw_2043 mw_111 mw_123 mw_2044 (by decide +kernel) ⟨by decide, by decide⟩ hl.1 rfl (by decide) ⟨Nat.zero_le _, Nat.zero_le _⟩ dX9_nights_7 (fun r hr => ?_)
  subst hr
  refine lv_if_eq (tgt := 25) hE.1 hE.2.1 dX9_nights_10 (by decide) (fun _ => ?_) (fun h => absurd (by decide) h)
  refine lv_bipush (v := (-2)) hE.1 hE.2.1 dX9_nights_25 (by decide) ?_
  exact x_wi hE hr hlo hP hS rfl rfl dX9_nights_27

theorem dX9_taste_0 : decode cX9_taste 0 = .ok (.aload_n 0, 1) := by decide +kernel
theorem dX9_taste_1 : decode cX9_taste 1 = .ok (.iconst 0, 1) := by decide +kernel
theorem dX9_taste_2 : decode cX9_taste 2 = .ok (.putfield 81, 3) := by decide +kernel
theorem dX9_taste_5 : decode cX9_taste 5 = .ok (.iload_n 1, 1) := by decide +kernel
theorem dX9_taste_6 : decode cX9_taste 6 = .ok (.i2l, 1) := by decide +kernel
theorem dX9_taste_7 : decode cX9_taste 7 = .ok (.lconst 0, 1) := by decide +kernel
theorem dX9_taste_8 : decode cX9_taste 8 = .ok (.aload_n 0, 1) := by decide +kernel
theorem dX9_taste_9 : decode cX9_taste 9 = .ok (.getfield 34, 3) := by decide +kernel
theorem dX9_taste_12 : decode cX9_taste 12 = .ok (.iconst 3, 1) := by decide +kernel
theorem dX9_taste_13 : decode cX9_taste 13 = .ok (.iaload, 1) := by decide +kernel
theorem dX9_taste_14 : decode cX9_taste 14 = .ok (.iconst 1, 1) := by decide +kernel
theorem dX9_taste_15 : decode cX9_taste 15 = .ok (.isub, 1) := by decide +kernel
theorem dX9_taste_16 : decode cX9_taste 16 = .ok (.i2l, 1) := by decide +kernel
theorem dX9_taste_17 : decode cX9_taste 17 = .ok (.invokestatic 86, 3) := by decide +kernel
theorem dX9_taste_20 : decode cX9_taste 20 = .ok (.ifCond .eq 10, 3) := by decide +kernel
theorem dX9_taste_30 : decode cX9_taste 30 = .ok (.sipush (-1000), 3) := by decide +kernel
theorem dX9_taste_33 : decode cX9_taste 33 = .ok (.ireturn, 1) := by decide +kernel
set_option maxHeartbeats 4000000 in
set_option maxRecDepth 100000 in
theorem k_X9_taste (l : Launch) (D : va_G) (K : Nat → ClassId) (ad : Nat → Nat) (p1 : Int32) (p2 : Int32) : Met l yX9_taste (wM yX9_taste cX9_taste 3 (some .int)) (rmD 1) (va_Pc [.ref (ad 0), .int p1, .int p2] (wPre D K ad (yG ad K) 21 yv0 ya0 yl0)) (va_Qi (fun r _ => r = (-1000)) (wB D ad (yG ad K) 21) (inW ad 21)) 0 0 (inW ad 21) := by
  refine x_met (by decide) (Nat.le_of_ble_eq_true rfl) ?_
  intro p e s m below meth c ls hE hr hlo hnm hB hl
  have hE : CallFix p m c cX9_taste 3 s _ tbG "TaleCourtModel" := hE
  obtain ⟨hP, hK, hN⟩ := hB
  have hS : va_S (inW ad 21) s.heap s.heap [] := va_S.rf
  have hl : lv_has ls 3 [(0, .ref (ad 0)), (1, .int p1), (2, .int p2)] := hl
  refine lv_aload_n hE.1 hE.2.1 dX9_taste_0 rfl (lv_at hl 0 rfl) ?_
  refine lv_iconst (v := 0) hE.1 hE.2.1 dX9_taste_1 (by decide) ?_
  refine x_put hE hK hN hP hS 0 (by decide) (yG_9 rfl) rfl hin9 tyX9 tyX9_ok nmX9 0 (by decide) mw_1334 rfl rfl rfl (Nat.le_of_ble_eq_true rfl) (yG_9 rfl) dX9_taste_2 (fun v1 H locs hv hP hS => ?_)
  obtain rfl := hv.trans (up_same (by decide))
  refine lv_iload_n hE.1 hE.2.1 dX9_taste_5 rfl (lv_at hl 1 rfl) ?_
  refine lv_i2l (v := (p1.toInt64)) hE.1 hE.2.1 dX9_taste_6 rfl ?_
  refine lv_lconst (v := 0) hE.1 hE.2.1 dX9_taste_7 (by decide) ?_
  refine lv_aload_n hE.1 hE.2.1 dX9_taste_8 rfl (lv_at hl 0 rfl) ?_
  refine x_get (x := .ref (ad 7)) hE hK hP 0 (by decide) (yG_9 rfl) rfl hin9 17 (by decide) mw_1351 rfl dX9_taste_9 ?_
  refine lv_iconst (v := 3) hE.1 hE.2.1 dX9_taste_12 (by decide) ?_
  refine x_iald (j := 3) hE hK hP 7 (by decide) (yG_10 rfl) (by unfold vp_in; decide) dX9_taste_13 ?_
  refine x_top (y := 0) (by decide) ?_
  refine lv_iconst (v := 1) hE.1 hE.2.1 dX9_taste_14 (by decide) ?_
  refine lv_isub hE.1 hE.2.1 dX9_taste_15 ?_
  refine x_top (y := (-1)) (by decide) ?_
  refine lv_i2l (v := (-1)) hE.1 hE.2.1 dX9_taste_16 (by decide) ?_
  refine x_sp (nn := 3) (As := [.long (p1.toInt64), .long 0, .long (-1)]) (rest := []) hE (k_X9_in l (p1.toInt64) 0 (-1)) tt_blind (fun _ _ _ => trivial) rfl mw_1494 mw_1495 mw_123 mw_1496 (by decide +kernel) ⟨by decide, by decide⟩ hl.1 rfl (by decide) ⟨Nat.zero_le _, Nat.zero_le _⟩ dX9_taste_17 (fun r hr => ?_)
  subst hr
  refine x_top (y := 0) (inL_none _) ?_
  refine lv_if_eq (tgt := 30) hE.1 hE.2.1 dX9_taste_20 (by decide) (fun _ => ?_) (fun h => absurd (by decide) h)
  refine lv_sipush (v := (-1000)) hE.1 hE.2.1 dX9_taste_30 (by decide) ?_
  exact x_wi hE hr hlo hP hS rfl rfl dX9_taste_33
end
section
theorem P_mem {D : va_G} {cl : List vw_C} {ws : va_W} {H : Heap} : va_P D cl ws H ↔ ∀ q ∈ ws, va_at D cl q H :=
  ⟨fun h q hq => by obtain ⟨k, hk⟩ := List.mem_iff_getElem?.mp hq; exact h k q hk, fun h k q hk => h q (List.mem_of_getElem? hk)⟩
theorem P_perm {D : va_G} {cl : List vw_C} {ws ws' : va_W} {H : Heap} (h : va_P D cl ws H) (hp : ws.Perm ws') : va_P D cl ws' H := P_mem.mpr (fun q hq => P_mem.mp h q (hp.mem_iff.mpr hq))
theorem D_iff {A : Nat → Prop} {ws : va_W} : va_D A ws ↔ (ws.map Prod.fst).Pairwise (fun a b => a ≠ b) ∧ ∀ q ∈ ws, A q.1 := by
  constructor
  · intro h
    refine ⟨?_, fun q hq => ?_⟩
    · rw [List.pairwise_iff_getElem]
      intro i j hi hj hij he
      simp only [List.length_map] at hi hj
      simp only [List.getElem_map] at he
      have := h.1 i j _ _ (List.getElem?_eq_getElem hi) (List.getElem?_eq_getElem hj) he
      omega
    · obtain ⟨k, hk⟩ := List.mem_iff_getElem?.mp hq
      exact h.2 k q hk
  · intro h
    refine ⟨fun i j x y hi hj he => ?_, fun k q hk => h.2 q (List.mem_of_getElem? hk)⟩
    obtain ⟨hi', rfl⟩ := List.getElem?_eq_some_iff.mp hi
    obtain ⟨hj', rfl⟩ := List.getElem?_eq_some_iff.mp hj
    have hpw := List.pairwise_iff_getElem.mp h.1
    rcases Nat.lt_trichotomy i j with q | q | q
    · exact absurd (by simpa using he) (hpw i j (by simpa using hi') (by simpa using hj') q)
    · exact q
    · exact absurd (by simpa using he.symm) (hpw j i (by simpa using hj') (by simpa using hi') q)
theorem D_perm {A : Nat → Prop} {ws ws' : va_W} (h : va_D A ws) (hp : ws.Perm ws') : va_D A ws' := by
  rw [D_iff] at h ⊢
  refine ⟨?_, fun q hq => h.2 q (hp.mem_iff.mpr hq)⟩
  exact ((hp.map Prod.fst).pairwise_iff (fun {a b} h => Ne.symm h)).mp h.1
theorem ra_inj {U : State} {c1 c2 : ClassId} {ty : FieldType} (h1 : va_RA U c1 ty) (h2 : va_RA U c2 ty) : c1 = c2 := by
  cases ty with
  | object C =>
    obtain ⟨_, _, _, _, _, a⟩ := h1
    obtain ⟨_, _, _, _, _, b⟩ := h2
    exact Option.some.inj (a.symm.trans b)
  | _ =>
    have a : U.vm.findClass _ = some c1 := h1
    have b : U.vm.findClass _ = some c2 := h2
    exact Option.some.inj (a.symm.trans b)
theorem join_app {A0 : Nat → Prop} {D : va_G} {cl : List vw_C} {ws w1 : va_W} {q : Nat} {e : va_E} {H H1 : Heap} (hP : va_P D cl (ws ++ [(q, e)]) H) (hD : va_D A0 (ws ++ [(q, e)])) (hk : ∀ x : Nat, x < H.size → ¬ va_A [(q, e)] H.size x → H1[x]? = H[x]?) (hF : ∀ x, va_A [(q, e)] H.size x → A0 x) (hP1 : va_P D cl w1 H1) (hD1 : va_D (va_A [(q, e)] H.size) w1) : va_P D cl (ws ++ w1) H1 ∧ va_D A0 (ws ++ w1) := by
  have hat : ∀ (k : Nat) (x : Nat × va_E), ws[k]? = some x → (ws ++ [(q, e)])[k]? = some x := fun k x hx => by
    rw [List.getElem?_append_left (List.getElem?_eq_some_iff.mp hx).1]; exact hx
  have ap : ∀ (k : Nat) (x : Nat × va_E), ws[k]? = some x → x.1 < H.size ∧ ¬ va_A [(q, e)] H.size x.1 := by
    intro k x hx
    have hl := (hP k x (hat k x hx)).lt
    refine ⟨hl, fun h => ?_⟩
    rcases h with ⟨k2, e2, h⟩ | h
    · have h2 : k2 < 1 := (List.getElem?_eq_some_iff.mp h).1
      rw [show k2 = 0 by omega] at h
      have h3 : x.1 = q := by cases h; rfl
      have h4 := hD.1 k ws.length x (q, e) (hat k x hx) (by simp) h3
      have h5 := (List.getElem?_eq_some_iff.mp hx).1
      omega
    · omega
  have hDw : va_D A0 ws := ⟨fun i j x y hi hj he => hD.1 i j x y (hat i x hi) (hat j y hj) he, fun k x hx => hD.2 k x (hat k x hx)⟩
  refine ⟨va_P.app (fun k x hx => (hP k x (hat k x hx)).kept (hk x.1 (ap k x hx).1 (ap k x hx).2)) hP1, va_D.app hDw (hD1.weaken (fun k x _ h => hF x.1 h)) (fun i j x y hx hy hxy => ?_)⟩
  exact (ap i x hx).2 (by rw [hxy]; exact hD1.2 j y hy)
def nPre (U : State) : Prop := va_Nw (.methodLinkNest "TaleCourt" 11 ⟨"TaleCourt$Reader", "<init>", "()V"⟩ "TaleCourt") U ∧ va_Nw (.methodLinkNest "TaleCourt" 18 ⟨"TaleCourt$Court", "<init>", "()V"⟩ "TaleCourt") U ∧ va_Nw (.methodLinkNest "TaleCourt" 40 ⟨"TaleCourt$Claims", "<init>", "()V"⟩ "TaleCourt") U ∧ va_Nw (.methodLinkNest "TaleCourt" 73 ⟨"TaleCourt$Row", "<init>", "()V"⟩ "TaleCourt") U ∧ va_Nw (.methodLinkNest "TaleCourt" 74 ⟨"TaleCourt$Image", "<init>", "()V"⟩ "TaleCourt") U ∧ va_Nw (.methodLinkNest "TaleCourt$Image" 9 ⟨"TaleCourt$Court", "<init>", "()V"⟩ "TaleCourt") U ∧ va_AO "TaleCourt$Row" U ∧ va_AO "TaleCourt$Image" U
theorem nPre.warm {s U : State} (h : nPre s) (hW : s.WarmedH U.vm) : nPre U :=
  ⟨va_Nw.warmM hW h.1, va_Nw.warmM hW h.2.1, va_Nw.warmM hW h.2.2.1, va_Nw.warmM hW h.2.2.2.1, va_Nw.warmM hW h.2.2.2.2.1, va_Nw.warmM hW h.2.2.2.2.2.1, va_AO.moved hW.alike h.2.2.2.2.2.2.1, va_AO.moved hW.alike h.2.2.2.2.2.2.2⟩
theorem nPre.same {s U : State} (h : nPre s) (hW : s.vm = U.vm) : nPre U :=
  ⟨va_Nw.same rfl hW h.1, va_Nw.same rfl hW h.2.1, va_Nw.same rfl hW h.2.2.1, va_Nw.same rfl hW h.2.2.2.1, va_Nw.same rfl hW h.2.2.2.2.1, va_Nw.same rfl hW h.2.2.2.2.2.1, va_AO.moved (hW ▸ Vm.Alike.refl s.vm) h.2.2.2.2.2.2.1, va_AO.moved (hW ▸ Vm.Alike.refl s.vm) h.2.2.2.2.2.2.2⟩
def cPre (D : va_G) (K : Nat → ClassId) (q sz : Nat) (e : va_E) (U : State) : Prop := U.heap.size = sz ∧ va_P D xcl [(q, e)] U.heap ∧ va_K D xcl (xty K) U ∧ nPre U
def cB (D : va_G) (A : Nat → Prop) (blk : (Nat → Nat) → va_W) (a : Nat → Nat) (t : State) : Prop := va_P D xcl (blk a) t.heap ∧ va_D A (blk a)
def rmC (d mc ms : Nat) : Room := { frames := d, cells := mc, slots := ms, locals := 64 * d }
theorem cPre_blind {D : va_G} {K : Nat → ClassId} {q sz : Nat} {e : va_E} {av : List Value} : FrameBlind (va_Pc av (cPre D K q sz e)) := fun a U g mk h => ⟨h.1, h.2.1, h.2.2.1, va_K.moved (u := U) (U := U.calling g mk a) (Vm.Alike.refl U.vm) h.2.2.2.1, nPre.same h.2.2.2.2 rfl⟩
theorem x_cmet {l : Launch} {y : MethodName} {b : ByteArray} {n : Nat} {rm : Room} {As : List Value} {D : va_G} {K : Nat → ClassId} {q sz : Nat} {e0 : va_E} {blk : (Nat → Nat) → va_W} {mc ms : Nat} (hy : plainName y.cls = true) (hyn : y.name = "<init>") (hlen : (lg_sl (.ref q :: As)).length ≤ n)
    (body : ∀ (p : Program) (e : Env) (s : State) (m : MethodId) (below : List Frame) (meth : Method) (c : Code) (ls : Array Slot) (A : Nat → Prop), CallFix p m c b n s (.ref q :: As).toArray tbG y.cls → meth.sig.returnType = none → meth.locks = false → meth.name = "<init>" → va_P D xcl [(q, e0)] s.heap → va_D A [(q, e0)] → va_S A s.heap s.heap [] → (∀ x : Nat, s.heap.size ≤ x → A x) → va_K D xcl (xty K) s → nPre s → lv_has ls n (lv_args 0 (.ref q :: As)) →
      (∀ (a : Nat → Nat) (pc : Nat) (ls : Array Slot) (H : Heap) (locs : List Loc) (k z : Nat), k ≤ mc → z ≤ ms → a 0 = q → va_P D xcl (blk a) H → va_D A (blk a) → va_S A s.heap H locs → decode b pc = .ok (.return_, 1) → W p l e rm s m (.ref q :: As).toArray below meth c H locs k z (MQ below (va_Qv (fun a : Nat → Nat => a 0 = q) (cB D (va_A [(q, e0)] sz) blk) (va_A [(q, e0)] sz)) (.ref q :: As).toArray s mc ms (va_A [(q, e0)] sz)) (F0 m pc ls [])) →
      W p l e rm s m (.ref q :: As).toArray below meth c s.heap [] 0 0 (MQ below (va_Qv (fun a : Nat → Nat => a 0 = q) (cB D (va_A [(q, e0)] sz) blk) (va_A [(q, e0)] sz)) (.ref q :: As).toArray s mc ms (va_A [(q, e0)] sz)) (F0 m 0 ls [])) :
    Met l y (wM y b n none) rm (va_Pc (.ref q :: As) (cPre D K q sz e0)) (va_Qv (fun a : Nat → Nat => a 0 = q) (cB D (va_A [(q, e0)] sz) blk) (va_A [(q, e0)] sz)) mc ms (va_A [(q, e0)] sz) := by
  refine x_met hy hlen ?_
  intro p e s m below meth c ls hE hr hlo hnm hB hl
  obtain ⟨hsz, hP, hK, hn⟩ := hB
  subst hsz
  have hD0 : va_D (fun _ => True) [(q, e0)] := ⟨fun i j x y hi hj _ => by
    have h1 := (List.getElem?_eq_some_iff.mp hi).1
    have h2 := (List.getElem?_eq_some_iff.mp hj).1
    simp only [List.length_cons, List.length_nil] at h1 h2
    omega, fun _ _ _ => trivial⟩
  refine body p e s m below meth c ls (va_A [(q, e0)] s.heap.size) hE hr hlo (hnm.trans hyn) hP hD0.self va_S.rf (fun x h => Or.inr h) hK hn hl ?_
  intro a pc ls H locs k z hk hz ha hP hD hS hdg
  refine W.widen (k := mc) (n := ms) hk hz ?_
  exact W.vret hE.1 hE.2.1 hr (fun t ht _ => ⟨⟨a, rfl, ha, by rw [ht]; exact hP, hD⟩, hS.F ht⟩) hS.2.2 hdg hlo
section XC
variable {p : Program} {l : Launch} {e : Env} {R : Room} {s : State} {m : MethodId} {args : Array Value} {below : List Frame} {meth : Method} {c : Code} {cc : ByteArray} {H : Heap} {locs : List Loc} {cells slots : Nat} {Q : State → Prop} {pc nL : Nat} {ls : Array Slot} {rest st : List Value} {D : va_G} {K : Nat → ClassId} {own : String} {A : Nat → Prop} {ws : va_W}
theorem x_newa (hE : CallFix p m c cc nL s args tbG own) {atype : ArrayType} {ty : FieldType} (harr : Cond.arrayClass (newarray.typeOf atype) ∈ tbG) (hty : newarray.typeOf atype = ty) (hK : va_K D xcl (xty K) s) (t0 : Nat) {cA : ClassId} (ht : (xty K)[t0]? = some (cA, ty)) (hP : va_P D xcl ws H) (hD : va_D A ws) (hS : va_S A s.heap H locs) (hA : ∀ q, s.heap.size ≤ q → A q) {n : Int32} {N' : Nat} {a0 : vp_A} (ha : ∀ cA : ClassId, vp_cell cA a0 = arrV cA N' (fun _ => defaultValue ty)) (hn : ¬ n < 0) (hN : n.toNatClampNeg = N') (hbytes : N' * componentBytes ty ≤ 536870912) {k z : Nat} (hk : cells + 1 = k) (hz : slots + N' = z) (hcells : k ≤ R.cells) (hslots : z ≤ R.slots) (hdg : decode cc pc = .ok (.newarray atype, 2))
    (kk : ∀ (q : Nat) (H1 : Heap), va_P D xcl (ws ++ [(q, .inl (cA, a0))]) H1 → va_D A (ws ++ [(q, .inl (cA, a0))]) → va_S A s.heap H1 locs → W p l e R s m args below meth c H1 locs k z Q (F0 m (pc + 2) ls (.ref q :: rest))) : W p l e R s m args below meth c H locs cells slots Q (F0 m pc ls (.int n :: rest)) := by
  subst hk; subst hz
  refine va_newa (a0 := a0) hE.1 hE.2.1 (hE.2.2.2.2 _ harr) hty hK hP hD hS hA ha hn hN hbytes hcells hslots hdg (fun q cB H1 hK1 hP1 hD1 hS1 => ?_)
  have h1 := (hK.2 t0 _ ht).2
  have h2 := (hK1.2 (xty K).length (cB, ty) (by simp)).2
  have h3 : cB = cA := ra_inj h2 h1
  subst h3
  exact kk q H1 hP1 hD1 hS1
theorem x_newq (hE : CallFix p m c cc nL s args tbG own) {C : String} {index : Nat} (hcl : Cond.classLink own index C ∈ tbG) (hover : va_AO C s) (hK : va_K D xcl (xty K) s) (t0 : Nat) {cA : ClassId} (ht : (xty K)[t0]? = some (cA, .object C)) (hP : va_P D xcl ws H) (hD : va_D A ws) (hS : va_S A s.heap H locs) (hA : ∀ q, s.heap.size ≤ q → A q) {n : Int32} {N' : Nat} (hn : ¬ n < 0) (hN : n.toNatClampNeg = N') (hbytes : N' * 4 ≤ 536870912) {k z : Nat} (hk : cells + 1 = k) (hz : slots + N' = z) (hcells : k ≤ R.cells) (hslots : z ≤ R.slots) (hdg : decode cc pc = .ok (.anewarray index, 3))
    (kk : ∀ (q : Nat) (H1 : Heap), va_P D xcl (ws ++ [(q, .inl (cA, N', .inr (.inr (.inr (.inr (fun _ => none))))))]) H1 → va_D A (ws ++ [(q, .inl (cA, N', .inr (.inr (.inr (.inr (fun _ => none))))))]) → va_S A s.heap H1 locs → W p l e R s m args below meth c H1 locs k z Q (F0 m (pc + 3) ls (.ref q :: rest))) : W p l e R s m args below meth c H locs cells slots Q (F0 m pc ls (.int n :: rest)) := by
  subst hk; subst hz
  refine va_newq hE.1 hE.2.1 hE.2.2.2.1 (hE.2.2.2.2 _ hcl) hover hK hP hD hS hA hn hN hbytes hcells hslots hdg (fun q cB H1 hK1 hP1 hD1 hS1 => ?_)
  have h1 := (hK.2 t0 _ ht).2
  have h2 := (hK1.2 (xty K).length (cB, .object C) (by simp)).2
  have h3 : cB = cA := ra_inj h2 h1
  subst h3
  exact kk q H1 hP1 hD1 hS1
theorem x_newo (hE : CallFix p m c cc nL s args tbG own) {C : String} {T : u_T} {N ci index : Nat} (hin : ∀ w ∈ u_ws C T N, w ∈ tbG) (ty : Nat → FieldType) (hty : ∀ k, k < N → parseFieldDescriptor (T k).2.2.1 = some (ty k)) (hcl : Cond.classLink own index C ∈ tbG) (hinst : Cond.instantiable C N ∈ tbG) (hini : Cond.initialized C ∈ tbG) (hK : va_K D xcl (xty K) s) (hP : va_P D xcl ws H) (hD : va_D A ws) (hS : va_S A s.heap H locs) (hA : ∀ q, s.heap.size ≤ q → A q) (hc : xcl[ci]? = some (C, T, N)) {fs : List Value} (hfs : ∀ j, j < N → defaultValue (ty j) = vp_V fs j) {k z : Nat} (hk : cells + 1 = k) (hz : slots + N = z) (hcells : k ≤ R.cells) (hslots : z ≤ R.slots) (hdg : decode cc pc = .ok (.new index, 3))
    (kk : ∀ (q : Nat) (H1 : Heap), va_P D xcl (ws ++ [(q, .inr (ci, fs))]) H1 → va_D A (ws ++ [(q, .inr (ci, fs))]) → va_S A s.heap H1 locs → W p l e R s m args below meth c H1 locs k z Q (F0 m (pc + 3) ls (.ref q :: rest))) : W p l e R s m args below meth c H locs cells slots Q (F0 m pc ls rest) := by
  subst hk; subst hz
  exact va_new (ci := ci) (fs := fs) hE.1 hE.2.1 hE.2.2.2.2 hin ty hty hE.2.2.2.1 (hE.2.2.2.2 _ hcl) (hE.2.2.2.2 _ hinst) (hE.2.2.2.2 _ hini) hK hP hD hS hA hc hfs hcells hslots hdg kk
theorem x_oinit (hE : CallFix p m c cc nL s args tbG own) {idx : Nat} (hlink : Cond.methodLink own idx objectInit ∈ tbG) (hinst : Cond.instanceMethod objectInit ∈ tbG) (hcode : Cond.code objectInit ⟨#[0xb1]⟩ 1 none ∈ tbG) {a : Nat} (hls : ls.size = nL) (hd : decode cc pc = .ok (.invokespecial idx, 3)) (hfr : 1 ≤ R.frames) (hlo : (rest.map fun v => v.category).sum + 12 ≤ R.locals) (kk : W p l e R s m args below meth c H locs cells slots Q (F0 m (pc + 3) ls rest)) : W p l e R s m args below meth c H locs cells slots Q (F0 m pc ls (.ref a :: rest)) :=
  W.objInit hE.1 hE.2.1 hE.2.2.2.1 (hE.2.2.2.2 _ hlink) (hE.2.2.2.2 _ hinst) (hE.2.2.2.2 _ hcode) rfl (by rw [hE.2.2.1]; exact hls) rfl hd hfr (by show 2 * 0 + _ + 12 ≤ _; omega) kk
/-- a put of a final field, in a constructor; the object stands first -/
theorem x_putF (hE : CallFix p m c cc nL s args tbG own) (hinn : meth.name = "<init>") (hK : va_K D xcl (xty K) s) {q ci : Nat} {fs : List Value} (hP : va_P D xcl ((q, .inr (ci, fs)) :: ws) H) (hD : va_D A ((q, .inr (ci, fs)) :: ws)) (hS : va_S A s.heap H locs) {C : String} {T : u_T} {Nc : Nat} (hc : xcl[ci]? = some (C, T, Nc)) (hin : ∀ w ∈ u_ws C T Nc, w ∈ tbG) (ty0 : Nat → FieldType) (hty : ∀ k, k < Nc → parseFieldDescriptor (T k).2.2.1 = some (ty0 k)) (hnm : ∀ a, a < Nc → ∀ b, b < Nc → a ≠ b → (T a).2.1 ≠ (T b).2.1) (k : Nat) (hk : k < Nc) {index : Nat} (hlink : Cond.fieldLink own index (T k).1 (T k).2.1 (T k).2.2.1 ∈ tbG) (hfin : (T k).2.2.2 = true) (hdecl : (T k).1 = own) {v : Value} (hn : narrow (ty0 k) v = v) (hfit : fits (ty0 k) v = true) (hl : k < fs.length) {fs' : List Value} (hfs : fs.set k v = fs') (hdg : decode cc pc = .ok (.putfield index, 3))
    (kk : ∀ (H1 : Heap) (locs1 : List Loc), va_P D xcl ((q, .inr (ci, fs')) :: ws) H1 → va_D A ((q, .inr (ci, fs')) :: ws) → va_S A s.heap H1 locs1 → W p l e R s m args below meth c H1 locs1 cells slots Q (F0 m (pc + 3) ls rest)) : W p l e R s m args below meth c H locs cells slots Q (F0 m pc ls (v :: .ref q :: rest)) := by
  subst hfs
  exact va_putF hE.1 hE.2.1 hE.2.2.2.2 hin ty0 hty hnm hE.2.2.2.1 hK hP hD hS 0 rfl hc k hk (hE.2.2.2.2 _ hlink) (fun _ h => h) hfin hinn hdecl (hty k hk) hn hfit hl hdg kk
/-- a put of a field that is not final -/
theorem x_putN (hE : CallFix p m c cc nL s args tbG own) (hK : va_K D xcl (xty K) s) {q ci : Nat} {fs : List Value} (hP : va_P D xcl ((q, .inr (ci, fs)) :: ws) H) (hD : va_D A ((q, .inr (ci, fs)) :: ws)) (hS : va_S A s.heap H locs) {C : String} {T : u_T} {Nc : Nat} (hc : xcl[ci]? = some (C, T, Nc)) (hin : ∀ w ∈ u_ws C T Nc, w ∈ tbG) (ty0 : Nat → FieldType) (hty : ∀ k, k < Nc → parseFieldDescriptor (T k).2.2.1 = some (ty0 k)) (hnm : ∀ a, a < Nc → ∀ b, b < Nc → a ≠ b → (T a).2.1 ≠ (T b).2.1) (k : Nat) (hk : k < Nc) {index : Nat} (hlink : Cond.fieldLink own index (T k).1 (T k).2.1 (T k).2.2.1 ∈ tbG) (hfin : (T k).2.2.2 = false) {v : Value} (hn : narrow (ty0 k) v = v) (hfit : fits (ty0 k) v = true) (hl : k < fs.length) {fs' : List Value} (hfs : fs.set k v = fs') (hdg : decode cc pc = .ok (.putfield index, 3))
    (kk : ∀ (H1 : Heap) (locs1 : List Loc), va_P D xcl ((q, .inr (ci, fs')) :: ws) H1 → va_D A ((q, .inr (ci, fs')) :: ws) → va_S A s.heap H1 locs1 → W p l e R s m args below meth c H1 locs1 cells slots Q (F0 m (pc + 3) ls rest)) : W p l e R s m args below meth c H locs cells slots Q (F0 m pc ls (v :: .ref q :: rest)) := by
  subst hfs
  exact va_put hE.1 hE.2.1 hE.2.2.2.2 hin ty0 hty hnm hE.2.2.2.1 hK hP hD hS 0 rfl hc k hk (hE.2.2.2.2 _ hlink) (fun _ h => h) hfin (hty k hk) hn hfit hl hdg kk
theorem x_getN (hE : CallFix p m c cc nL s args tbG own) (hK : va_K D xcl (xty K) s) {q ci : Nat} {fs : List Value} (hP : va_P D xcl ((q, .inr (ci, fs)) :: ws) H) {C : String} {T : u_T} {Nc : Nat} (hc : xcl[ci]? = some (C, T, Nc)) (hin : ∀ w ∈ u_ws C T Nc, w ∈ tbG) (k : Nat) (hk : k < Nc) {index : Nat} (hlink : Cond.fieldLink own index (T k).1 (T k).2.1 (T k).2.2.1 ∈ tbG) {v : Value} (hv : fs[k]? = some v) (hdg : decode cc pc = .ok (.getfield index, 3))
    (kk : W p l e R s m args below meth c H locs cells slots Q (F0 m (pc + 3) ls (v :: rest))) : W p l e R s m args below meth c H locs cells slots Q (F0 m pc ls (.ref q :: rest)) :=
  va_get hE.1 hE.2.1 hE.2.2.2.2 hin hE.2.2.2.1 hK hP 0 rfl hc k hk (hE.2.2.2.2 _ hlink) (fun _ h => h) hv hdg kk
/-- a constructor's call: the new object stands last -/
theorem x_ctor (hE : CallFix p m c cc nL s args tbG own) (hK : va_K D xcl (xty K) s) (hnp : nPre s) {q : Nat} {e0 : va_E} (hP : va_P D xcl (ws ++ [(q, e0)]) H) (hD : va_D A (ws ++ [(q, e0)])) (hS : va_S A s.heap H locs) (hA : ∀ x, s.heap.size ≤ x → A x) {y : MethodName} {b : ByteArray} {mL d idx nn mc ms : Nat} {As : List Value} {blk : (Nat → Nat) → va_W} (hM : Met l y (wM y b mL none) (rmC d mc ms) (va_Pc (.ref q :: As) (cPre D K q H.size e0)) (va_Qv (fun a : Nat → Nat => a 0 = q) (cB D (va_A [(q, e0)] H.size) blk) (va_A [(q, e0)] H.size)) mc ms (va_A [(q, e0)] H.size)) (hnn : As.length = nn) (h1 : Cond.methodLink own idx y ∈ tbG) (h2 : Cond.instanceMethod y ∈ tbG) (h4 : Cond.initialized y.cls ∈ tbG) (h5 : Cond.code y b mL none ∈ tbG) (hyn : y.name = "<init>") (hd : y.cls ≠ "java/lang/invoke/MethodHandle" ∧ y.cls ≠ "java/lang/invoke/VarHandle" ∧ (parseMethodDescriptor y.desc).map (fun d => d.parameters.length) = some nn) (hR : d + 1 ≤ R.frames ∧ 8 + (mL + 11) + 64 * d ≤ R.locals) (hls : ls.size = nL) (hst : st = As.reverse ++ .ref q :: rest) (hw : (rest.map fun v => v.category).sum ≤ 8) {k z : Nat} (hk : cells + mc = k) (hz : slots + ms = z) (hcells : k ≤ R.cells) (hslots : z ≤ R.slots) (hdg : decode cc pc = .ok (.invokespecial idx, 3))
    (kk : ∀ (a : Nat → Nat) (H1 : Heap) (locs1 : List Loc), a 0 = q → va_P D xcl (ws ++ blk a) H1 → va_D A (ws ++ blk a) → va_S A s.heap H1 locs1 → W p l e R s m args below meth c H1 locs1 k z Q (F0 m (pc + 3) ls rest)) : W p l e R s m args below meth c H locs cells slots Q (F0 m pc ls st) := by
  subst hk; subst hz
  have hPc : va_P D xcl [(q, e0)] H := P_mem.mpr (fun x hx => P_mem.mp hP x (List.mem_append_right _ hx))
  have hF : ∀ x, va_A [(q, e0)] H.size x → A x := by
    intro x hx
    rcases hx with ⟨k2, e2, h⟩ | h
    · exact hD.2 ws.length (x, e2) (by
        have h9 : k2 < 1 := (List.getElem?_eq_some_iff.mp h).1
        rw [show k2 = 0 by omega] at h
        cases h
        simp)
    · exact hA x (Nat.le_trans hS.1 h)
  refine va_callv (va_runI (As := As) (rest := rest) hE hM (cwI nn hE.2.2.2.2 (gM h5) rfl rfl rfl (hE.2.2.2.2 _ h4) (hE.2.2.2.2 _ h1) (hE.2.2.2.2 _ h2) hyn hd hR) ⟨cPre_blind, fun U hU hW => ⟨rfl, by rw [hU], by rw [hU]; exact hPc, va_K.moved hW.alike hK, hnp.warm hW⟩⟩ rfl hnn hls hst (lv_room hw) hdg ⟨hcells, hslots⟩) hS (fun x _ h => hF x h) hF (fun a t H1 locs1 ht hvm ha hB _ hk1 hS1 => ?_)
  obtain ⟨hP1, hD1⟩ := hB
  rw [ht] at hP1
  obtain ⟨hP2, hD2⟩ := join_app hP hD hk1 hF hP1 hD1
  exact kk a H1 locs1 ha hP2 hD2 hS1
/-- the same, of a private constructor of a nest mate -/
theorem x_ctorN (hE : CallFix p m c cc nL s args tbG own) (hK : va_K D xcl (xty K) s) (hnp : nPre s) {q : Nat} {e0 : va_E} (hP : va_P D xcl (ws ++ [(q, e0)]) H) (hD : va_D A (ws ++ [(q, e0)])) (hS : va_S A s.heap H locs) (hA : ∀ x, s.heap.size ≤ x → A x) {y : MethodName} {host : String} {b : ByteArray} {mL d idx nn mc ms : Nat} {As : List Value} {blk : (Nat → Nat) → va_W} (hM : Met l y (wM y b mL none) (rmC d mc ms) (va_Pc (.ref q :: As) (cPre D K q H.size e0)) (va_Qv (fun a : Nat → Nat => a 0 = q) (cB D (va_A [(q, e0)] H.size) blk) (va_A [(q, e0)] H.size)) mc ms (va_A [(q, e0)] H.size)) (hnn : As.length = nn) (h1 : va_Nw (.methodLinkNest own idx y host) s) (h2 : Cond.instanceMethod y ∈ tbG) (h4 : Cond.initialized y.cls ∈ tbG) (h5 : Cond.code y b mL none ∈ tbG) (hyn : y.name = "<init>") (hd : y.cls ≠ "java/lang/invoke/MethodHandle" ∧ y.cls ≠ "java/lang/invoke/VarHandle" ∧ (parseMethodDescriptor y.desc).map (fun d => d.parameters.length) = some nn) (hR : d + 1 ≤ R.frames ∧ 8 + (mL + 11) + 64 * d ≤ R.locals) (hls : ls.size = nL) (hst : st = As.reverse ++ .ref q :: rest) (hw : (rest.map fun v => v.category).sum ≤ 8) {k z : Nat} (hk : cells + mc = k) (hz : slots + ms = z) (hcells : k ≤ R.cells) (hslots : z ≤ R.slots) (hdg : decode cc pc = .ok (.invokespecial idx, 3))
    (kk : ∀ (a : Nat → Nat) (H1 : Heap) (locs1 : List Loc), a 0 = q → va_P D xcl (ws ++ blk a) H1 → va_D A (ws ++ blk a) → va_S A s.heap H1 locs1 → W p l e R s m args below meth c H1 locs1 k z Q (F0 m (pc + 3) ls rest)) : W p l e R s m args below meth c H locs cells slots Q (F0 m pc ls st) := by
  subst hk; subst hz
  have hPc : va_P D xcl [(q, e0)] H := P_mem.mpr (fun x hx => P_mem.mp hP x (List.mem_append_right _ hx))
  have hF : ∀ x, va_A [(q, e0)] H.size x → A x := by
    intro x hx
    rcases hx with ⟨k2, e2, h⟩ | h
    · exact hD.2 ws.length (x, e2) (by
        have h9 : k2 < 1 := (List.getElem?_eq_some_iff.mp h).1
        rw [show k2 = 0 by omega] at h
        cases h
        simp)
    · exact hA x (Nat.le_trans hS.1 h)
  refine va_callv (va_runIN (As := As) (rest := rest) hE hM ⟨va_cnB nn hE.2.2.2.2 (gM h5) rfl rfl rfl h1 (hE.2.2.2.2 _ h4) hd hR, hyn, hE.2.2.2.2 _ h2⟩ ⟨cPre_blind, fun U hU hW => ⟨rfl, by rw [hU], by rw [hU]; exact hPc, va_K.moved hW.alike hK, hnp.warm hW⟩⟩ rfl hnn hls hst (lv_room hw) hdg ⟨hcells, hslots⟩) hS (fun x _ h => hF x h) hF (fun a t H1 locs1 ht hvm ha hB _ hk1 hS1 => ?_)
  obtain ⟨hP1, hD1⟩ := hB
  rw [ht] at hP1
  obtain ⟨hP2, hD2⟩ := join_app hP hD hk1 hF hP1 hD1
  exact kk a H1 locs1 ha hP2 hD2 hS1
end XC
end
